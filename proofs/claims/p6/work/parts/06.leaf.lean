theorem dX3_lacksEntries_0 : decode cX3_lacksEntries 0 = .ok (.aload_n 0, 1) := by decide +kernel
theorem dX3_lacksEntries_1 : decode cX3_lacksEntries 1 = .ok (.getfield 25, 3) := by decide +kernel
theorem dX3_lacksEntries_4 : decode cX3_lacksEntries 4 = .ok (.aload_n 0, 1) := by decide +kernel
theorem dX3_lacksEntries_5 : decode cX3_lacksEntries 5 = .ok (.getfield 21, 3) := by decide +kernel
theorem dX3_lacksEntries_8 : decode cX3_lacksEntries 8 = .ok (.arraylength, 1) := by decide +kernel
theorem dX3_lacksEntries_9 : decode cX3_lacksEntries 9 = .ok (.if_icmp .ge 7, 3) := by decide +kernel
theorem dX3_lacksEntries_12 : decode cX3_lacksEntries 12 = .ok (.iconst 1, 1) := by decide +kernel
theorem dX3_lacksEntries_13 : decode cX3_lacksEntries 13 = .ok (.goto 4, 3) := by decide +kernel
theorem dX3_lacksEntries_16 : decode cX3_lacksEntries 16 = .ok (.iconst 0, 1) := by decide +kernel
theorem dX3_lacksEntries_17 : decode cX3_lacksEntries 17 = .ok (.ireturn, 1) := by decide +kernel
theorem dX3_canHold_0 : decode cX3_canHold 0 = .ok (.aload_n 0, 1) := by decide +kernel
theorem dX3_canHold_1 : decode cX3_canHold 1 = .ok (.getfield 9, 3) := by decide +kernel
theorem dX3_canHold_4 : decode cX3_canHold 4 = .ok (.ifCond .ne 17, 3) := by decide +kernel
theorem dX3_canHold_7 : decode cX3_canHold 7 = .ok (.iload_n 1, 1) := by decide +kernel
theorem dX3_canHold_8 : decode cX3_canHold 8 = .ok (.sipush (-32768), 3) := by decide +kernel
theorem dX3_canHold_11 : decode cX3_canHold 11 = .ok (.if_icmp .lt 14, 3) := by decide +kernel
theorem dX3_canHold_14 : decode cX3_canHold 14 = .ok (.iload_n 1, 1) := by decide +kernel
theorem dX3_canHold_15 : decode cX3_canHold 15 = .ok (.sipush 32767, 3) := by decide +kernel
theorem dX3_canHold_18 : decode cX3_canHold 18 = .ok (.if_icmp .gt 7, 3) := by decide +kernel
theorem dX3_canHold_21 : decode cX3_canHold 21 = .ok (.iconst 1, 1) := by decide +kernel
theorem dX3_canHold_22 : decode cX3_canHold 22 = .ok (.goto 4, 3) := by decide +kernel
theorem dX3_canHold_25 : decode cX3_canHold 25 = .ok (.iconst 0, 1) := by decide +kernel
theorem dX3_canHold_26 : decode cX3_canHold 26 = .ok (.ireturn, 1) := by decide +kernel
theorem dX3_append_0 : decode cX3_append 0 = .ok (.aload_n 0, 1) := by decide +kernel
theorem dX3_append_1 : decode cX3_append 1 = .ok (.invokevirtual 28, 3) := by decide +kernel
theorem dX3_append_4 : decode cX3_append 4 = .ok (.ifCond .eq 23, 3) := by decide +kernel
theorem dX3_append_7 : decode cX3_append 7 = .ok (.aload_n 0, 1) := by decide +kernel
theorem dX3_append_8 : decode cX3_append 8 = .ok (.getfield 21, 3) := by decide +kernel
theorem dX3_append_11 : decode cX3_append 11 = .ok (.aload_n 0, 1) := by decide +kernel
theorem dX3_append_12 : decode cX3_append 12 = .ok (.getfield 25, 3) := by decide +kernel
theorem dX3_append_15 : decode cX3_append 15 = .ok (.iload_n 1, 1) := by decide +kernel
theorem dX3_append_16 : decode cX3_append 16 = .ok (.iastore, 1) := by decide +kernel
theorem dX3_append_17 : decode cX3_append 17 = .ok (.aload_n 0, 1) := by decide +kernel
theorem dX3_append_18 : decode cX3_append 18 = .ok (.dup, 1) := by decide +kernel
theorem dX3_append_19 : decode cX3_append 19 = .ok (.getfield 25, 3) := by decide +kernel
theorem dX3_append_22 : decode cX3_append 22 = .ok (.iconst 1, 1) := by decide +kernel
theorem dX3_append_23 : decode cX3_append 23 = .ok (.iadd, 1) := by decide +kernel
theorem dX3_append_24 : decode cX3_append 24 = .ok (.putfield 25, 3) := by decide +kernel
theorem dX3_append_27 : decode cX3_append 27 = .ok (.return_, 1) := by decide +kernel
theorem dX3_dropLatest_0 : decode cX3_dropLatest 0 = .ok (.aload_n 0, 1) := by decide +kernel
theorem dX3_dropLatest_1 : decode cX3_dropLatest 1 = .ok (.getfield 25, 3) := by decide +kernel
theorem dX3_dropLatest_4 : decode cX3_dropLatest 4 = .ok (.ifCond .le 13, 3) := by decide +kernel
theorem dX3_dropLatest_7 : decode cX3_dropLatest 7 = .ok (.aload_n 0, 1) := by decide +kernel
theorem dX3_dropLatest_8 : decode cX3_dropLatest 8 = .ok (.dup, 1) := by decide +kernel
theorem dX3_dropLatest_9 : decode cX3_dropLatest 9 = .ok (.getfield 25, 3) := by decide +kernel
theorem dX3_dropLatest_12 : decode cX3_dropLatest 12 = .ok (.iconst 1, 1) := by decide +kernel
theorem dX3_dropLatest_13 : decode cX3_dropLatest 13 = .ok (.isub, 1) := by decide +kernel
theorem dX3_dropLatest_14 : decode cX3_dropLatest 14 = .ok (.putfield 25, 3) := by decide +kernel
theorem dX3_dropLatest_17 : decode cX3_dropLatest 17 = .ok (.return_, 1) := by decide +kernel
theorem dX3_entryAt_0 : decode cX3_entryAt 0 = .ok (.iload_n 1, 1) := by decide +kernel
theorem dX3_entryAt_1 : decode cX3_entryAt 1 = .ok (.ifCond .lt 30, 3) := by decide +kernel
theorem dX3_entryAt_4 : decode cX3_entryAt 4 = .ok (.iload_n 1, 1) := by decide +kernel
theorem dX3_entryAt_5 : decode cX3_entryAt 5 = .ok (.aload_n 0, 1) := by decide +kernel
theorem dX3_entryAt_6 : decode cX3_entryAt 6 = .ok (.getfield 25, 3) := by decide +kernel
theorem dX3_entryAt_9 : decode cX3_entryAt 9 = .ok (.if_icmp .ge 22, 3) := by decide +kernel
theorem dX3_entryAt_12 : decode cX3_entryAt 12 = .ok (.iload_n 1, 1) := by decide +kernel
theorem dX3_entryAt_13 : decode cX3_entryAt 13 = .ok (.aload_n 0, 1) := by decide +kernel
theorem dX3_entryAt_14 : decode cX3_entryAt 14 = .ok (.getfield 21, 3) := by decide +kernel
theorem dX3_entryAt_17 : decode cX3_entryAt 17 = .ok (.arraylength, 1) := by decide +kernel
theorem dX3_entryAt_18 : decode cX3_entryAt 18 = .ok (.if_icmp .ge 13, 3) := by decide +kernel
theorem dX3_entryAt_21 : decode cX3_entryAt 21 = .ok (.aload_n 0, 1) := by decide +kernel
theorem dX3_entryAt_22 : decode cX3_entryAt 22 = .ok (.getfield 21, 3) := by decide +kernel
theorem dX3_entryAt_25 : decode cX3_entryAt 25 = .ok (.iload_n 1, 1) := by decide +kernel
theorem dX3_entryAt_26 : decode cX3_entryAt 26 = .ok (.iaload, 1) := by decide +kernel
theorem dX3_entryAt_27 : decode cX3_entryAt 27 = .ok (.i2l, 1) := by decide +kernel
theorem dX3_entryAt_28 : decode cX3_entryAt 28 = .ok (.goto 4, 3) := by decide +kernel
theorem dX3_entryAt_31 : decode cX3_entryAt 31 = .ok (.lconst 0, 1) := by decide +kernel
theorem dX3_entryAt_32 : decode cX3_entryAt 32 = .ok (.lreturn, 1) := by decide +kernel
theorem dX3_total_0 : decode cX3_total 0 = .ok (.lconst 0, 1) := by decide +kernel
theorem dX3_total_1 : decode cX3_total 1 = .ok (.lstore_n 1, 1) := by decide +kernel
theorem dX3_total_2 : decode cX3_total 2 = .ok (.iconst 0, 1) := by decide +kernel
theorem dX3_total_3 : decode cX3_total 3 = .ok (.istore_n 3, 1) := by decide +kernel
theorem dX3_total_4 : decode cX3_total 4 = .ok (.iload_n 3, 1) := by decide +kernel
theorem dX3_total_5 : decode cX3_total 5 = .ok (.aload_n 0, 1) := by decide +kernel
theorem dX3_total_6 : decode cX3_total 6 = .ok (.getfield 25, 3) := by decide +kernel
theorem dX3_total_9 : decode cX3_total 9 = .ok (.if_icmp .ge 28, 3) := by decide +kernel
theorem dX3_total_12 : decode cX3_total 12 = .ok (.iload_n 3, 1) := by decide +kernel
theorem dX3_total_13 : decode cX3_total 13 = .ok (.aload_n 0, 1) := by decide +kernel
theorem dX3_total_14 : decode cX3_total 14 = .ok (.getfield 21, 3) := by decide +kernel
theorem dX3_total_17 : decode cX3_total 17 = .ok (.arraylength, 1) := by decide +kernel
theorem dX3_total_18 : decode cX3_total 18 = .ok (.if_icmp .ge 19, 3) := by decide +kernel
theorem dX3_total_21 : decode cX3_total 21 = .ok (.lload_n 1, 1) := by decide +kernel
theorem dX3_total_22 : decode cX3_total 22 = .ok (.aload_n 0, 1) := by decide +kernel
theorem dX3_total_23 : decode cX3_total 23 = .ok (.getfield 21, 3) := by decide +kernel
theorem dX3_total_26 : decode cX3_total 26 = .ok (.iload_n 3, 1) := by decide +kernel
theorem dX3_total_27 : decode cX3_total 27 = .ok (.iaload, 1) := by decide +kernel
theorem dX3_total_28 : decode cX3_total 28 = .ok (.i2l, 1) := by decide +kernel
theorem dX3_total_29 : decode cX3_total 29 = .ok (.ladd, 1) := by decide +kernel
theorem dX3_total_30 : decode cX3_total 30 = .ok (.lstore_n 1, 1) := by decide +kernel
theorem dX3_total_31 : decode cX3_total 31 = .ok (.iinc 3 1, 3) := by decide +kernel
theorem dX3_total_34 : decode cX3_total 34 = .ok (.goto (-30), 3) := by decide +kernel
theorem dX3_total_37 : decode cX3_total 37 = .ok (.lload_n 1, 1) := by decide +kernel
theorem dX3_total_38 : decode cX3_total 38 = .ok (.lreturn, 1) := by decide +kernel
theorem dX4_isLimited_0 : decode cX4_isLimited 0 = .ok (.aload_n 0, 1) := by decide +kernel
theorem dX4_isLimited_1 : decode cX4_isLimited 1 = .ok (.getfield 15, 3) := by decide +kernel
theorem dX4_isLimited_4 : decode cX4_isLimited 4 = .ok (.invokestatic 25, 3) := by decide +kernel
theorem dX4_isLimited_7 : decode cX4_isLimited 7 = .ok (.ireturn, 1) := by decide +kernel
theorem dX4_isSilent_0 : decode cX4_isSilent 0 = .ok (.aload_n 0, 1) := by decide +kernel
theorem dX4_isSilent_1 : decode cX4_isSilent 1 = .ok (.getfield 15, 3) := by decide +kernel
theorem dX4_isSilent_4 : decode cX4_isSilent 4 = .ok (.iconst 2, 1) := by decide +kernel
theorem dX4_isSilent_5 : decode cX4_isSilent 5 = .ok (.if_icmp .eq 11, 3) := by decide +kernel
theorem dX4_isSilent_8 : decode cX4_isSilent 8 = .ok (.aload_n 0, 1) := by decide +kernel
theorem dX4_isSilent_9 : decode cX4_isSilent 9 = .ok (.getfield 15, 3) := by decide +kernel
theorem dX4_isSilent_12 : decode cX4_isSilent 12 = .ok (.iconst 4, 1) := by decide +kernel
theorem dX4_isSilent_13 : decode cX4_isSilent 13 = .ok (.if_icmp .ne 7, 3) := by decide +kernel
theorem dX4_isSilent_16 : decode cX4_isSilent 16 = .ok (.iconst 1, 1) := by decide +kernel
theorem dX4_isSilent_17 : decode cX4_isSilent 17 = .ok (.goto 4, 3) := by decide +kernel
theorem dX4_isSilent_20 : decode cX4_isSilent 20 = .ok (.iconst 0, 1) := by decide +kernel
theorem dX4_isSilent_21 : decode cX4_isSilent 21 = .ok (.ireturn, 1) := by decide +kernel
theorem dX6_isTerm_0 : decode cX6_isTerm 0 = .ok (.iload_n 0, 1) := by decide +kernel
theorem dX6_isTerm_1 : decode cX6_isTerm 1 = .ok (.ifCond .lt 22, 3) := by decide +kernel
theorem dX6_isTerm_4 : decode cX6_isTerm 4 = .ok (.iload_n 0, 1) := by decide +kernel
theorem dX6_isTerm_5 : decode cX6_isTerm 5 = .ok (.bipush 6, 2) := by decide +kernel
theorem dX6_isTerm_7 : decode cX6_isTerm 7 = .ok (.if_icmp .ge 16, 3) := by decide +kernel
theorem dX6_isTerm_10 : decode cX6_isTerm 10 = .ok (.iload_n 1, 1) := by decide +kernel
theorem dX6_isTerm_11 : decode cX6_isTerm 11 = .ok (.ifCond .lt 12, 3) := by decide +kernel
theorem dX6_isTerm_14 : decode cX6_isTerm 14 = .ok (.iload_n 1, 1) := by decide +kernel
theorem dX6_isTerm_15 : decode cX6_isTerm 15 = .ok (.iconst 4, 1) := by decide +kernel
theorem dX6_isTerm_16 : decode cX6_isTerm 16 = .ok (.if_icmp .ge 7, 3) := by decide +kernel
theorem dX6_isTerm_19 : decode cX6_isTerm 19 = .ok (.iconst 1, 1) := by decide +kernel
theorem dX6_isTerm_20 : decode cX6_isTerm 20 = .ok (.goto 4, 3) := by decide +kernel
theorem dX6_isTerm_23 : decode cX6_isTerm 23 = .ok (.iconst 0, 1) := by decide +kernel
theorem dX6_isTerm_24 : decode cX6_isTerm 24 = .ok (.ireturn, 1) := by decide +kernel
theorem dX9_hasEnded_0 : decode cX9_hasEnded 0 = .ok (.aload_n 0, 1) := by decide +kernel
theorem dX9_hasEnded_1 : decode cX9_hasEnded 1 = .ok (.getfield 9, 3) := by decide +kernel
theorem dX9_hasEnded_4 : decode cX9_hasEnded 4 = .ok (.iconst (-1), 1) := by decide +kernel
theorem dX9_hasEnded_5 : decode cX9_hasEnded 5 = .ok (.if_icmp .eq 7, 3) := by decide +kernel
theorem dX9_hasEnded_8 : decode cX9_hasEnded 8 = .ok (.iconst 1, 1) := by decide +kernel
theorem dX9_hasEnded_9 : decode cX9_hasEnded 9 = .ok (.goto 4, 3) := by decide +kernel
theorem dX9_hasEnded_12 : decode cX9_hasEnded 12 = .ok (.iconst 0, 1) := by decide +kernel
theorem dX9_hasEnded_13 : decode cX9_hasEnded 13 = .ok (.ireturn, 1) := by decide +kernel
theorem dX9_isIn_0 : decode cX9_isIn 0 = .ok (.iload_n 1, 1) := by decide +kernel
theorem dX9_isIn_1 : decode cX9_isIn 1 = .ok (.aload_n 0, 1) := by decide +kernel
theorem dX9_isIn_2 : decode cX9_isIn 2 = .ok (.getfield 25, 3) := by decide +kernel
theorem dX9_isIn_5 : decode cX9_isIn 5 = .ok (.if_icmp .lt 23, 3) := by decide +kernel
theorem dX9_isIn_8 : decode cX9_isIn 8 = .ok (.aload_n 0, 1) := by decide +kernel
theorem dX9_isIn_9 : decode cX9_isIn 9 = .ok (.getfield 9, 3) := by decide +kernel
theorem dX9_isIn_12 : decode cX9_isIn 12 = .ok (.iconst (-1), 1) := by decide +kernel
theorem dX9_isIn_13 : decode cX9_isIn 13 = .ok (.if_icmp .eq 11, 3) := by decide +kernel
theorem dX9_isIn_16 : decode cX9_isIn 16 = .ok (.iload_n 1, 1) := by decide +kernel
theorem dX9_isIn_17 : decode cX9_isIn 17 = .ok (.aload_n 0, 1) := by decide +kernel
theorem dX9_isIn_18 : decode cX9_isIn 18 = .ok (.getfield 9, 3) := by decide +kernel
theorem dX9_isIn_21 : decode cX9_isIn 21 = .ok (.if_icmp .ge 7, 3) := by decide +kernel
theorem dX9_isIn_24 : decode cX9_isIn 24 = .ok (.iconst 1, 1) := by decide +kernel
theorem dX9_isIn_25 : decode cX9_isIn 25 = .ok (.goto 4, 3) := by decide +kernel
theorem dX9_isIn_28 : decode cX9_isIn 28 = .ok (.iconst 0, 1) := by decide +kernel
theorem dX9_isIn_29 : decode cX9_isIn 29 = .ok (.ireturn, 1) := by decide +kernel
theorem dX9_room_0 : decode cX9_room 0 = .ok (.lconst 0, 1) := by decide +kernel
theorem dX9_room_1 : decode cX9_room 1 = .ok (.aload_n 0, 1) := by decide +kernel
theorem dX9_room_2 : decode cX9_room 2 = .ok (.getfield 18, 3) := by decide +kernel
theorem dX9_room_5 : decode cX9_room 5 = .ok (.getfield 32, 3) := by decide +kernel
theorem dX9_room_8 : decode cX9_room 8 = .ok (.i2l, 1) := by decide +kernel
theorem dX9_room_9 : decode cX9_room 9 = .ok (.aload_n 0, 1) := by decide +kernel
theorem dX9_room_10 : decode cX9_room 10 = .ok (.getfield 37, 3) := by decide +kernel
theorem dX9_room_13 : decode cX9_room 13 = .ok (.lsub, 1) := by decide +kernel
theorem dX9_room_14 : decode cX9_room 14 = .ok (.invokestatic 41, 3) := by decide +kernel
theorem dX9_room_17 : decode cX9_room 17 = .ok (.lreturn, 1) := by decide +kernel
theorem dX9_finish_0 : decode cX9_finish 0 = .ok (.aload_n 0, 1) := by decide +kernel
theorem dX9_finish_1 : decode cX9_finish 1 = .ok (.iload_n 1, 1) := by decide +kernel
theorem dX9_finish_2 : decode cX9_finish 2 = .ok (.putfield 9, 3) := by decide +kernel
theorem dX9_finish_5 : decode cX9_finish 5 = .ok (.aload_n 0, 1) := by decide +kernel
theorem dX9_finish_6 : decode cX9_finish 6 = .ok (.iload_n 2, 1) := by decide +kernel
theorem dX9_finish_7 : decode cX9_finish 7 = .ok (.putfield 47, 3) := by decide +kernel
theorem dX9_finish_10 : decode cX9_finish 10 = .ok (.aload_n 0, 1) := by decide +kernel
theorem dX9_finish_11 : decode cX9_finish 11 = .ok (.iload_n 3, 1) := by decide +kernel
theorem dX9_finish_12 : decode cX9_finish 12 = .ok (.putfield 50, 3) := by decide +kernel
theorem dX9_finish_15 : decode cX9_finish 15 = .ok (.return_, 1) := by decide +kernel
theorem dX9_accountOf_0 : decode cX9_accountOf 0 = .ok (.iload_n 1, 1) := by decide +kernel
theorem dX9_accountOf_1 : decode cX9_accountOf 1 = .ok (.tableswitch 78 0 6 #[43, 48, 53, 58, 63, 68, 73], 43) := by decide +kernel
theorem dX9_accountOf_44 : decode cX9_accountOf 44 = .ok (.aload_n 0, 1) := by decide +kernel
theorem dX9_accountOf_45 : decode cX9_accountOf 45 = .ok (.getfield 57, 3) := by decide +kernel
theorem dX9_accountOf_48 : decode cX9_accountOf 48 = .ok (.lreturn, 1) := by decide +kernel
theorem dX9_accountOf_49 : decode cX9_accountOf 49 = .ok (.aload_n 0, 1) := by decide +kernel
theorem dX9_accountOf_50 : decode cX9_accountOf 50 = .ok (.getfield 60, 3) := by decide +kernel
theorem dX9_accountOf_53 : decode cX9_accountOf 53 = .ok (.lreturn, 1) := by decide +kernel
theorem dX9_accountOf_54 : decode cX9_accountOf 54 = .ok (.aload_n 0, 1) := by decide +kernel
theorem dX9_accountOf_55 : decode cX9_accountOf 55 = .ok (.getfield 37, 3) := by decide +kernel
theorem dX9_accountOf_58 : decode cX9_accountOf 58 = .ok (.lreturn, 1) := by decide +kernel
theorem dX9_accountOf_59 : decode cX9_accountOf 59 = .ok (.aload_n 0, 1) := by decide +kernel
theorem dX9_accountOf_60 : decode cX9_accountOf 60 = .ok (.getfield 72, 3) := by decide +kernel
theorem dX9_accountOf_63 : decode cX9_accountOf 63 = .ok (.lreturn, 1) := by decide +kernel
theorem dX9_accountOf_64 : decode cX9_accountOf 64 = .ok (.aload_n 0, 1) := by decide +kernel
theorem dX9_accountOf_65 : decode cX9_accountOf 65 = .ok (.getfield 63, 3) := by decide +kernel
theorem dX9_accountOf_68 : decode cX9_accountOf 68 = .ok (.lreturn, 1) := by decide +kernel
theorem dX9_accountOf_69 : decode cX9_accountOf 69 = .ok (.aload_n 0, 1) := by decide +kernel
theorem dX9_accountOf_70 : decode cX9_accountOf 70 = .ok (.getfield 66, 3) := by decide +kernel
theorem dX9_accountOf_73 : decode cX9_accountOf 73 = .ok (.lreturn, 1) := by decide +kernel
theorem dX9_accountOf_74 : decode cX9_accountOf 74 = .ok (.aload_n 0, 1) := by decide +kernel
theorem dX9_accountOf_75 : decode cX9_accountOf 75 = .ok (.getfield 75, 3) := by decide +kernel
theorem dX9_accountOf_78 : decode cX9_accountOf 78 = .ok (.lreturn, 1) := by decide +kernel
theorem dX9_accountOf_79 : decode cX9_accountOf 79 = .ok (.lconst 0, 1) := by decide +kernel
theorem dX9_accountOf_80 : decode cX9_accountOf 80 = .ok (.lreturn, 1) := by decide +kernel
theorem dX9_factOf_0 : decode cX9_factOf 0 = .ok (.iload_n 1, 1) := by decide +kernel
theorem dX9_factOf_1 : decode cX9_factOf 1 = .ok (.tableswitch 129 0 7 #[47, 55, 60, 65, 70, 83, 88, 107], 47) := by decide +kernel
theorem dX9_factOf_48 : decode cX9_factOf 48 = .ok (.aload_n 0, 1) := by decide +kernel
theorem dX9_factOf_49 : decode cX9_factOf 49 = .ok (.getfield 18, 3) := by decide +kernel
theorem dX9_factOf_52 : decode cX9_factOf 52 = .ok (.getfield 78, 3) := by decide +kernel
theorem dX9_factOf_55 : decode cX9_factOf 55 = .ok (.ireturn, 1) := by decide +kernel
theorem dX9_factOf_56 : decode cX9_factOf 56 = .ok (.aload_n 0, 1) := by decide +kernel
theorem dX9_factOf_57 : decode cX9_factOf 57 = .ok (.getfield 22, 3) := by decide +kernel
theorem dX9_factOf_60 : decode cX9_factOf 60 = .ok (.ireturn, 1) := by decide +kernel
theorem dX9_factOf_61 : decode cX9_factOf 61 = .ok (.aload_n 0, 1) := by decide +kernel
theorem dX9_factOf_62 : decode cX9_factOf 62 = .ok (.getfield 25, 3) := by decide +kernel
theorem dX9_factOf_65 : decode cX9_factOf 65 = .ok (.ireturn, 1) := by decide +kernel
theorem dX9_factOf_66 : decode cX9_factOf 66 = .ok (.aload_n 0, 1) := by decide +kernel
theorem dX9_factOf_67 : decode cX9_factOf 67 = .ok (.getfield 9, 3) := by decide +kernel
theorem dX9_factOf_70 : decode cX9_factOf 70 = .ok (.ireturn, 1) := by decide +kernel
theorem dX9_factOf_71 : decode cX9_factOf 71 = .ok (.aload_n 0, 1) := by decide +kernel
theorem dX9_factOf_72 : decode cX9_factOf 72 = .ok (.getfield 28, 3) := by decide +kernel
theorem dX9_factOf_75 : decode cX9_factOf 75 = .ok (.ifCond .eq 7, 3) := by decide +kernel
theorem dX9_factOf_78 : decode cX9_factOf 78 = .ok (.iconst 1, 1) := by decide +kernel
theorem dX9_factOf_79 : decode cX9_factOf 79 = .ok (.goto 4, 3) := by decide +kernel
theorem dX9_factOf_82 : decode cX9_factOf 82 = .ok (.iconst 0, 1) := by decide +kernel
theorem dX9_factOf_83 : decode cX9_factOf 83 = .ok (.ireturn, 1) := by decide +kernel
theorem dX9_factOf_84 : decode cX9_factOf 84 = .ok (.aload_n 0, 1) := by decide +kernel
theorem dX9_factOf_85 : decode cX9_factOf 85 = .ok (.getfield 47, 3) := by decide +kernel
theorem dX9_factOf_88 : decode cX9_factOf 88 = .ok (.ireturn, 1) := by decide +kernel
theorem dX9_factOf_89 : decode cX9_factOf 89 = .ok (.aload_n 0, 1) := by decide +kernel
theorem dX9_factOf_90 : decode cX9_factOf 90 = .ok (.getfield 53, 3) := by decide +kernel
theorem dX9_factOf_93 : decode cX9_factOf 93 = .ok (.ifnonnull 7, 3) := by decide +kernel
theorem dX9_factOf_96 : decode cX9_factOf 96 = .ok (.iconst (-1), 1) := by decide +kernel
theorem dX9_factOf_97 : decode cX9_factOf 97 = .ok (.goto 10, 3) := by decide +kernel
theorem dX9_factOf_100 : decode cX9_factOf 100 = .ok (.aload_n 0, 1) := by decide +kernel
theorem dX9_factOf_101 : decode cX9_factOf 101 = .ok (.getfield 53, 3) := by decide +kernel
theorem dX9_factOf_104 : decode cX9_factOf 104 = .ok (.getfield 15, 3) := by decide +kernel
theorem dX9_factOf_107 : decode cX9_factOf 107 = .ok (.ireturn, 1) := by decide +kernel
theorem dX9_factOf_108 : decode cX9_factOf 108 = .ok (.aload_n 0, 1) := by decide +kernel
theorem dX9_factOf_109 : decode cX9_factOf 109 = .ok (.getfield 18, 3) := by decide +kernel
theorem dX9_factOf_112 : decode cX9_factOf 112 = .ok (.invokevirtual 79, 3) := by decide +kernel
theorem dX9_factOf_115 : decode cX9_factOf 115 = .ok (.ifCond .eq 7, 3) := by decide +kernel
theorem dX9_factOf_118 : decode cX9_factOf 118 = .ok (.iconst (-1), 1) := by decide +kernel
theorem dX9_factOf_119 : decode cX9_factOf 119 = .ok (.goto 10, 3) := by decide +kernel
theorem dX9_factOf_122 : decode cX9_factOf 122 = .ok (.aload_n 0, 1) := by decide +kernel
theorem dX9_factOf_123 : decode cX9_factOf 123 = .ok (.getfield 18, 3) := by decide +kernel
theorem dX9_factOf_126 : decode cX9_factOf 126 = .ok (.getfield 83, 3) := by decide +kernel
theorem dX9_factOf_129 : decode cX9_factOf 129 = .ok (.ireturn, 1) := by decide +kernel
theorem dX9_factOf_130 : decode cX9_factOf 130 = .ok (.iconst (-1), 1) := by decide +kernel
theorem dX9_factOf_131 : decode cX9_factOf 131 = .ok (.ireturn, 1) := by decide +kernel
theorem dX11_isSeat_0 : decode cX11_isSeat 0 = .ok (.iload_n 0, 1) := by decide +kernel
theorem dX11_isSeat_1 : decode cX11_isSeat 1 = .ok (.ifCond .lt 13, 3) := by decide +kernel
theorem dX11_isSeat_4 : decode cX11_isSeat 4 = .ok (.iload_n 0, 1) := by decide +kernel
theorem dX11_isSeat_5 : decode cX11_isSeat 5 = .ok (.bipush 6, 2) := by decide +kernel
theorem dX11_isSeat_7 : decode cX11_isSeat 7 = .ok (.if_icmp .ge 7, 3) := by decide +kernel
theorem dX11_isSeat_10 : decode cX11_isSeat 10 = .ok (.iconst 1, 1) := by decide +kernel
theorem dX11_isSeat_11 : decode cX11_isSeat 11 = .ok (.goto 4, 3) := by decide +kernel
theorem dX11_isSeat_14 : decode cX11_isSeat 14 = .ok (.iconst 0, 1) := by decide +kernel
theorem dX11_isSeat_15 : decode cX11_isSeat 15 = .ok (.ireturn, 1) := by decide +kernel
theorem dX11_isDay_0 : decode cX11_isDay 0 = .ok (.iload_n 0, 1) := by decide +kernel
theorem dX11_isDay_1 : decode cX11_isDay 1 = .ok (.ifCond .lt 14, 3) := by decide +kernel
theorem dX11_isDay_4 : decode cX11_isDay 4 = .ok (.iload_n 0, 1) := by decide +kernel
theorem dX11_isDay_5 : decode cX11_isDay 5 = .ok (.sipush 999, 3) := by decide +kernel
theorem dX11_isDay_8 : decode cX11_isDay 8 = .ok (.if_icmp .gt 7, 3) := by decide +kernel
theorem dX11_isDay_11 : decode cX11_isDay 11 = .ok (.iconst 1, 1) := by decide +kernel
theorem dX11_isDay_12 : decode cX11_isDay 12 = .ok (.goto 4, 3) := by decide +kernel
theorem dX11_isDay_15 : decode cX11_isDay 15 = .ok (.iconst 0, 1) := by decide +kernel
theorem dX11_isDay_16 : decode cX11_isDay 16 = .ok (.ireturn, 1) := by decide +kernel
theorem dX11_isSum_0 : decode cX11_isSum 0 = .ok (.iload_n 0, 1) := by decide +kernel
theorem dX11_isSum_1 : decode cX11_isSum 1 = .ok (.iconst 1, 1) := by decide +kernel
theorem dX11_isSum_2 : decode cX11_isSum 2 = .ok (.if_icmp .lt 13, 3) := by decide +kernel
theorem dX11_isSum_5 : decode cX11_isSum 5 = .ok (.iload_n 0, 1) := by decide +kernel
theorem dX11_isSum_6 : decode cX11_isSum 6 = .ok (.ldc 64, 2) := by decide +kernel
theorem dX11_isSum_8 : decode cX11_isSum 8 = .ok (.if_icmp .gt 7, 3) := by decide +kernel
theorem dX11_isSum_11 : decode cX11_isSum 11 = .ok (.iconst 1, 1) := by decide +kernel
theorem dX11_isSum_12 : decode cX11_isSum 12 = .ok (.goto 4, 3) := by decide +kernel
theorem dX11_isSum_15 : decode cX11_isSum 15 = .ok (.iconst 0, 1) := by decide +kernel
theorem dX11_isSum_16 : decode cX11_isSum 16 = .ok (.ireturn, 1) := by decide +kernel
theorem dX11_isLimitedKind_0 : decode cX11_isLimitedKind 0 = .ok (.iload_n 0, 1) := by decide +kernel
theorem dX11_isLimitedKind_1 : decode cX11_isLimitedKind 1 = .ok (.iconst 1, 1) := by decide +kernel
theorem dX11_isLimitedKind_2 : decode cX11_isLimitedKind 2 = .ok (.if_icmp .eq 13, 3) := by decide +kernel
theorem dX11_isLimitedKind_5 : decode cX11_isLimitedKind 5 = .ok (.iload_n 0, 1) := by decide +kernel
theorem dX11_isLimitedKind_6 : decode cX11_isLimitedKind 6 = .ok (.iconst 2, 1) := by decide +kernel
theorem dX11_isLimitedKind_7 : decode cX11_isLimitedKind 7 = .ok (.if_icmp .eq 8, 3) := by decide +kernel
theorem dX11_isLimitedKind_10 : decode cX11_isLimitedKind 10 = .ok (.iload_n 0, 1) := by decide +kernel
theorem dX11_isLimitedKind_11 : decode cX11_isLimitedKind 11 = .ok (.iconst 4, 1) := by decide +kernel
theorem dX11_isLimitedKind_12 : decode cX11_isLimitedKind 12 = .ok (.if_icmp .ne 7, 3) := by decide +kernel
theorem dX11_isLimitedKind_15 : decode cX11_isLimitedKind 15 = .ok (.iconst 1, 1) := by decide +kernel
theorem dX11_isLimitedKind_16 : decode cX11_isLimitedKind 16 = .ok (.goto 4, 3) := by decide +kernel
theorem dX11_isLimitedKind_19 : decode cX11_isLimitedKind 19 = .ok (.iconst 0, 1) := by decide +kernel
theorem dX11_isLimitedKind_20 : decode cX11_isLimitedKind 20 = .ok (.ireturn, 1) := by decide +kernel
theorem wd_0 : Cond.constant RX11 64 1000000000 ∈ lw_good := mem_t2 66 (by decide +kernel) rfl
theorem wd_1 : Cond.fieldLink RX4 15 RX4 "kind" "I" ∈ lw_good := mem_t2 78 (by decide +kernel) rfl
theorem wd_2 : Cond.code yX11_isLimitedKind cX11_isLimitedKind 1 (some .boolean) ∈ lw_good := mem_t2 65 rfl rfl
theorem wd_3 : Cond.initialized RX11 ∈ lw_good := mem_t1 1 (by decide +kernel) rfl
theorem wd_4 : Cond.static yX11_isLimitedKind ∈ lw_good := mem_t2 64 (by decide +kernel) rfl
theorem wd_5 : Cond.fieldLink RX9 9 RX9 "end" "I" ∈ lw_good := mem_t2 201 (by decide +kernel) rfl
theorem wd_6 : Cond.fieldLink RX9 25 RX9 "begin" "I" ∈ lw_good := mem_t2 196 (by decide +kernel) rfl
theorem wd_7 : Cond.fieldLink RX9 18 RX9 "partner" "LPartnersBook$Partner;" ∈ lw_good := mem_t2 188 (by decide +kernel) rfl
theorem wd_8 : Cond.fieldLink RX9 32 RX4 "limit" "I" ∈ lw_good := mem_t2 83 (by decide +kernel) rfl
theorem wd_9 : Cond.fieldLink RX9 37 RX9 "borneSum" "J" ∈ lw_good := mem_t2 215 (by decide +kernel) rfl
theorem wd_10 : Cond.methodLink RX9 41 Lib.MathLoose.max_long.x ∈ lw_good := mem_t4 165 (by decide +kernel) rfl
theorem wd_11 : Cond.static Lib.MathLoose.max_long.x ∈ lw_good := mem_t4 129 (by decide +kernel) rfl
theorem wd_12 : Cond.initialized "java/lang/Math" ∈ lw_good := mem_t1 8 (by decide +kernel) rfl
theorem wd_13 : Cond.code Lib.MathLoose.max_long.x Lib.MathLoose.max_long.code 4 (some .long) ∈ lw_good := mem_t4 130 (by decide +kernel) rfl
theorem wd_14 : Cond.fieldLink RX9 47 RX9 "instalments" "I" ∈ lw_good := mem_t2 205 (by decide +kernel) rfl
theorem wd_15 : Cond.fieldLink RX9 50 RX9 "years" "I" ∈ lw_good := mem_t2 206 (by decide +kernel) rfl
theorem wd_16 : Cond.fieldLink RX9 57 RX9 "credit" "J" ∈ lw_good := mem_t2 211 (by decide +kernel) rfl
theorem wd_17 : Cond.fieldLink RX9 60 RX9 "hiddenSum" "J" ∈ lw_good := mem_t2 213 (by decide +kernel) rfl
theorem wd_18 : Cond.fieldLink RX9 72 RX9 "lent" "J" ∈ lw_good := mem_t2 217 (by decide +kernel) rfl
theorem wd_19 : Cond.fieldLink RX9 63 RX9 "payable" "J" ∈ lw_good := mem_t2 219 (by decide +kernel) rfl
theorem wd_20 : Cond.fieldLink RX9 66 RX9 "paid" "J" ∈ lw_good := mem_t2 220 (by decide +kernel) rfl
theorem wd_21 : Cond.fieldLink RX9 75 RX9 "dues" "J" ∈ lw_good := mem_t2 221 (by decide +kernel) rfl
theorem wd_22 : Cond.fieldLink RX9 78 RX4 "number" "I" ∈ lw_good := mem_t2 77 (by decide +kernel) rfl
theorem wd_23 : Cond.fieldLink RX9 22 RX9 "seat" "I" ∈ lw_good := mem_t2 192 (by decide +kernel) rfl
theorem wd_24 : Cond.fieldLink RX9 28 RX9 "word" "Z" ∈ lw_good := mem_t2 199 (by decide +kernel) rfl
theorem wd_25 : Cond.fieldLink RX9 53 RX9 "heir" "LPartnersBook$Tenure;" ∈ lw_good := mem_t2 208 (by decide +kernel) rfl
theorem wd_26 : Cond.fieldLink RX9 15 RX9 "number" "I" ∈ lw_good := mem_t2 185 (by decide +kernel) rfl
theorem wd_27 : Cond.methodLink RX9 79 yX4_isSilent ∈ lw_good := mem_t5 22 (by decide +kernel) rfl
theorem wd_28 : Cond.instanceMethod yX4_isSilent ∈ lw_good := mem_t5 23 (by decide +kernel) rfl
theorem wd_29 : Cond.selects RX4 yX4_isSilent yX4_isSilent ∈ lw_good := mem_t5 24 (by decide +kernel) rfl
theorem wd_30 : Cond.initialized RX4 ∈ lw_good := mem_t1 11 (by decide +kernel) rfl
theorem wd_31 : Cond.code yX4_isSilent cX4_isSilent 1 (some .boolean) ∈ lw_good := mem_t5 25 rfl rfl
theorem wd_32 : Cond.fieldLink RX9 83 RX4 "kind" "I" ∈ lw_good := mem_t2 79 (by decide +kernel) rfl
theorem wd_33 : Cond.fieldLink RX3 25 RX3 "count" "I" ∈ lw_good := mem_t3 94 (by decide +kernel) rfl
theorem wd_34 : Cond.fieldLink RX3 21 RX3 "entries" "[I" ∈ lw_good := mem_t3 93 (by decide +kernel) rfl
theorem wd_35 : Cond.fieldLink RX3 9 RX3 "sort" "I" ∈ lw_good := mem_t3 92 (by decide +kernel) rfl
theorem wd_36 : Cond.methodLink RX3 28 yX3_lacksEntries ∈ lw_good := mem_t3 138 (by decide +kernel) rfl
theorem wd_37 : Cond.instanceMethod yX3_lacksEntries ∈ lw_good := mem_t3 127 (by decide +kernel) rfl
theorem wd_38 : Cond.selects RX3 yX3_lacksEntries yX3_lacksEntries ∈ lw_good := mem_t3 128 (by decide +kernel) rfl
theorem wd_39 : Cond.initialized RX3 ∈ lw_good := mem_t1 16 (by decide +kernel) rfl
theorem wd_40 : Cond.code yX3_lacksEntries cX3_lacksEntries 1 (some .boolean) ∈ lw_good := mem_t3 129 rfl rfl
theorem minL {f y n : Int32} (e : f = if y < n then y else n) : f ≤ n := by
  rw [e]
  split
  · rename_i q; exact Int32.le_of_lt q
  · exact Int32.le_refl n
set_option maxHeartbeats 4000000 in
set_option maxRecDepth 100000 in
theorem s_X11_isSeat (l : Launch) (D : va_G) (cy : Nat → ClassId) (K : Kp) (L : List Nat) (M : Hp) (sz : Nat) (k1 : Int32) (hW : WOK cy K L M)  : Met l yX11_isSeat (wsM yX11_isSeat cX11_isSeat 1 (some .boolean)) ({ frames := 0, cells := 0, slots := 0, locals := 0 }) (va_Pc [.int k1] (PG D cy [] L M sz)) (va_Qi (fun (r : Int32) (_ : Unit) => (r = 1 ∧ ¬ k1 < 0 ∧ ¬ 6 ≤ k1) ∨ (r = 0)) (fun _ t => PQ D [] L M (va_A ([] ++ va_pl L M) sz) t) (va_A ([] ++ va_pl L M) sz)) 0 0 (va_A ([] ++ va_pl L M) sz) := by
  refine Met.ofW (cc := cX11_isSeat) (maxL := 1) (ret := (some .boolean)) (by decide) rfl ?_
  intro p e s m args below meth c s₁ B hml hv
  obtain ⟨rfl, hsz, hP, hK, hD0, hN⟩ := hv
  have hx := B.exec
  have hb := B.bytes
  have hr := B.returns
  have hts := atoms_spec (ws := (wsM yX11_isSeat cX11_isSeat 1 (some .boolean))) B.pre
  have hg : ∀ w ∈ lw_good, w.before _ s = true := fun w h => hts w (List.mem_cons_of_mem _ h)
  have hown : s.vm.findClass RX11 = some m.cls := findClass_of_methodNamed B.named
  have hlocks := B.notSynchronized
  subst hsz
  have hD := hD0.self (sz := s.heap.size)
  generalize hAe : va_A ([] ++ va_pl L M) s.heap.size = A at hD ⊢
  have hA : ∀ q : Nat, s.heap.size ≤ q → A q := fun q h => by rw [← hAe]; exact Or.inr h
  have hS : va_S A s.heap s.heap [] := va_S.rf
  have hl := lv_entry ([.int k1]) (n := 1) (Nat.le_of_ble_eq_true rfl)
  rw [lg_entry_eq]
  generalize (lg_sl ([.int k1]) ++ List.replicate (1 - (lg_sl ([.int k1])).length) Slot.unset).toArray = ls at hl ⊢
  refine W.nameQ (fun Q hQ => ?_)
  refine W.nameR (fun R hR => ?_)
  have hRf : 0 ≤ R.frames := by rw [hR]; exact Nat.le_of_ble_eq_true rfl
  have hRl : 0 ≤ R.locals := by rw [hR]; exact Nat.le_of_ble_eq_true rfl
  have hRc : 0 ≤ R.cells := by rw [hR]; exact Nat.le_of_ble_eq_true rfl
  have hRs : 0 ≤ R.slots := by rw [hR]; exact Nat.le_of_ble_eq_true rfl
  have hl : lv_has ls 1 [(0, .int k1)] := hl
  refine lv_iload_n hx hb dX11_isSeat_0 rfl (lv_at hl 0 rfl) ?_
  refine lv_if_lt (tgt := 14) hx hb dX11_isSeat_1 (by decide) (fun c_1 => ?_) (fun c_1 => ?_)
  · have hz := rfl (a := 0)
    refine lv_iconst (v := 0) hx hb dX11_isSeat_14 (by decide) ?_
    rw [hQ]
    exact W.zret (v := 0) hx hb hr rfl (fun t ht hW9 => ⟨⟨0, (), rfl, (Or.inr rfl), ⟨by rw [ht]; exact hP, hD⟩⟩, hS.F ht⟩) hS.2.2 dX11_isSeat_15
  · have hz := rfl (a := 0)
    refine lv_iload_n hx hb dX11_isSeat_4 rfl (lv_at hl 0 rfl) ?_
    refine lv_bipush (v := 6) hx hb dX11_isSeat_5 (by decide) ?_
    refine lv_icmp_ge (tgt := 14) hx hb dX11_isSeat_7 (by decide) (fun c_2 => ?_) (fun c_2 => ?_)
    · have hz := rfl (a := 0)
      refine lv_iconst (v := 0) hx hb dX11_isSeat_14 (by decide) ?_
      rw [hQ]
      exact W.zret (v := 0) hx hb hr rfl (fun t ht hW9 => ⟨⟨0, (), rfl, (Or.inr rfl), ⟨by rw [ht]; exact hP, hD⟩⟩, hS.F ht⟩) hS.2.2 dX11_isSeat_15
    · have hz := rfl (a := 0)
      refine lv_iconst (v := 1) hx hb dX11_isSeat_10 (by decide) ?_
      refine lv_goto (tgt := 15) hx hb dX11_isSeat_11 (by decide) ?_
      rw [hQ]
      exact W.zret (v := 1) hx hb hr rfl (fun t ht hW9 => ⟨⟨1, (), rfl, (Or.inl ⟨rfl, c_1, c_2⟩), ⟨by rw [ht]; exact hP, hD⟩⟩, hS.F ht⟩) hS.2.2 dX11_isSeat_15
set_option maxHeartbeats 4000000 in
set_option maxRecDepth 100000 in
theorem s_X11_isDay (l : Launch) (D : va_G) (cy : Nat → ClassId) (K : Kp) (L : List Nat) (M : Hp) (sz : Nat) (k1 : Int32) (hW : WOK cy K L M)  : Met l yX11_isDay (wsM yX11_isDay cX11_isDay 1 (some .boolean)) ({ frames := 0, cells := 0, slots := 0, locals := 0 }) (va_Pc [.int k1] (PG D cy [] L M sz)) (va_Qi (fun (r : Int32) (_ : Unit) => (r = 1 ∧ ¬ k1 < 0 ∧ ¬ 999 < k1) ∨ (r = 0)) (fun _ t => PQ D [] L M (va_A ([] ++ va_pl L M) sz) t) (va_A ([] ++ va_pl L M) sz)) 0 0 (va_A ([] ++ va_pl L M) sz) := by
  refine Met.ofW (cc := cX11_isDay) (maxL := 1) (ret := (some .boolean)) (by decide) rfl ?_
  intro p e s m args below meth c s₁ B hml hv
  obtain ⟨rfl, hsz, hP, hK, hD0, hN⟩ := hv
  have hx := B.exec
  have hb := B.bytes
  have hr := B.returns
  have hts := atoms_spec (ws := (wsM yX11_isDay cX11_isDay 1 (some .boolean))) B.pre
  have hg : ∀ w ∈ lw_good, w.before _ s = true := fun w h => hts w (List.mem_cons_of_mem _ h)
  have hown : s.vm.findClass RX11 = some m.cls := findClass_of_methodNamed B.named
  have hlocks := B.notSynchronized
  subst hsz
  have hD := hD0.self (sz := s.heap.size)
  generalize hAe : va_A ([] ++ va_pl L M) s.heap.size = A at hD ⊢
  have hA : ∀ q : Nat, s.heap.size ≤ q → A q := fun q h => by rw [← hAe]; exact Or.inr h
  have hS : va_S A s.heap s.heap [] := va_S.rf
  have hl := lv_entry ([.int k1]) (n := 1) (Nat.le_of_ble_eq_true rfl)
  rw [lg_entry_eq]
  generalize (lg_sl ([.int k1]) ++ List.replicate (1 - (lg_sl ([.int k1])).length) Slot.unset).toArray = ls at hl ⊢
  refine W.nameQ (fun Q hQ => ?_)
  refine W.nameR (fun R hR => ?_)
  have hRf : 0 ≤ R.frames := by rw [hR]; exact Nat.le_of_ble_eq_true rfl
  have hRl : 0 ≤ R.locals := by rw [hR]; exact Nat.le_of_ble_eq_true rfl
  have hRc : 0 ≤ R.cells := by rw [hR]; exact Nat.le_of_ble_eq_true rfl
  have hRs : 0 ≤ R.slots := by rw [hR]; exact Nat.le_of_ble_eq_true rfl
  have hl : lv_has ls 1 [(0, .int k1)] := hl
  refine lv_iload_n hx hb dX11_isDay_0 rfl (lv_at hl 0 rfl) ?_
  refine lv_if_lt (tgt := 15) hx hb dX11_isDay_1 (by decide) (fun c_1 => ?_) (fun c_1 => ?_)
  · have hz := rfl (a := 0)
    refine lv_iconst (v := 0) hx hb dX11_isDay_15 (by decide) ?_
    rw [hQ]
    exact W.zret (v := 0) hx hb hr rfl (fun t ht hW9 => ⟨⟨0, (), rfl, (Or.inr rfl), ⟨by rw [ht]; exact hP, hD⟩⟩, hS.F ht⟩) hS.2.2 dX11_isDay_16
  · have hz := rfl (a := 0)
    refine lv_iload_n hx hb dX11_isDay_4 rfl (lv_at hl 0 rfl) ?_
    refine lv_sipush (v := 999) hx hb dX11_isDay_5 (by decide) ?_
    refine lv_icmp_gt (tgt := 15) hx hb dX11_isDay_8 (by decide) (fun c_2 => ?_) (fun c_2 => ?_)
    · have hz := rfl (a := 0)
      refine lv_iconst (v := 0) hx hb dX11_isDay_15 (by decide) ?_
      rw [hQ]
      exact W.zret (v := 0) hx hb hr rfl (fun t ht hW9 => ⟨⟨0, (), rfl, (Or.inr rfl), ⟨by rw [ht]; exact hP, hD⟩⟩, hS.F ht⟩) hS.2.2 dX11_isDay_16
    · have hz := rfl (a := 0)
      refine lv_iconst (v := 1) hx hb dX11_isDay_11 (by decide) ?_
      refine lv_goto (tgt := 16) hx hb dX11_isDay_12 (by decide) ?_
      rw [hQ]
      exact W.zret (v := 1) hx hb hr rfl (fun t ht hW9 => ⟨⟨1, (), rfl, (Or.inl ⟨rfl, c_1, c_2⟩), ⟨by rw [ht]; exact hP, hD⟩⟩, hS.F ht⟩) hS.2.2 dX11_isDay_16
set_option maxHeartbeats 4000000 in
set_option maxRecDepth 100000 in
theorem s_X11_isSum (l : Launch) (D : va_G) (cy : Nat → ClassId) (K : Kp) (L : List Nat) (M : Hp) (sz : Nat) (k1 : Int32) (hW : WOK cy K L M)  : Met l yX11_isSum (wsM yX11_isSum cX11_isSum 1 (some .boolean)) ({ frames := 0, cells := 0, slots := 0, locals := 0 }) (va_Pc [.int k1] (PG D cy [] L M sz)) (va_Qi (fun (r : Int32) (_ : Unit) => (r = 1) ∨ (r = 0)) (fun _ t => PQ D [] L M (va_A ([] ++ va_pl L M) sz) t) (va_A ([] ++ va_pl L M) sz)) 0 0 (va_A ([] ++ va_pl L M) sz) := by
  refine Met.ofW (cc := cX11_isSum) (maxL := 1) (ret := (some .boolean)) (by decide) rfl ?_
  intro p e s m args below meth c s₁ B hml hv
  obtain ⟨rfl, hsz, hP, hK, hD0, hN⟩ := hv
  have hx := B.exec
  have hb := B.bytes
  have hr := B.returns
  have hts := atoms_spec (ws := (wsM yX11_isSum cX11_isSum 1 (some .boolean))) B.pre
  have hg : ∀ w ∈ lw_good, w.before _ s = true := fun w h => hts w (List.mem_cons_of_mem _ h)
  have hown : s.vm.findClass RX11 = some m.cls := findClass_of_methodNamed B.named
  have hlocks := B.notSynchronized
  subst hsz
  have hD := hD0.self (sz := s.heap.size)
  generalize hAe : va_A ([] ++ va_pl L M) s.heap.size = A at hD ⊢
  have hA : ∀ q : Nat, s.heap.size ≤ q → A q := fun q h => by rw [← hAe]; exact Or.inr h
  have hS : va_S A s.heap s.heap [] := va_S.rf
  have hl := lv_entry ([.int k1]) (n := 1) (Nat.le_of_ble_eq_true rfl)
  rw [lg_entry_eq]
  generalize (lg_sl ([.int k1]) ++ List.replicate (1 - (lg_sl ([.int k1])).length) Slot.unset).toArray = ls at hl ⊢
  refine W.nameQ (fun Q hQ => ?_)
  refine W.nameR (fun R hR => ?_)
  have hRf : 0 ≤ R.frames := by rw [hR]; exact Nat.le_of_ble_eq_true rfl
  have hRl : 0 ≤ R.locals := by rw [hR]; exact Nat.le_of_ble_eq_true rfl
  have hRc : 0 ≤ R.cells := by rw [hR]; exact Nat.le_of_ble_eq_true rfl
  have hRs : 0 ≤ R.slots := by rw [hR]; exact Nat.le_of_ble_eq_true rfl
  have hl : lv_has ls 1 [(0, .int k1)] := hl
  refine lv_iload_n hx hb dX11_isSum_0 rfl (lv_at hl 0 rfl) ?_
  refine lv_iconst (v := 1) hx hb dX11_isSum_1 (by decide) ?_
  refine lv_icmp_lt (tgt := 15) hx hb dX11_isSum_2 (by decide) (fun c_1 => ?_) (fun c_1 => ?_)
  · have hz := rfl (a := 0)
    refine lv_iconst (v := 0) hx hb dX11_isSum_15 (by decide) ?_
    rw [hQ]
    exact W.zret (v := 0) hx hb hr rfl (fun t ht hW9 => ⟨⟨0, (), rfl, (Or.inr rfl), ⟨by rw [ht]; exact hP, hD⟩⟩, hS.F ht⟩) hS.2.2 dX11_isSum_16
  · have hz := rfl (a := 0)
    refine lv_iload_n hx hb dX11_isSum_5 rfl (lv_at hl 0 rfl) ?_
    refine lv_ldc (v := 1000000000) hx hb hown (hg _ wd_0) dX11_isSum_6 ?_
    refine lv_icmp_gt (tgt := 15) hx hb dX11_isSum_8 (by decide) (fun c_2 => ?_) (fun c_2 => ?_)
    · have hz := rfl (a := 0)
      refine lv_iconst (v := 0) hx hb dX11_isSum_15 (by decide) ?_
      rw [hQ]
      exact W.zret (v := 0) hx hb hr rfl (fun t ht hW9 => ⟨⟨0, (), rfl, (Or.inr rfl), ⟨by rw [ht]; exact hP, hD⟩⟩, hS.F ht⟩) hS.2.2 dX11_isSum_16
    · have hz := rfl (a := 0)
      refine lv_iconst (v := 1) hx hb dX11_isSum_11 (by decide) ?_
      refine lv_goto (tgt := 16) hx hb dX11_isSum_12 (by decide) ?_
      rw [hQ]
      exact W.zret (v := 1) hx hb hr rfl (fun t ht hW9 => ⟨⟨1, (), rfl, (Or.inl rfl), ⟨by rw [ht]; exact hP, hD⟩⟩, hS.F ht⟩) hS.2.2 dX11_isSum_16
set_option maxHeartbeats 4000000 in
set_option maxRecDepth 100000 in
theorem s_X11_isLimitedKind (l : Launch) (D : va_G) (cy : Nat → ClassId) (K : Kp) (L : List Nat) (M : Hp) (sz : Nat) (k1 : Int32) (hW : WOK cy K L M)  : Met l yX11_isLimitedKind (wsM yX11_isLimitedKind cX11_isLimitedKind 1 (some .boolean)) ({ frames := 0, cells := 0, slots := 0, locals := 0 }) (va_Pc [.int k1] (PG D cy [] L M sz)) (va_Qi (fun (r : Int32) (_ : Unit) => (r = 1) ∨ (r = 0)) (fun _ t => PQ D [] L M (va_A ([] ++ va_pl L M) sz) t) (va_A ([] ++ va_pl L M) sz)) 0 0 (va_A ([] ++ va_pl L M) sz) := by
  refine Met.ofW (cc := cX11_isLimitedKind) (maxL := 1) (ret := (some .boolean)) (by decide) rfl ?_
  intro p e s m args below meth c s₁ B hml hv
  obtain ⟨rfl, hsz, hP, hK, hD0, hN⟩ := hv
  have hx := B.exec
  have hb := B.bytes
  have hr := B.returns
  have hts := atoms_spec (ws := (wsM yX11_isLimitedKind cX11_isLimitedKind 1 (some .boolean))) B.pre
  have hg : ∀ w ∈ lw_good, w.before _ s = true := fun w h => hts w (List.mem_cons_of_mem _ h)
  have hown : s.vm.findClass RX11 = some m.cls := findClass_of_methodNamed B.named
  have hlocks := B.notSynchronized
  subst hsz
  have hD := hD0.self (sz := s.heap.size)
  generalize hAe : va_A ([] ++ va_pl L M) s.heap.size = A at hD ⊢
  have hA : ∀ q : Nat, s.heap.size ≤ q → A q := fun q h => by rw [← hAe]; exact Or.inr h
  have hS : va_S A s.heap s.heap [] := va_S.rf
  have hl := lv_entry ([.int k1]) (n := 1) (Nat.le_of_ble_eq_true rfl)
  rw [lg_entry_eq]
  generalize (lg_sl ([.int k1]) ++ List.replicate (1 - (lg_sl ([.int k1])).length) Slot.unset).toArray = ls at hl ⊢
  refine W.nameQ (fun Q hQ => ?_)
  refine W.nameR (fun R hR => ?_)
  have hRf : 0 ≤ R.frames := by rw [hR]; exact Nat.le_of_ble_eq_true rfl
  have hRl : 0 ≤ R.locals := by rw [hR]; exact Nat.le_of_ble_eq_true rfl
  have hRc : 0 ≤ R.cells := by rw [hR]; exact Nat.le_of_ble_eq_true rfl
  have hRs : 0 ≤ R.slots := by rw [hR]; exact Nat.le_of_ble_eq_true rfl
  have hl : lv_has ls 1 [(0, .int k1)] := hl
  refine lv_iload_n hx hb dX11_isLimitedKind_0 rfl (lv_at hl 0 rfl) ?_
  refine lv_iconst (v := 1) hx hb dX11_isLimitedKind_1 (by decide) ?_
  refine lv_icmp_eq (tgt := 15) hx hb dX11_isLimitedKind_2 (by decide) (fun c_1 => ?_) (fun c_1 => ?_)
  · have hz := rfl (a := 0)
    refine lv_iconst (v := 1) hx hb dX11_isLimitedKind_15 (by decide) ?_
    refine lv_goto (tgt := 20) hx hb dX11_isLimitedKind_16 (by decide) ?_
    rw [hQ]
    exact W.zret (v := 1) hx hb hr rfl (fun t ht hW9 => ⟨⟨1, (), rfl, (Or.inl rfl), ⟨by rw [ht]; exact hP, hD⟩⟩, hS.F ht⟩) hS.2.2 dX11_isLimitedKind_20
  · have hz := rfl (a := 0)
    refine lv_iload_n hx hb dX11_isLimitedKind_5 rfl (lv_at hl 0 rfl) ?_
    refine lv_iconst (v := 2) hx hb dX11_isLimitedKind_6 (by decide) ?_
    refine lv_icmp_eq (tgt := 15) hx hb dX11_isLimitedKind_7 (by decide) (fun c_2 => ?_) (fun c_2 => ?_)
    · have hz := rfl (a := 0)
      refine lv_iconst (v := 1) hx hb dX11_isLimitedKind_15 (by decide) ?_
      refine lv_goto (tgt := 20) hx hb dX11_isLimitedKind_16 (by decide) ?_
      rw [hQ]
      exact W.zret (v := 1) hx hb hr rfl (fun t ht hW9 => ⟨⟨1, (), rfl, (Or.inl rfl), ⟨by rw [ht]; exact hP, hD⟩⟩, hS.F ht⟩) hS.2.2 dX11_isLimitedKind_20
    · have hz := rfl (a := 0)
      refine lv_iload_n hx hb dX11_isLimitedKind_10 rfl (lv_at hl 0 rfl) ?_
      refine lv_iconst (v := 4) hx hb dX11_isLimitedKind_11 (by decide) ?_
      refine lv_icmp_ne (tgt := 19) hx hb dX11_isLimitedKind_12 (by decide) (fun c_3 => ?_) (fun c_3 => ?_)
      · have hz := rfl (a := 0)
        refine lv_iconst (v := 0) hx hb dX11_isLimitedKind_19 (by decide) ?_
        rw [hQ]
        exact W.zret (v := 0) hx hb hr rfl (fun t ht hW9 => ⟨⟨0, (), rfl, (Or.inr rfl), ⟨by rw [ht]; exact hP, hD⟩⟩, hS.F ht⟩) hS.2.2 dX11_isLimitedKind_20
      · have hz := rfl (a := 0)
        refine lv_iconst (v := 1) hx hb dX11_isLimitedKind_15 (by decide) ?_
        refine lv_goto (tgt := 20) hx hb dX11_isLimitedKind_16 (by decide) ?_
        rw [hQ]
        exact W.zret (v := 1) hx hb hr rfl (fun t ht hW9 => ⟨⟨1, (), rfl, (Or.inl rfl), ⟨by rw [ht]; exact hP, hD⟩⟩, hS.F ht⟩) hS.2.2 dX11_isLimitedKind_20
set_option maxHeartbeats 4000000 in
set_option maxRecDepth 100000 in
theorem s_X4_isLimited (l : Launch) (D : va_G) (cy : Nat → ClassId) (K : Kp) (L : List Nat) (M : Hp) (sz : Nat) (oa : Nat) (hW : WOK cy K L M) (ia : isk K L oa 4 0) : Met l yX4_isLimited (wsM yX4_isLimited cX4_isLimited 1 (some .boolean)) ({ frames := 1, cells := 0, slots := 0, locals := 20 }) (va_Pc [.ref oa] (PG D cy [] L M sz)) (va_Qi (fun (r : Int32) (_ : Unit) => (r = 1) ∨ (r = 0)) (fun _ t => PQ D [] L M (va_A ([] ++ va_pl L M) sz) t) (va_A ([] ++ va_pl L M) sz)) 0 0 (va_A ([] ++ va_pl L M) sz) := by
  refine Met.ofW (cc := cX4_isLimited) (maxL := 1) (ret := (some .boolean)) (by decide) rfl ?_
  intro p e s m args below meth c s₁ B hml hv
  obtain ⟨rfl, hsz, hP, hK, hD0, hN⟩ := hv
  have hx := B.exec
  have hb := B.bytes
  have hr := B.returns
  have hts := atoms_spec (ws := (wsM yX4_isLimited cX4_isLimited 1 (some .boolean))) B.pre
  have hg : ∀ w ∈ lw_good, w.before _ s = true := fun w h => hts w (List.mem_cons_of_mem _ h)
  have hown : s.vm.findClass RX4 = some m.cls := findClass_of_methodNamed B.named
  have hlocks := B.notSynchronized
  subst hsz
  have hD := hD0.self (sz := s.heap.size)
  generalize hAe : va_A ([] ++ va_pl L M) s.heap.size = A at hD ⊢
  have hA : ∀ q : Nat, s.heap.size ≤ q → A q := fun q h => by rw [← hAe]; exact Or.inr h
  have hS : va_S A s.heap s.heap [] := va_S.rf
  have hl := lv_entry ([.ref oa]) (n := 1) (Nat.le_of_ble_eq_true rfl)
  rw [lg_entry_eq]
  generalize (lg_sl ([.ref oa]) ++ List.replicate (1 - (lg_sl ([.ref oa])).length) Slot.unset).toArray = ls at hl ⊢
  refine W.nameQ (fun Q hQ => ?_)
  refine W.nameR (fun R hR => ?_)
  have hRf : 1 ≤ R.frames := by rw [hR]; exact Nat.le_of_ble_eq_true rfl
  have hRl : 20 ≤ R.locals := by rw [hR]; exact Nat.le_of_ble_eq_true rfl
  have hRc : 0 ≤ R.cells := by rw [hR]; exact Nat.le_of_ble_eq_true rfl
  have hRs : 0 ≤ R.slots := by rw [hR]; exact Nat.le_of_ble_eq_true rfl
  have hl : lv_has ls 1 [(0, .ref oa)] := hl
  refine lv_aload_n hx hb dX4_isLimited_0 rfl (lv_at hl 0 rfl) ?_
  obtain ⟨v1_0, v1_1, v1_2, v1_3, hM1, h1_3⟩ := hW.open_4 ia
  refine pg_get (D := D) (ci := 4) (v := .int v1_1) (C := RX4) (T := TX4) (N := 4) hx hb hg inG4 hown hK hP ia.1 hM1 rfl 1 (by decide) (hg _ wd_1) (fun _ h9 => h9) rfl dX4_isLimited_1 ?_
  have hPc : va_P D vwCl ([] ++ va_pl L M) s.heap := hP
  have hDc : va_D A ([] ++ va_pl L M) := hD
  have hFc : ∀ q, va_A ([] ++ va_pl L M) s.heap.size q → A q := pg_free hDc hS hA
  refine va_calli (va_runSN (As := [.int v1_1]) (rest := []) ⟨hx, hb, hml, hown, hg⟩ (s_X11_isLimitedKind l D cy K L M s.heap.size v1_1  hW ) ⟨va_cnB 1 hg (gB wd_2) rfl rfl rfl (hN _ (List.mem_of_getElem? (i := 6) rfl) : va_Nw (Cond.methodLinkNest RX4 25 yX11_isLimitedKind RX11) s) (hg _ wd_3) (by decide +kernel) ⟨(Nat.le_trans (Nat.le_of_ble_eq_true rfl) hRf), (Nat.le_trans (Nat.le_of_ble_eq_true rfl) hRl)⟩, hg _ wd_4, trivial⟩ ⟨PG.blind, fun U hU hW => ⟨rfl, PG.at hPc hK hDc hN hU hW⟩⟩ rfl rfl hl.1 rfl (lv_room (Nat.le_of_ble_eq_true rfl)) dX4_isLimited_4 ⟨(Nat.le_trans (Nat.le_of_ble_eq_true rfl) hRc), (Nat.le_trans (Nat.le_of_ble_eq_true rfl) hRs)⟩) hS (fun q _ h => hFc q h) hFc (fun r_3 M_4 t H_2 locs ht hvm hw hB hz1 hk1 hS => ?_)
  have hp_5 := hw
  obtain ⟨hP1, hD1⟩ := hB
  rw [ht] at hP1
  have hP : va_P D vwCl ([] ++ va_pl L M) H_2 := hP1
  have hD : va_D A ([] ++ va_pl L M) := hD1.mono hFc
  rcases hp_5 with rfl | rfl
  · have hz := rfl (a := 0)
    rw [hQ]
    exact W.zret (v := 1) hx hb hr rfl (fun t ht hW9 => ⟨⟨1, (), rfl, (Or.inl rfl), ⟨by rw [ht]; exact hP, hD⟩⟩, hS.F ht⟩) hS.2.2 dX4_isLimited_7
  · have hz := rfl (a := 0)
    rw [hQ]
    exact W.zret (v := 0) hx hb hr rfl (fun t ht hW9 => ⟨⟨0, (), rfl, (Or.inr rfl), ⟨by rw [ht]; exact hP, hD⟩⟩, hS.F ht⟩) hS.2.2 dX4_isLimited_7
set_option maxHeartbeats 4000000 in
set_option maxRecDepth 100000 in
theorem s_X9_hasEnded (l : Launch) (D : va_G) (cy : Nat → ClassId) (K : Kp) (L : List Nat) (M : Hp) (sz : Nat) (oa : Nat) (hW : WOK cy K L M) (ia : isk K L oa 9 0) : Met l yX9_hasEnded (wsM yX9_hasEnded cX9_hasEnded 1 (some .boolean)) ({ frames := 0, cells := 0, slots := 0, locals := 0 }) (va_Pc [.ref oa] (PG D cy [] L M sz)) (va_Qi (fun (r : Int32) (_ : Unit) => (r = 1) ∨ (r = 0)) (fun _ t => PQ D [] L M (va_A ([] ++ va_pl L M) sz) t) (va_A ([] ++ va_pl L M) sz)) 0 0 (va_A ([] ++ va_pl L M) sz) := by
  refine Met.ofW (cc := cX9_hasEnded) (maxL := 1) (ret := (some .boolean)) (by decide) rfl ?_
  intro p e s m args below meth c s₁ B hml hv
  obtain ⟨rfl, hsz, hP, hK, hD0, hN⟩ := hv
  have hx := B.exec
  have hb := B.bytes
  have hr := B.returns
  have hts := atoms_spec (ws := (wsM yX9_hasEnded cX9_hasEnded 1 (some .boolean))) B.pre
  have hg : ∀ w ∈ lw_good, w.before _ s = true := fun w h => hts w (List.mem_cons_of_mem _ h)
  have hown : s.vm.findClass RX9 = some m.cls := findClass_of_methodNamed B.named
  have hlocks := B.notSynchronized
  subst hsz
  have hD := hD0.self (sz := s.heap.size)
  generalize hAe : va_A ([] ++ va_pl L M) s.heap.size = A at hD ⊢
  have hA : ∀ q : Nat, s.heap.size ≤ q → A q := fun q h => by rw [← hAe]; exact Or.inr h
  have hS : va_S A s.heap s.heap [] := va_S.rf
  have hl := lv_entry ([.ref oa]) (n := 1) (Nat.le_of_ble_eq_true rfl)
  rw [lg_entry_eq]
  generalize (lg_sl ([.ref oa]) ++ List.replicate (1 - (lg_sl ([.ref oa])).length) Slot.unset).toArray = ls at hl ⊢
  refine W.nameQ (fun Q hQ => ?_)
  refine W.nameR (fun R hR => ?_)
  have hRf : 0 ≤ R.frames := by rw [hR]; exact Nat.le_of_ble_eq_true rfl
  have hRl : 0 ≤ R.locals := by rw [hR]; exact Nat.le_of_ble_eq_true rfl
  have hRc : 0 ≤ R.cells := by rw [hR]; exact Nat.le_of_ble_eq_true rfl
  have hRs : 0 ≤ R.slots := by rw [hR]; exact Nat.le_of_ble_eq_true rfl
  have hl : lv_has ls 1 [(0, .ref oa)] := hl
  refine lv_aload_n hx hb dX9_hasEnded_0 rfl (lv_at hl 0 rfl) ?_
  obtain ⟨v1_0, v1_1, v1_2, v1_3, v1_4, v1_5, v1_6, v1_7, v1_8, v1_9, v1_10, v1_11, v1_12, v1_13, v1_14, v1_15, hM1, h1_0, h1_1, h1_4, h1_8⟩ := hW.open_9 ia
  refine pg_get (D := D) (ci := 9) (v := .int v1_5) (C := RX9) (T := TX9) (N := 16) hx hb hg inG9 hown hK hP ia.1 hM1 rfl 5 (by decide) (hg _ wd_5) (fun _ h9 => h9) rfl dX9_hasEnded_1 ?_
  refine lv_iconst (v := (-1)) hx hb dX9_hasEnded_4 (by decide) ?_
  refine lv_icmp_eq (tgt := 12) hx hb dX9_hasEnded_5 (by decide) (fun c_2 => ?_) (fun c_2 => ?_)
  · have hz := rfl (a := 0)
    refine lv_iconst (v := 0) hx hb dX9_hasEnded_12 (by decide) ?_
    rw [hQ]
    exact W.zret (v := 0) hx hb hr rfl (fun t ht hW9 => ⟨⟨0, (), rfl, (Or.inr rfl), ⟨by rw [ht]; exact hP, hD⟩⟩, hS.F ht⟩) hS.2.2 dX9_hasEnded_13
  · have hz := rfl (a := 0)
    refine lv_iconst (v := 1) hx hb dX9_hasEnded_8 (by decide) ?_
    refine lv_goto (tgt := 13) hx hb dX9_hasEnded_9 (by decide) ?_
    rw [hQ]
    exact W.zret (v := 1) hx hb hr rfl (fun t ht hW9 => ⟨⟨1, (), rfl, (Or.inl rfl), ⟨by rw [ht]; exact hP, hD⟩⟩, hS.F ht⟩) hS.2.2 dX9_hasEnded_13
set_option maxHeartbeats 4000000 in
set_option maxRecDepth 100000 in
theorem s_X9_isIn (l : Launch) (D : va_G) (cy : Nat → ClassId) (K : Kp) (L : List Nat) (M : Hp) (sz : Nat) (oa : Nat) (k1 : Int32) (hW : WOK cy K L M) (ia : isk K L oa 9 0) : Met l yX9_isIn (wsM yX9_isIn cX9_isIn 2 (some .boolean)) ({ frames := 0, cells := 0, slots := 0, locals := 0 }) (va_Pc [.ref oa, .int k1] (PG D cy [] L M sz)) (va_Qi (fun (r : Int32) (_ : Unit) => (r = 1) ∨ (r = 0)) (fun _ t => PQ D [] L M (va_A ([] ++ va_pl L M) sz) t) (va_A ([] ++ va_pl L M) sz)) 0 0 (va_A ([] ++ va_pl L M) sz) := by
  refine Met.ofW (cc := cX9_isIn) (maxL := 2) (ret := (some .boolean)) (by decide) rfl ?_
  intro p e s m args below meth c s₁ B hml hv
  obtain ⟨rfl, hsz, hP, hK, hD0, hN⟩ := hv
  have hx := B.exec
  have hb := B.bytes
  have hr := B.returns
  have hts := atoms_spec (ws := (wsM yX9_isIn cX9_isIn 2 (some .boolean))) B.pre
  have hg : ∀ w ∈ lw_good, w.before _ s = true := fun w h => hts w (List.mem_cons_of_mem _ h)
  have hown : s.vm.findClass RX9 = some m.cls := findClass_of_methodNamed B.named
  have hlocks := B.notSynchronized
  subst hsz
  have hD := hD0.self (sz := s.heap.size)
  generalize hAe : va_A ([] ++ va_pl L M) s.heap.size = A at hD ⊢
  have hA : ∀ q : Nat, s.heap.size ≤ q → A q := fun q h => by rw [← hAe]; exact Or.inr h
  have hS : va_S A s.heap s.heap [] := va_S.rf
  have hl := lv_entry ([.ref oa, .int k1]) (n := 2) (Nat.le_of_ble_eq_true rfl)
  rw [lg_entry_eq]
  generalize (lg_sl ([.ref oa, .int k1]) ++ List.replicate (2 - (lg_sl ([.ref oa, .int k1])).length) Slot.unset).toArray = ls at hl ⊢
  refine W.nameQ (fun Q hQ => ?_)
  refine W.nameR (fun R hR => ?_)
  have hRf : 0 ≤ R.frames := by rw [hR]; exact Nat.le_of_ble_eq_true rfl
  have hRl : 0 ≤ R.locals := by rw [hR]; exact Nat.le_of_ble_eq_true rfl
  have hRc : 0 ≤ R.cells := by rw [hR]; exact Nat.le_of_ble_eq_true rfl
  have hRs : 0 ≤ R.slots := by rw [hR]; exact Nat.le_of_ble_eq_true rfl
  have hl : lv_has ls 2 [(0, .ref oa), (1, .int k1)] := hl
  refine lv_iload_n hx hb dX9_isIn_0 rfl (lv_at hl 1 rfl) ?_
  refine lv_aload_n hx hb dX9_isIn_1 rfl (lv_at hl 0 rfl) ?_
  obtain ⟨v1_0, v1_1, v1_2, v1_3, v1_4, v1_5, v1_6, v1_7, v1_8, v1_9, v1_10, v1_11, v1_12, v1_13, v1_14, v1_15, hM1, h1_0, h1_1, h1_4, h1_8⟩ := hW.open_9 ia
  refine pg_get (D := D) (ci := 9) (v := .int v1_3) (C := RX9) (T := TX9) (N := 16) hx hb hg inG9 hown hK hP ia.1 hM1 rfl 3 (by decide) (hg _ wd_6) (fun _ h9 => h9) rfl dX9_isIn_2 ?_
  refine lv_icmp_lt (tgt := 28) hx hb dX9_isIn_5 (by decide) (fun c_2 => ?_) (fun c_2 => ?_)
  · have hz := rfl (a := 0)
    refine lv_iconst (v := 0) hx hb dX9_isIn_28 (by decide) ?_
    rw [hQ]
    exact W.zret (v := 0) hx hb hr rfl (fun t ht hW9 => ⟨⟨0, (), rfl, (Or.inr rfl), ⟨by rw [ht]; exact hP, hD⟩⟩, hS.F ht⟩) hS.2.2 dX9_isIn_29
  · have hz := rfl (a := 0)
    refine lv_aload_n hx hb dX9_isIn_8 rfl (lv_at hl 0 rfl) ?_
    refine pg_get (D := D) (ci := 9) (v := .int v1_5) (C := RX9) (T := TX9) (N := 16) hx hb hg inG9 hown hK hP ia.1 hM1 rfl 5 (by decide) (hg _ wd_5) (fun _ h9 => h9) rfl dX9_isIn_9 ?_
    refine lv_iconst (v := (-1)) hx hb dX9_isIn_12 (by decide) ?_
    refine lv_icmp_eq (tgt := 24) hx hb dX9_isIn_13 (by decide) (fun c_3 => ?_) (fun c_3 => ?_)
    · have hz := rfl (a := 0)
      refine lv_iconst (v := 1) hx hb dX9_isIn_24 (by decide) ?_
      refine lv_goto (tgt := 29) hx hb dX9_isIn_25 (by decide) ?_
      rw [hQ]
      exact W.zret (v := 1) hx hb hr rfl (fun t ht hW9 => ⟨⟨1, (), rfl, (Or.inl rfl), ⟨by rw [ht]; exact hP, hD⟩⟩, hS.F ht⟩) hS.2.2 dX9_isIn_29
    · have hz := rfl (a := 0)
      refine lv_iload_n hx hb dX9_isIn_16 rfl (lv_at hl 1 rfl) ?_
      refine lv_aload_n hx hb dX9_isIn_17 rfl (lv_at hl 0 rfl) ?_
      refine pg_get (D := D) (ci := 9) (v := .int v1_5) (C := RX9) (T := TX9) (N := 16) hx hb hg inG9 hown hK hP ia.1 hM1 rfl 5 (by decide) (hg _ wd_5) (fun _ h9 => h9) rfl dX9_isIn_18 ?_
      refine lv_icmp_ge (tgt := 28) hx hb dX9_isIn_21 (by decide) (fun c_4 => ?_) (fun c_4 => ?_)
      · have hz := rfl (a := 0)
        refine lv_iconst (v := 0) hx hb dX9_isIn_28 (by decide) ?_
        rw [hQ]
        exact W.zret (v := 0) hx hb hr rfl (fun t ht hW9 => ⟨⟨0, (), rfl, (Or.inr rfl), ⟨by rw [ht]; exact hP, hD⟩⟩, hS.F ht⟩) hS.2.2 dX9_isIn_29
      · have hz := rfl (a := 0)
        refine lv_iconst (v := 1) hx hb dX9_isIn_24 (by decide) ?_
        refine lv_goto (tgt := 29) hx hb dX9_isIn_25 (by decide) ?_
        rw [hQ]
        exact W.zret (v := 1) hx hb hr rfl (fun t ht hW9 => ⟨⟨1, (), rfl, (Or.inl rfl), ⟨by rw [ht]; exact hP, hD⟩⟩, hS.F ht⟩) hS.2.2 dX9_isIn_29
set_option maxHeartbeats 4000000 in
set_option maxRecDepth 100000 in
theorem s_X9_room (l : Launch) (D : va_G) (cy : Nat → ClassId) (K : Kp) (L : List Nat) (M : Hp) (sz : Nat) (oa : Nat) (hW : WOK cy K L M) (ia : isk K L oa 9 0) : Met l yX9_room (wsM yX9_room cX9_room 1 (some .long)) ({ frames := 1, cells := 0, slots := 0, locals := 15 }) (va_Pc [.ref oa] (PG D cy [] L M sz)) (va_Ql (fun (r : Int64) (_ : Unit) => True) (fun _ t => PQ D [] L M (va_A ([] ++ va_pl L M) sz) t) (va_A ([] ++ va_pl L M) sz)) 0 0 (va_A ([] ++ va_pl L M) sz) := by
  refine Met.ofW (cc := cX9_room) (maxL := 1) (ret := (some .long)) (by decide) rfl ?_
  intro p e s m args below meth c s₁ B hml hv
  obtain ⟨rfl, hsz, hP, hK, hD0, hN⟩ := hv
  have hx := B.exec
  have hb := B.bytes
  have hr := B.returns
  have hts := atoms_spec (ws := (wsM yX9_room cX9_room 1 (some .long))) B.pre
  have hg : ∀ w ∈ lw_good, w.before _ s = true := fun w h => hts w (List.mem_cons_of_mem _ h)
  have hown : s.vm.findClass RX9 = some m.cls := findClass_of_methodNamed B.named
  have hlocks := B.notSynchronized
  subst hsz
  have hD := hD0.self (sz := s.heap.size)
  generalize hAe : va_A ([] ++ va_pl L M) s.heap.size = A at hD ⊢
  have hA : ∀ q : Nat, s.heap.size ≤ q → A q := fun q h => by rw [← hAe]; exact Or.inr h
  have hS : va_S A s.heap s.heap [] := va_S.rf
  have hl := lv_entry ([.ref oa]) (n := 1) (Nat.le_of_ble_eq_true rfl)
  rw [lg_entry_eq]
  generalize (lg_sl ([.ref oa]) ++ List.replicate (1 - (lg_sl ([.ref oa])).length) Slot.unset).toArray = ls at hl ⊢
  refine W.nameQ (fun Q hQ => ?_)
  refine W.nameR (fun R hR => ?_)
  have hRf : 1 ≤ R.frames := by rw [hR]; exact Nat.le_of_ble_eq_true rfl
  have hRl : 15 ≤ R.locals := by rw [hR]; exact Nat.le_of_ble_eq_true rfl
  have hRc : 0 ≤ R.cells := by rw [hR]; exact Nat.le_of_ble_eq_true rfl
  have hRs : 0 ≤ R.slots := by rw [hR]; exact Nat.le_of_ble_eq_true rfl
  have hl : lv_has ls 1 [(0, .ref oa)] := hl
  refine lv_lconst (v := 0) hx hb dX9_room_0 (by decide) ?_
  refine lv_aload_n hx hb dX9_room_1 rfl (lv_at hl 0 rfl) ?_
  obtain ⟨v1_0, v1_1, v1_2, v1_3, v1_4, v1_5, v1_6, v1_7, v1_8, v1_9, v1_10, v1_11, v1_12, v1_13, v1_14, v1_15, hM1, h1_0, h1_1, h1_4, h1_8⟩ := hW.open_9 ia
  refine pg_get (D := D) (ci := 9) (v := .ref v1_1) (C := RX9) (T := TX9) (N := 16) hx hb hg inG9 hown hK hP ia.1 hM1 rfl 1 (by decide) (hg _ wd_7) (fun _ h9 => h9) rfl dX9_room_2 ?_
  obtain ⟨v2_0, v2_1, v2_2, v2_3, hM2, h2_3⟩ := hW.open_4 h1_1
  refine pg_get (D := D) (ci := 4) (v := .int v2_2) (C := RX4) (T := TX4) (N := 4) hx hb hg inG4 hown hK hP h1_1.1 hM2 rfl 2 (by decide) (hg _ wd_8) (fun _ h9 => h9) rfl dX9_room_5 ?_
  refine lv_i2l hx hb dX9_room_8 rfl ?_
  refine lv_topl (fun f_3 ef_3 => ?_)
  refine lv_aload_n hx hb dX9_room_9 rfl (lv_at hl 0 rfl) ?_
  refine pg_get (D := D) (ci := 9) (v := .long v1_11) (C := RX9) (T := TX9) (N := 16) hx hb hg inG9 hown hK hP ia.1 hM1 rfl 11 (by decide) (hg _ wd_9) (fun _ h9 => h9) rfl dX9_room_10 ?_
  refine lv_lsub hx hb dX9_room_13 ?_
  refine lv_topl (fun f_4 ef_4 => ?_)
  refine va_mmax_long hx hb (by rw [hml]; exact hl.1.symm) hown (hg _ wd_10) (hg _ wd_11) (hg _ wd_12) (hg _ wd_13) (Nat.le_trans (Nat.le_of_ble_eq_true rfl) hRf) (Nat.le_trans (Nat.le_of_ble_eq_true rfl) hRl) (Nat.le_trans (Nat.le_of_ble_eq_true rfl) hRc) (Nat.le_trans (Nat.le_of_ble_eq_true rfl) hRs) dX9_room_14 ?_
  refine lv_topl (fun f_5 ef_5 => ?_)
  rw [hQ]
  exact W.lret (v := f_5) hx hb hr (fun t ht hW9 => ⟨⟨f_5, (), rfl, trivial, ⟨by rw [ht]; exact hP, hD⟩⟩, hS.F ht⟩) hS.2.2 dX9_room_17
set_option maxHeartbeats 4000000 in
set_option maxRecDepth 100000 in
theorem s_X9_accountOf (l : Launch) (D : va_G) (cy : Nat → ClassId) (K : Kp) (L : List Nat) (M : Hp) (sz : Nat) (oa : Nat) (k1 : Int32) (hW : WOK cy K L M) (ia : isk K L oa 9 0) : Met l yX9_accountOf (wsM yX9_accountOf cX9_accountOf 2 (some .long)) ({ frames := 0, cells := 0, slots := 0, locals := 0 }) (va_Pc [.ref oa, .int k1] (PG D cy [] L M sz)) (va_Ql (fun (r : Int64) (_ : Unit) => True) (fun _ t => PQ D [] L M (va_A ([] ++ va_pl L M) sz) t) (va_A ([] ++ va_pl L M) sz)) 0 0 (va_A ([] ++ va_pl L M) sz) := by
  refine Met.ofW (cc := cX9_accountOf) (maxL := 2) (ret := (some .long)) (by decide) rfl ?_
  intro p e s m args below meth c s₁ B hml hv
  obtain ⟨rfl, hsz, hP, hK, hD0, hN⟩ := hv
  have hx := B.exec
  have hb := B.bytes
  have hr := B.returns
  have hts := atoms_spec (ws := (wsM yX9_accountOf cX9_accountOf 2 (some .long))) B.pre
  have hg : ∀ w ∈ lw_good, w.before _ s = true := fun w h => hts w (List.mem_cons_of_mem _ h)
  have hown : s.vm.findClass RX9 = some m.cls := findClass_of_methodNamed B.named
  have hlocks := B.notSynchronized
  subst hsz
  have hD := hD0.self (sz := s.heap.size)
  generalize hAe : va_A ([] ++ va_pl L M) s.heap.size = A at hD ⊢
  have hA : ∀ q : Nat, s.heap.size ≤ q → A q := fun q h => by rw [← hAe]; exact Or.inr h
  have hS : va_S A s.heap s.heap [] := va_S.rf
  have hl := lv_entry ([.ref oa, .int k1]) (n := 2) (Nat.le_of_ble_eq_true rfl)
  rw [lg_entry_eq]
  generalize (lg_sl ([.ref oa, .int k1]) ++ List.replicate (2 - (lg_sl ([.ref oa, .int k1])).length) Slot.unset).toArray = ls at hl ⊢
  refine W.nameQ (fun Q hQ => ?_)
  refine W.nameR (fun R hR => ?_)
  have hRf : 0 ≤ R.frames := by rw [hR]; exact Nat.le_of_ble_eq_true rfl
  have hRl : 0 ≤ R.locals := by rw [hR]; exact Nat.le_of_ble_eq_true rfl
  have hRc : 0 ≤ R.cells := by rw [hR]; exact Nat.le_of_ble_eq_true rfl
  have hRs : 0 ≤ R.slots := by rw [hR]; exact Nat.le_of_ble_eq_true rfl
  have hl : lv_has ls 2 [(0, .ref oa), (1, .int k1)] := hl
  refine lv_iload_n hx hb dX9_accountOf_0 rfl (lv_at hl 1 rfl) ?_
  by_cases hout : (k1 : Int32).toInt < 0 ∨ 6 < (k1 : Int32).toInt
  · refine lv_tableOut (tgt := 79) hx hb dX9_accountOf_1 hout (by decide) ?_
    refine lv_lconst (v := 0) hx hb dX9_accountOf_79 (by decide) ?_
    rw [hQ]
    exact W.lret (v := 0) hx hb hr (fun t ht hW9 => ⟨⟨0, (), rfl, trivial, ⟨by rw [ht]; exact hP, hD⟩⟩, hS.F ht⟩) hS.2.2 dX9_accountOf_80
  · obtain ⟨j_1, hj, hj2⟩ : ∃ j : Nat, j ≤ 6 ∧ (k1 : Int32).toInt = (j : Int) := ⟨(k1 : Int32).toInt.toNat, by omega, by omega⟩
    rcases (show j_1 = 0 ∨ j_1 = 1 ∨ j_1 = 2 ∨ j_1 = 3 ∨ j_1 = 4 ∨ j_1 = 5 ∨ j_1 = 6 by omega) with rfl | rfl | rfl | rfl | rfl | rfl | rfl
    · refine lv_tableIn (tgt := 44) hx hb dX9_accountOf_1 (by omega) (by omega) (by rw [hj2]; rfl) (by decide) ?_
      refine lv_aload_n hx hb dX9_accountOf_44 rfl (lv_at hl 0 rfl) ?_
      obtain ⟨v2_0, v2_1, v2_2, v2_3, v2_4, v2_5, v2_6, v2_7, v2_8, v2_9, v2_10, v2_11, v2_12, v2_13, v2_14, v2_15, hM2, h2_0, h2_1, h2_4, h2_8⟩ := hW.open_9 ia
      refine pg_get (D := D) (ci := 9) (v := .long v2_9) (C := RX9) (T := TX9) (N := 16) hx hb hg inG9 hown hK hP ia.1 hM2 rfl 9 (by decide) (hg _ wd_16) (fun _ h9 => h9) rfl dX9_accountOf_45 ?_
      rw [hQ]
      exact W.lret (v := v2_9) hx hb hr (fun t ht hW9 => ⟨⟨v2_9, (), rfl, trivial, ⟨by rw [ht]; exact hP, hD⟩⟩, hS.F ht⟩) hS.2.2 dX9_accountOf_48
    · refine lv_tableIn (tgt := 49) hx hb dX9_accountOf_1 (by omega) (by omega) (by rw [hj2]; rfl) (by decide) ?_
      refine lv_aload_n hx hb dX9_accountOf_49 rfl (lv_at hl 0 rfl) ?_
      obtain ⟨v3_0, v3_1, v3_2, v3_3, v3_4, v3_5, v3_6, v3_7, v3_8, v3_9, v3_10, v3_11, v3_12, v3_13, v3_14, v3_15, hM3, h3_0, h3_1, h3_4, h3_8⟩ := hW.open_9 ia
      refine pg_get (D := D) (ci := 9) (v := .long v3_10) (C := RX9) (T := TX9) (N := 16) hx hb hg inG9 hown hK hP ia.1 hM3 rfl 10 (by decide) (hg _ wd_17) (fun _ h9 => h9) rfl dX9_accountOf_50 ?_
      rw [hQ]
      exact W.lret (v := v3_10) hx hb hr (fun t ht hW9 => ⟨⟨v3_10, (), rfl, trivial, ⟨by rw [ht]; exact hP, hD⟩⟩, hS.F ht⟩) hS.2.2 dX9_accountOf_53
    · refine lv_tableIn (tgt := 54) hx hb dX9_accountOf_1 (by omega) (by omega) (by rw [hj2]; rfl) (by decide) ?_
      refine lv_aload_n hx hb dX9_accountOf_54 rfl (lv_at hl 0 rfl) ?_
      obtain ⟨v4_0, v4_1, v4_2, v4_3, v4_4, v4_5, v4_6, v4_7, v4_8, v4_9, v4_10, v4_11, v4_12, v4_13, v4_14, v4_15, hM4, h4_0, h4_1, h4_4, h4_8⟩ := hW.open_9 ia
      refine pg_get (D := D) (ci := 9) (v := .long v4_11) (C := RX9) (T := TX9) (N := 16) hx hb hg inG9 hown hK hP ia.1 hM4 rfl 11 (by decide) (hg _ wd_9) (fun _ h9 => h9) rfl dX9_accountOf_55 ?_
      rw [hQ]
      exact W.lret (v := v4_11) hx hb hr (fun t ht hW9 => ⟨⟨v4_11, (), rfl, trivial, ⟨by rw [ht]; exact hP, hD⟩⟩, hS.F ht⟩) hS.2.2 dX9_accountOf_58
    · refine lv_tableIn (tgt := 59) hx hb dX9_accountOf_1 (by omega) (by omega) (by rw [hj2]; rfl) (by decide) ?_
      refine lv_aload_n hx hb dX9_accountOf_59 rfl (lv_at hl 0 rfl) ?_
      obtain ⟨v5_0, v5_1, v5_2, v5_3, v5_4, v5_5, v5_6, v5_7, v5_8, v5_9, v5_10, v5_11, v5_12, v5_13, v5_14, v5_15, hM5, h5_0, h5_1, h5_4, h5_8⟩ := hW.open_9 ia
      refine pg_get (D := D) (ci := 9) (v := .long v5_12) (C := RX9) (T := TX9) (N := 16) hx hb hg inG9 hown hK hP ia.1 hM5 rfl 12 (by decide) (hg _ wd_18) (fun _ h9 => h9) rfl dX9_accountOf_60 ?_
      rw [hQ]
      exact W.lret (v := v5_12) hx hb hr (fun t ht hW9 => ⟨⟨v5_12, (), rfl, trivial, ⟨by rw [ht]; exact hP, hD⟩⟩, hS.F ht⟩) hS.2.2 dX9_accountOf_63
    · refine lv_tableIn (tgt := 64) hx hb dX9_accountOf_1 (by omega) (by omega) (by rw [hj2]; rfl) (by decide) ?_
      refine lv_aload_n hx hb dX9_accountOf_64 rfl (lv_at hl 0 rfl) ?_
      obtain ⟨v6_0, v6_1, v6_2, v6_3, v6_4, v6_5, v6_6, v6_7, v6_8, v6_9, v6_10, v6_11, v6_12, v6_13, v6_14, v6_15, hM6, h6_0, h6_1, h6_4, h6_8⟩ := hW.open_9 ia
      refine pg_get (D := D) (ci := 9) (v := .long v6_13) (C := RX9) (T := TX9) (N := 16) hx hb hg inG9 hown hK hP ia.1 hM6 rfl 13 (by decide) (hg _ wd_19) (fun _ h9 => h9) rfl dX9_accountOf_65 ?_
      rw [hQ]
      exact W.lret (v := v6_13) hx hb hr (fun t ht hW9 => ⟨⟨v6_13, (), rfl, trivial, ⟨by rw [ht]; exact hP, hD⟩⟩, hS.F ht⟩) hS.2.2 dX9_accountOf_68
    · refine lv_tableIn (tgt := 69) hx hb dX9_accountOf_1 (by omega) (by omega) (by rw [hj2]; rfl) (by decide) ?_
      refine lv_aload_n hx hb dX9_accountOf_69 rfl (lv_at hl 0 rfl) ?_
      obtain ⟨v7_0, v7_1, v7_2, v7_3, v7_4, v7_5, v7_6, v7_7, v7_8, v7_9, v7_10, v7_11, v7_12, v7_13, v7_14, v7_15, hM7, h7_0, h7_1, h7_4, h7_8⟩ := hW.open_9 ia
      refine pg_get (D := D) (ci := 9) (v := .long v7_14) (C := RX9) (T := TX9) (N := 16) hx hb hg inG9 hown hK hP ia.1 hM7 rfl 14 (by decide) (hg _ wd_20) (fun _ h9 => h9) rfl dX9_accountOf_70 ?_
      rw [hQ]
      exact W.lret (v := v7_14) hx hb hr (fun t ht hW9 => ⟨⟨v7_14, (), rfl, trivial, ⟨by rw [ht]; exact hP, hD⟩⟩, hS.F ht⟩) hS.2.2 dX9_accountOf_73
    · refine lv_tableIn (tgt := 74) hx hb dX9_accountOf_1 (by omega) (by omega) (by rw [hj2]; rfl) (by decide) ?_
      refine lv_aload_n hx hb dX9_accountOf_74 rfl (lv_at hl 0 rfl) ?_
      obtain ⟨v8_0, v8_1, v8_2, v8_3, v8_4, v8_5, v8_6, v8_7, v8_8, v8_9, v8_10, v8_11, v8_12, v8_13, v8_14, v8_15, hM8, h8_0, h8_1, h8_4, h8_8⟩ := hW.open_9 ia
      refine pg_get (D := D) (ci := 9) (v := .long v8_15) (C := RX9) (T := TX9) (N := 16) hx hb hg inG9 hown hK hP ia.1 hM8 rfl 15 (by decide) (hg _ wd_21) (fun _ h9 => h9) rfl dX9_accountOf_75 ?_
      rw [hQ]
      exact W.lret (v := v8_15) hx hb hr (fun t ht hW9 => ⟨⟨v8_15, (), rfl, trivial, ⟨by rw [ht]; exact hP, hD⟩⟩, hS.F ht⟩) hS.2.2 dX9_accountOf_78
set_option maxHeartbeats 4000000 in
set_option maxRecDepth 100000 in
theorem s_X3_total (l : Launch) (D : va_G) (cy : Nat → ClassId) (K : Kp) (L : List Nat) (M : Hp) (sz : Nat) (oa : Nat) (hW : WOK cy K L M) (ia : isk K L oa 3 0) : Met l yX3_total (wsM yX3_total cX3_total 4 (some .long)) ({ frames := 0, cells := 0, slots := 0, locals := 0 }) (va_Pc [.ref oa] (PG D cy [] L M sz)) (va_Ql (fun (r : Int64) (_ : Unit) => True) (fun _ t => PQ D [] L M (va_A ([] ++ va_pl L M) sz) t) (va_A ([] ++ va_pl L M) sz)) 0 0 (va_A ([] ++ va_pl L M) sz) := by
  refine Met.ofW (cc := cX3_total) (maxL := 4) (ret := (some .long)) (by decide) rfl ?_
  intro p e s m args below meth c s₁ B hml hv
  obtain ⟨rfl, hsz, hP, hK, hD0, hN⟩ := hv
  have hx := B.exec
  have hb := B.bytes
  have hr := B.returns
  have hts := atoms_spec (ws := (wsM yX3_total cX3_total 4 (some .long))) B.pre
  have hg : ∀ w ∈ lw_good, w.before _ s = true := fun w h => hts w (List.mem_cons_of_mem _ h)
  have hown : s.vm.findClass RX3 = some m.cls := findClass_of_methodNamed B.named
  have hlocks := B.notSynchronized
  subst hsz
  have hD := hD0.self (sz := s.heap.size)
  generalize hAe : va_A ([] ++ va_pl L M) s.heap.size = A at hD ⊢
  have hA : ∀ q : Nat, s.heap.size ≤ q → A q := fun q h => by rw [← hAe]; exact Or.inr h
  have hS : va_S A s.heap s.heap [] := va_S.rf
  have hl := lv_entry ([.ref oa]) (n := 4) (Nat.le_of_ble_eq_true rfl)
  rw [lg_entry_eq]
  generalize (lg_sl ([.ref oa]) ++ List.replicate (4 - (lg_sl ([.ref oa])).length) Slot.unset).toArray = ls at hl ⊢
  refine W.nameQ (fun Q hQ => ?_)
  refine W.nameR (fun R hR => ?_)
  have hRf : 0 ≤ R.frames := by rw [hR]; exact Nat.le_of_ble_eq_true rfl
  have hRl : 0 ≤ R.locals := by rw [hR]; exact Nat.le_of_ble_eq_true rfl
  have hRc : 0 ≤ R.cells := by rw [hR]; exact Nat.le_of_ble_eq_true rfl
  have hRs : 0 ≤ R.slots := by rw [hR]; exact Nat.le_of_ble_eq_true rfl
  have hl : lv_has ls 4 [(0, .ref oa)] := hl
  refine lv_lconst (v := 0) hx hb dX3_total_0 (by decide) ?_
  refine lv_lstore_n (lv' := [(1, .long 0), (0, .ref oa)]) hx hb dX3_total_1 rfl hl (by decide) rfl (fun ls hl => ?_)
  refine lv_iconst (v := 0) hx hb dX3_total_2 (by decide) ?_
  refine lv_istore_n (lv' := [(3, .int 0), (1, .long 0), (0, .ref oa)]) hx hb dX3_total_3 rfl hl (by decide) rfl (fun ls hl => ?_)
  have key_1 : ∀ (fu_3 : Nat) (v1w4 : Int64) (v3w4 : Nat) (H_6 : Heap) (locs : List Loc) (ls : Array Slot), 6 - v3w4 < fu_3 → v3w4 ≤ 6 → WOK cy K L M → va_P D vwCl ([] ++ va_pl L M) H_6 → va_D A ([] ++ va_pl L M) → va_S A s.heap H_6 locs → lv_has ls 4 [(3, .int (nI v3w4)), (1, .long v1w4), (0, .ref oa)] → W p l e R s m ([.ref oa] : List Value).toArray below meth c H_6 locs 0 0 Q (F0 m 4 ls []) := by
    intro fu_3
    induction fu_3 with
    | zero => intro v1w4 v3w4 H_6 locs ls h; exact absurd h (Nat.not_lt_zero _)
    | succ fu_3 ih_2 =>
      intro v1w4 v3w4 H_6 locs ls hfu hx_5 hW hP hD hS hl
      refine lv_iload_n hx hb dX3_total_4 rfl (lv_at hl 0 rfl) ?_
      refine lv_aload_n hx hb dX3_total_5 rfl (lv_at hl 2 rfl) ?_
      obtain ⟨n7, v7_0, v7_1, v7_2, hM7, h7_1, h7_2, y7_0⟩ := hW.open_3 ia
      refine pg_get (D := D) (ci := 3) (v := .int (nI v7_2)) (C := RX3) (T := TX3) (N := 3) hx hb hg inG3 hown hK hP ia.1 hM7 rfl 2 (by decide) (hg _ wd_33) (fun _ h9 => h9) rfl dX3_total_6 ?_
      refine lv_icmp_ge (tgt := 37) hx hb dX3_total_9 (by decide) (fun c_8 => ?_) (fun c_8 => ?_)
      · have hz := rfl (a := 0)
        have n_9 : v7_2 ≤ v3w4 := (iLE (a := v7_2) (b := v3w4) (by omega) (by omega)).mp c_8
        refine lv_lload_n hx hb dX3_total_37 rfl (lv_at hl 1 rfl) ?_
        rw [hQ]
        exact W.lret (v := v1w4) hx hb hr (fun t ht hW9 => ⟨⟨v1w4, (), rfl, trivial, ⟨by rw [ht]; exact hP, hD⟩⟩, hS.F ht⟩) hS.2.2 dX3_total_38
      · have hz := rfl (a := 0)
        have n_10 : ¬ (v7_2 ≤ v3w4) := fun q => c_8 ((iLE (a := v7_2) (b := v3w4) (by omega) (by omega)).mpr q)
        refine lv_iload_n hx hb dX3_total_12 rfl (lv_at hl 0 rfl) ?_
        refine lv_aload_n hx hb dX3_total_13 rfl (lv_at hl 2 rfl) ?_
        refine pg_get (D := D) (ci := 3) (v := .ref v7_1) (C := RX3) (T := TX3) (N := 3) hx hb hg inG3 hown hK hP ia.1 hM7 rfl 1 (by decide) (hg _ wd_34) (fun _ h9 => h9) rfl dX3_total_14 ?_
        obtain ⟨f11, hM11⟩ := hW.open_53 h7_1
        refine pg_alen (v := (nI n7)) hx hb hK hP h7_1.1 0 hM11 rfl (by rfl) dX3_total_17 ?_
        refine lv_icmp_ge (tgt := 37) hx hb dX3_total_18 (by decide) (fun c_12 => ?_) (fun c_12 => ?_)
        · have hz := rfl (a := 0)
          have n_13 : n7 ≤ v3w4 := (iLE (a := n7) (b := v3w4) (by omega) (by omega)).mp c_12
          refine lv_lload_n hx hb dX3_total_37 rfl (lv_at hl 1 rfl) ?_
          rw [hQ]
          exact W.lret (v := v1w4) hx hb hr (fun t ht hW9 => ⟨⟨v1w4, (), rfl, trivial, ⟨by rw [ht]; exact hP, hD⟩⟩, hS.F ht⟩) hS.2.2 dX3_total_38
        · have hz := rfl (a := 0)
          have n_14 : ¬ (n7 ≤ v3w4) := fun q => c_12 ((iLE (a := n7) (b := v3w4) (by omega) (by omega)).mpr q)
          refine lv_lload_n hx hb dX3_total_21 rfl (lv_at hl 1 rfl) ?_
          refine lv_aload_n hx hb dX3_total_22 rfl (lv_at hl 2 rfl) ?_
          refine pg_get (D := D) (ci := 3) (v := .ref v7_1) (C := RX3) (T := TX3) (N := 3) hx hb hg inG3 hown hK hP ia.1 hM7 rfl 1 (by decide) (hg _ wd_34) (fun _ h9 => h9) rfl dX3_total_23 ?_
          refine lv_iload_n hx hb dX3_total_26 rfl (lv_at hl 0 rfl) ?_
          refine pg_iald hx hb hK hP h7_1.1 0 hM11 rfl (inbN v3w4 n7 (by omega) (by omega)) dX3_total_27 ?_
          refine lv_topi (fun f_15 ef_15 => ?_)
          refine lv_i2l hx hb dX3_total_28 rfl ?_
          refine lv_topl (fun f_16 ef_16 => ?_)
          refine lv_ladd hx hb dX3_total_29 ?_
          refine lv_topl (fun f_17 ef_17 => ?_)
          refine lv_lstore_n (lv' := [(1, .long f_17), (3, .int (nI v3w4)), (0, .ref oa)]) hx hb dX3_total_30 rfl hl (by decide) rfl (fun ls hl => ?_)
          refine lv_iinc (v := (nI (v3w4 + 1))) (lv' := [(3, .int (nI (v3w4 + 1))), (1, .long f_17), (0, .ref oa)]) hx hb dX3_total_31 hl (k := 1) rfl (nI_1 v3w4) (by decide) rfl (fun ls hl => ?_)
          refine lv_goto (tgt := 4) hx hb dX3_total_34 (by decide) ?_
          exact ih_2 f_17 (v3w4 + 1) H_6 _ _ (by omega) (by omega) hW hP hD hS (lv_sub hl [0, 1, 2] rfl)
  exact key_1 (6 - 0 + 1) 0 0 s.heap _ _ (by omega) (by omega) hW hP hD hS (lv_sub hl [0, 1, 2] rfl)
set_option maxHeartbeats 4000000 in
set_option maxRecDepth 100000 in
theorem s_X6_isTerm (l : Launch) (D : va_G) (cy : Nat → ClassId) (K : Kp) (L : List Nat) (M : Hp) (sz : Nat) (k1 : Int32) (k2 : Int32) (hW : WOK cy K L M)  : Met l yX6_isTerm (wsM yX6_isTerm cX6_isTerm 2 (some .boolean)) ({ frames := 0, cells := 0, slots := 0, locals := 0 }) (va_Pc [.int k1, .int k2] (PG D cy [] L M sz)) (va_Qi (fun (r : Int32) (_ : Unit) => (r = 1 ∧ ¬ k1 < 0 ∧ ¬ 6 ≤ k1 ∧ ¬ k2 < 0 ∧ ¬ 4 ≤ k2) ∨ (r = 0)) (fun _ t => PQ D [] L M (va_A ([] ++ va_pl L M) sz) t) (va_A ([] ++ va_pl L M) sz)) 0 0 (va_A ([] ++ va_pl L M) sz) := by
  refine Met.ofW (cc := cX6_isTerm) (maxL := 2) (ret := (some .boolean)) (by decide) rfl ?_
  intro p e s m args below meth c s₁ B hml hv
  obtain ⟨rfl, hsz, hP, hK, hD0, hN⟩ := hv
  have hx := B.exec
  have hb := B.bytes
  have hr := B.returns
  have hts := atoms_spec (ws := (wsM yX6_isTerm cX6_isTerm 2 (some .boolean))) B.pre
  have hg : ∀ w ∈ lw_good, w.before _ s = true := fun w h => hts w (List.mem_cons_of_mem _ h)
  have hown : s.vm.findClass RX6 = some m.cls := findClass_of_methodNamed B.named
  have hlocks := B.notSynchronized
  subst hsz
  have hD := hD0.self (sz := s.heap.size)
  generalize hAe : va_A ([] ++ va_pl L M) s.heap.size = A at hD ⊢
  have hA : ∀ q : Nat, s.heap.size ≤ q → A q := fun q h => by rw [← hAe]; exact Or.inr h
  have hS : va_S A s.heap s.heap [] := va_S.rf
  have hl := lv_entry ([.int k1, .int k2]) (n := 2) (Nat.le_of_ble_eq_true rfl)
  rw [lg_entry_eq]
  generalize (lg_sl ([.int k1, .int k2]) ++ List.replicate (2 - (lg_sl ([.int k1, .int k2])).length) Slot.unset).toArray = ls at hl ⊢
  refine W.nameQ (fun Q hQ => ?_)
  refine W.nameR (fun R hR => ?_)
  have hRf : 0 ≤ R.frames := by rw [hR]; exact Nat.le_of_ble_eq_true rfl
  have hRl : 0 ≤ R.locals := by rw [hR]; exact Nat.le_of_ble_eq_true rfl
  have hRc : 0 ≤ R.cells := by rw [hR]; exact Nat.le_of_ble_eq_true rfl
  have hRs : 0 ≤ R.slots := by rw [hR]; exact Nat.le_of_ble_eq_true rfl
  have hl : lv_has ls 2 [(0, .int k1), (1, .int k2)] := hl
  refine lv_iload_n hx hb dX6_isTerm_0 rfl (lv_at hl 0 rfl) ?_
  refine lv_if_lt (tgt := 23) hx hb dX6_isTerm_1 (by decide) (fun c_1 => ?_) (fun c_1 => ?_)
  · have hz := rfl (a := 0)
    refine lv_iconst (v := 0) hx hb dX6_isTerm_23 (by decide) ?_
    rw [hQ]
    exact W.zret (v := 0) hx hb hr rfl (fun t ht hW9 => ⟨⟨0, (), rfl, (Or.inr rfl), ⟨by rw [ht]; exact hP, hD⟩⟩, hS.F ht⟩) hS.2.2 dX6_isTerm_24
  · have hz := rfl (a := 0)
    refine lv_iload_n hx hb dX6_isTerm_4 rfl (lv_at hl 0 rfl) ?_
    refine lv_bipush (v := 6) hx hb dX6_isTerm_5 (by decide) ?_
    refine lv_icmp_ge (tgt := 23) hx hb dX6_isTerm_7 (by decide) (fun c_2 => ?_) (fun c_2 => ?_)
    · have hz := rfl (a := 0)
      refine lv_iconst (v := 0) hx hb dX6_isTerm_23 (by decide) ?_
      rw [hQ]
      exact W.zret (v := 0) hx hb hr rfl (fun t ht hW9 => ⟨⟨0, (), rfl, (Or.inr rfl), ⟨by rw [ht]; exact hP, hD⟩⟩, hS.F ht⟩) hS.2.2 dX6_isTerm_24
    · have hz := rfl (a := 0)
      refine lv_iload_n hx hb dX6_isTerm_10 rfl (lv_at hl 1 rfl) ?_
      refine lv_if_lt (tgt := 23) hx hb dX6_isTerm_11 (by decide) (fun c_3 => ?_) (fun c_3 => ?_)
      · have hz := rfl (a := 0)
        refine lv_iconst (v := 0) hx hb dX6_isTerm_23 (by decide) ?_
        rw [hQ]
        exact W.zret (v := 0) hx hb hr rfl (fun t ht hW9 => ⟨⟨0, (), rfl, (Or.inr rfl), ⟨by rw [ht]; exact hP, hD⟩⟩, hS.F ht⟩) hS.2.2 dX6_isTerm_24
      · have hz := rfl (a := 0)
        refine lv_iload_n hx hb dX6_isTerm_14 rfl (lv_at hl 1 rfl) ?_
        refine lv_iconst (v := 4) hx hb dX6_isTerm_15 (by decide) ?_
        refine lv_icmp_ge (tgt := 23) hx hb dX6_isTerm_16 (by decide) (fun c_4 => ?_) (fun c_4 => ?_)
        · have hz := rfl (a := 0)
          refine lv_iconst (v := 0) hx hb dX6_isTerm_23 (by decide) ?_
          rw [hQ]
          exact W.zret (v := 0) hx hb hr rfl (fun t ht hW9 => ⟨⟨0, (), rfl, (Or.inr rfl), ⟨by rw [ht]; exact hP, hD⟩⟩, hS.F ht⟩) hS.2.2 dX6_isTerm_24
        · have hz := rfl (a := 0)
          refine lv_iconst (v := 1) hx hb dX6_isTerm_19 (by decide) ?_
          refine lv_goto (tgt := 24) hx hb dX6_isTerm_20 (by decide) ?_
          rw [hQ]
          exact W.zret (v := 1) hx hb hr rfl (fun t ht hW9 => ⟨⟨1, (), rfl, (Or.inl ⟨rfl, c_1, c_2, c_3, c_4⟩), ⟨by rw [ht]; exact hP, hD⟩⟩, hS.F ht⟩) hS.2.2 dX6_isTerm_24
