theorem dX2_isFree_0 : decode cX2_isFree 0 = .ok (.iload_n 1, 1) := by decide +kernel
theorem dX2_isFree_1 : decode cX2_isFree 1 = .ok (.aload_n 0, 1) := by decide +kernel
theorem dX2_isFree_2 : decode cX2_isFree 2 = .ok (.getfield 69, 3) := by decide +kernel
theorem dX2_isFree_5 : decode cX2_isFree 5 = .ok (.if_icmp .le 14, 3) := by decide +kernel
theorem dX2_isFree_8 : decode cX2_isFree 8 = .ok (.iload_n 1, 1) := by decide +kernel
theorem dX2_isFree_9 : decode cX2_isFree 9 = .ok (.invokestatic 81, 3) := by decide +kernel
theorem dX2_isFree_12 : decode cX2_isFree 12 = .ok (.ifCond .eq 7, 3) := by decide +kernel
theorem dX2_isFree_15 : decode cX2_isFree 15 = .ok (.iconst 1, 1) := by decide +kernel
theorem dX2_isFree_16 : decode cX2_isFree 16 = .ok (.goto 4, 3) := by decide +kernel
theorem dX2_isFree_19 : decode cX2_isFree 19 = .ok (.iconst 0, 1) := by decide +kernel
theorem dX2_isFree_20 : decode cX2_isFree 20 = .ok (.ireturn, 1) := by decide +kernel
theorem dX2_tenureAt_0 : decode cX2_tenureAt 0 = .ok (.iload_n 1, 1) := by decide +kernel
theorem dX2_tenureAt_1 : decode cX2_tenureAt 1 = .ok (.ifCond .lt 26, 3) := by decide +kernel
theorem dX2_tenureAt_4 : decode cX2_tenureAt 4 = .ok (.iload_n 1, 1) := by decide +kernel
theorem dX2_tenureAt_5 : decode cX2_tenureAt 5 = .ok (.aload_n 0, 1) := by decide +kernel
theorem dX2_tenureAt_6 : decode cX2_tenureAt 6 = .ok (.getfield 85, 3) := by decide +kernel
theorem dX2_tenureAt_9 : decode cX2_tenureAt 9 = .ok (.if_icmp .ge 18, 3) := by decide +kernel
theorem dX2_tenureAt_12 : decode cX2_tenureAt 12 = .ok (.iload_n 1, 1) := by decide +kernel
theorem dX2_tenureAt_13 : decode cX2_tenureAt 13 = .ok (.bipush 24, 2) := by decide +kernel
theorem dX2_tenureAt_15 : decode cX2_tenureAt 15 = .ok (.if_icmp .ge 12, 3) := by decide +kernel
theorem dX2_tenureAt_18 : decode cX2_tenureAt 18 = .ok (.aload_n 0, 1) := by decide +kernel
theorem dX2_tenureAt_19 : decode cX2_tenureAt 19 = .ok (.getfield 24, 3) := by decide +kernel
theorem dX2_tenureAt_22 : decode cX2_tenureAt 22 = .ok (.iload_n 1, 1) := by decide +kernel
theorem dX2_tenureAt_23 : decode cX2_tenureAt 23 = .ok (.aaload, 1) := by decide +kernel
theorem dX2_tenureAt_24 : decode cX2_tenureAt 24 = .ok (.goto 4, 3) := by decide +kernel
theorem dX2_tenureAt_27 : decode cX2_tenureAt 27 = .ok (.aconst_null, 1) := by decide +kernel
theorem dX2_tenureAt_28 : decode cX2_tenureAt 28 = .ok (.areturn, 1) := by decide +kernel
theorem dX2_sitting_0 : decode cX2_sitting 0 = .ok (.iload_n 1, 1) := by decide +kernel
theorem dX2_sitting_1 : decode cX2_sitting 1 = .ok (.invokestatic 88, 3) := by decide +kernel
theorem dX2_sitting_4 : decode cX2_sitting 4 = .ok (.ifCond .eq 12, 3) := by decide +kernel
theorem dX2_sitting_7 : decode cX2_sitting 7 = .ok (.aload_n 0, 1) := by decide +kernel
theorem dX2_sitting_8 : decode cX2_sitting 8 = .ok (.getfield 20, 3) := by decide +kernel
theorem dX2_sitting_11 : decode cX2_sitting 11 = .ok (.iload_n 1, 1) := by decide +kernel
theorem dX2_sitting_12 : decode cX2_sitting 12 = .ok (.aaload, 1) := by decide +kernel
theorem dX2_sitting_13 : decode cX2_sitting 13 = .ok (.goto 4, 3) := by decide +kernel
theorem dX2_sitting_16 : decode cX2_sitting 16 = .ok (.aconst_null, 1) := by decide +kernel
theorem dX2_sitting_17 : decode cX2_sitting 17 = .ok (.astore_n 2, 1) := by decide +kernel
theorem dX2_sitting_18 : decode cX2_sitting 18 = .ok (.aload_n 2, 1) := by decide +kernel
theorem dX2_sitting_19 : decode cX2_sitting 19 = .ok (.ifnull 10, 3) := by decide +kernel
theorem dX2_sitting_22 : decode cX2_sitting 22 = .ok (.aload_n 2, 1) := by decide +kernel
theorem dX2_sitting_23 : decode cX2_sitting 23 = .ok (.invokevirtual 91, 3) := by decide +kernel
theorem dX2_sitting_26 : decode cX2_sitting 26 = .ok (.ifCond .eq 7, 3) := by decide +kernel
theorem dX2_sitting_29 : decode cX2_sitting 29 = .ok (.aconst_null, 1) := by decide +kernel
theorem dX2_sitting_30 : decode cX2_sitting 30 = .ok (.goto 4, 3) := by decide +kernel
theorem dX2_sitting_33 : decode cX2_sitting 33 = .ok (.aload_n 2, 1) := by decide +kernel
theorem dX2_sitting_34 : decode cX2_sitting 34 = .ok (.areturn, 1) := by decide +kernel
theorem dX2_isVacantFrom_0 : decode cX2_isVacantFrom 0 = .ok (.iconst 0, 1) := by decide +kernel
theorem dX2_isVacantFrom_1 : decode cX2_isVacantFrom 1 = .ok (.istore_n 3, 1) := by decide +kernel
theorem dX2_isVacantFrom_2 : decode cX2_isVacantFrom 2 = .ok (.iload_n 3, 1) := by decide +kernel
theorem dX2_isVacantFrom_3 : decode cX2_isVacantFrom 3 = .ok (.aload_n 0, 1) := by decide +kernel
theorem dX2_isVacantFrom_4 : decode cX2_isVacantFrom 4 = .ok (.getfield 85, 3) := by decide +kernel
theorem dX2_isVacantFrom_7 : decode cX2_isVacantFrom 7 = .ok (.if_icmp .ge 49, 3) := by decide +kernel
theorem dX2_isVacantFrom_10 : decode cX2_isVacantFrom 10 = .ok (.aload_n 0, 1) := by decide +kernel
theorem dX2_isVacantFrom_11 : decode cX2_isVacantFrom 11 = .ok (.iload_n 3, 1) := by decide +kernel
theorem dX2_isVacantFrom_12 : decode cX2_isVacantFrom 12 = .ok (.invokevirtual 95, 3) := by decide +kernel
theorem dX2_isVacantFrom_15 : decode cX2_isVacantFrom 15 = .ok (.astore 4, 2) := by decide +kernel
theorem dX2_isVacantFrom_17 : decode cX2_isVacantFrom 17 = .ok (.aload 4, 2) := by decide +kernel
theorem dX2_isVacantFrom_19 : decode cX2_isVacantFrom 19 = .ok (.ifnull 31, 3) := by decide +kernel
theorem dX2_isVacantFrom_22 : decode cX2_isVacantFrom 22 = .ok (.aload 4, 2) := by decide +kernel
theorem dX2_isVacantFrom_24 : decode cX2_isVacantFrom 24 = .ok (.getfield 99, 3) := by decide +kernel
theorem dX2_isVacantFrom_27 : decode cX2_isVacantFrom 27 = .ok (.iload_n 1, 1) := by decide +kernel
theorem dX2_isVacantFrom_28 : decode cX2_isVacantFrom 28 = .ok (.if_icmp .ne 22, 3) := by decide +kernel
theorem dX2_isVacantFrom_31 : decode cX2_isVacantFrom 31 = .ok (.aload 4, 2) := by decide +kernel
theorem dX2_isVacantFrom_33 : decode cX2_isVacantFrom 33 = .ok (.invokevirtual 91, 3) := by decide +kernel
theorem dX2_isVacantFrom_36 : decode cX2_isVacantFrom 36 = .ok (.ifCond .eq 12, 3) := by decide +kernel
theorem dX2_isVacantFrom_39 : decode cX2_isVacantFrom 39 = .ok (.aload 4, 2) := by decide +kernel
theorem dX2_isVacantFrom_41 : decode cX2_isVacantFrom 41 = .ok (.getfield 102, 3) := by decide +kernel
theorem dX2_isVacantFrom_44 : decode cX2_isVacantFrom 44 = .ok (.iload_n 2, 1) := by decide +kernel
theorem dX2_isVacantFrom_45 : decode cX2_isVacantFrom 45 = .ok (.if_icmp .le 5, 3) := by decide +kernel
theorem dX2_isVacantFrom_48 : decode cX2_isVacantFrom 48 = .ok (.iconst 0, 1) := by decide +kernel
theorem dX2_isVacantFrom_49 : decode cX2_isVacantFrom 49 = .ok (.ireturn, 1) := by decide +kernel
theorem dX2_isVacantFrom_50 : decode cX2_isVacantFrom 50 = .ok (.iinc 3 1, 3) := by decide +kernel
theorem dX2_isVacantFrom_53 : decode cX2_isVacantFrom 53 = .ok (.goto (-51), 3) := by decide +kernel
theorem dX2_isVacantFrom_56 : decode cX2_isVacantFrom 56 = .ok (.iconst 1, 1) := by decide +kernel
theorem dX2_isVacantFrom_57 : decode cX2_isVacantFrom 57 = .ok (.ireturn, 1) := by decide +kernel
theorem dX2_isOwnedBy_0 : decode cX2_isOwnedBy 0 = .ok (.aload_n 0, 1) := by decide +kernel
theorem dX2_isOwnedBy_1 : decode cX2_isOwnedBy 1 = .ok (.getfield 114, 3) := by decide +kernel
theorem dX2_isOwnedBy_4 : decode cX2_isOwnedBy 4 = .ok (.iload_n 1, 1) := by decide +kernel
theorem dX2_isOwnedBy_5 : decode cX2_isOwnedBy 5 = .ok (.ishr, 1) := by decide +kernel
theorem dX2_isOwnedBy_6 : decode cX2_isOwnedBy 6 = .ok (.iconst 1, 1) := by decide +kernel
theorem dX2_isOwnedBy_7 : decode cX2_isOwnedBy 7 = .ok (.iand, 1) := by decide +kernel
theorem dX2_isOwnedBy_8 : decode cX2_isOwnedBy 8 = .ok (.iconst 1, 1) := by decide +kernel
theorem dX2_isOwnedBy_9 : decode cX2_isOwnedBy 9 = .ok (.if_icmp .ne 7, 3) := by decide +kernel
theorem dX2_isOwnedBy_12 : decode cX2_isOwnedBy 12 = .ok (.iconst 1, 1) := by decide +kernel
theorem dX2_isOwnedBy_13 : decode cX2_isOwnedBy 13 = .ok (.goto 4, 3) := by decide +kernel
theorem dX2_isOwnedBy_16 : decode cX2_isOwnedBy 16 = .ok (.iconst 0, 1) := by decide +kernel
theorem dX2_isOwnedBy_17 : decode cX2_isOwnedBy 17 = .ok (.ireturn, 1) := by decide +kernel
theorem dX2_tenureIn_0 : decode cX2_tenureIn 0 = .ok (.iconst 0, 1) := by decide +kernel
theorem dX2_tenureIn_1 : decode cX2_tenureIn 1 = .ok (.istore_n 3, 1) := by decide +kernel
theorem dX2_tenureIn_2 : decode cX2_tenureIn 2 = .ok (.iload_n 3, 1) := by decide +kernel
theorem dX2_tenureIn_3 : decode cX2_tenureIn 3 = .ok (.aload_n 0, 1) := by decide +kernel
theorem dX2_tenureIn_4 : decode cX2_tenureIn 4 = .ok (.getfield 85, 3) := by decide +kernel
theorem dX2_tenureIn_7 : decode cX2_tenureIn 7 = .ok (.if_icmp .ge 42, 3) := by decide +kernel
theorem dX2_tenureIn_10 : decode cX2_tenureIn 10 = .ok (.aload_n 0, 1) := by decide +kernel
theorem dX2_tenureIn_11 : decode cX2_tenureIn 11 = .ok (.iload_n 3, 1) := by decide +kernel
theorem dX2_tenureIn_12 : decode cX2_tenureIn 12 = .ok (.invokevirtual 95, 3) := by decide +kernel
theorem dX2_tenureIn_15 : decode cX2_tenureIn 15 = .ok (.astore 4, 2) := by decide +kernel
theorem dX2_tenureIn_17 : decode cX2_tenureIn 17 = .ok (.aload 4, 2) := by decide +kernel
theorem dX2_tenureIn_19 : decode cX2_tenureIn 19 = .ok (.ifnull 24, 3) := by decide +kernel
theorem dX2_tenureIn_22 : decode cX2_tenureIn 22 = .ok (.aload 4, 2) := by decide +kernel
theorem dX2_tenureIn_24 : decode cX2_tenureIn 24 = .ok (.getfield 99, 3) := by decide +kernel
theorem dX2_tenureIn_27 : decode cX2_tenureIn 27 = .ok (.iload_n 1, 1) := by decide +kernel
theorem dX2_tenureIn_28 : decode cX2_tenureIn 28 = .ok (.if_icmp .ne 15, 3) := by decide +kernel
theorem dX2_tenureIn_31 : decode cX2_tenureIn 31 = .ok (.aload 4, 2) := by decide +kernel
theorem dX2_tenureIn_33 : decode cX2_tenureIn 33 = .ok (.iload_n 2, 1) := by decide +kernel
theorem dX2_tenureIn_34 : decode cX2_tenureIn 34 = .ok (.invokevirtual 118, 3) := by decide +kernel
theorem dX2_tenureIn_37 : decode cX2_tenureIn 37 = .ok (.ifCond .eq 6, 3) := by decide +kernel
theorem dX2_tenureIn_40 : decode cX2_tenureIn 40 = .ok (.aload 4, 2) := by decide +kernel
theorem dX2_tenureIn_42 : decode cX2_tenureIn 42 = .ok (.areturn, 1) := by decide +kernel
theorem dX2_tenureIn_43 : decode cX2_tenureIn 43 = .ok (.iinc 3 1, 3) := by decide +kernel
theorem dX2_tenureIn_46 : decode cX2_tenureIn 46 = .ok (.goto (-44), 3) := by decide +kernel
theorem dX2_tenureIn_49 : decode cX2_tenureIn 49 = .ok (.aconst_null, 1) := by decide +kernel
theorem dX2_tenureIn_50 : decode cX2_tenureIn 50 = .ok (.areturn, 1) := by decide +kernel
theorem dX2_latestRule_0 : decode cX2_latestRule 0 = .ok (.aload_n 0, 1) := by decide +kernel
theorem dX2_latestRule_1 : decode cX2_latestRule 1 = .ok (.getfield 121, 3) := by decide +kernel
theorem dX2_latestRule_4 : decode cX2_latestRule 4 = .ok (.ifCond .le 26, 3) := by decide +kernel
theorem dX2_latestRule_7 : decode cX2_latestRule 7 = .ok (.aload_n 0, 1) := by decide +kernel
theorem dX2_latestRule_8 : decode cX2_latestRule 8 = .ok (.getfield 121, 3) := by decide +kernel
theorem dX2_latestRule_11 : decode cX2_latestRule 11 = .ok (.bipush 16, 2) := by decide +kernel
theorem dX2_latestRule_13 : decode cX2_latestRule 13 = .ok (.if_icmp .gt 17, 3) := by decide +kernel
theorem dX2_latestRule_16 : decode cX2_latestRule 16 = .ok (.aload_n 0, 1) := by decide +kernel
theorem dX2_latestRule_17 : decode cX2_latestRule 17 = .ok (.getfield 29, 3) := by decide +kernel
theorem dX2_latestRule_20 : decode cX2_latestRule 20 = .ok (.aload_n 0, 1) := by decide +kernel
theorem dX2_latestRule_21 : decode cX2_latestRule 21 = .ok (.getfield 121, 3) := by decide +kernel
theorem dX2_latestRule_24 : decode cX2_latestRule 24 = .ok (.iconst 1, 1) := by decide +kernel
theorem dX2_latestRule_25 : decode cX2_latestRule 25 = .ok (.isub, 1) := by decide +kernel
theorem dX2_latestRule_26 : decode cX2_latestRule 26 = .ok (.aaload, 1) := by decide +kernel
theorem dX2_latestRule_27 : decode cX2_latestRule 27 = .ok (.goto 4, 3) := by decide +kernel
theorem dX2_latestRule_30 : decode cX2_latestRule 30 = .ok (.aconst_null, 1) := by decide +kernel
theorem dX2_latestRule_31 : decode cX2_latestRule 31 = .ok (.areturn, 1) := by decide +kernel
theorem dX2_ruleOn_0 : decode cX2_ruleOn 0 = .ok (.aconst_null, 1) := by decide +kernel
theorem dX2_ruleOn_1 : decode cX2_ruleOn 1 = .ok (.astore_n 2, 1) := by decide +kernel
theorem dX2_ruleOn_2 : decode cX2_ruleOn 2 = .ok (.iconst 0, 1) := by decide +kernel
theorem dX2_ruleOn_3 : decode cX2_ruleOn 3 = .ok (.istore_n 3, 1) := by decide +kernel
theorem dX2_ruleOn_4 : decode cX2_ruleOn 4 = .ok (.iload_n 3, 1) := by decide +kernel
theorem dX2_ruleOn_5 : decode cX2_ruleOn 5 = .ok (.aload_n 0, 1) := by decide +kernel
theorem dX2_ruleOn_6 : decode cX2_ruleOn 6 = .ok (.getfield 121, 3) := by decide +kernel
theorem dX2_ruleOn_9 : decode cX2_ruleOn 9 = .ok (.if_icmp .ge 40, 3) := by decide +kernel
theorem dX2_ruleOn_12 : decode cX2_ruleOn 12 = .ok (.iload_n 3, 1) := by decide +kernel
theorem dX2_ruleOn_13 : decode cX2_ruleOn 13 = .ok (.bipush 16, 2) := by decide +kernel
theorem dX2_ruleOn_15 : decode cX2_ruleOn 15 = .ok (.if_icmp .ge 34, 3) := by decide +kernel
theorem dX2_ruleOn_18 : decode cX2_ruleOn 18 = .ok (.aload_n 0, 1) := by decide +kernel
theorem dX2_ruleOn_19 : decode cX2_ruleOn 19 = .ok (.getfield 29, 3) := by decide +kernel
theorem dX2_ruleOn_22 : decode cX2_ruleOn 22 = .ok (.iload_n 3, 1) := by decide +kernel
theorem dX2_ruleOn_23 : decode cX2_ruleOn 23 = .ok (.aaload, 1) := by decide +kernel
theorem dX2_ruleOn_24 : decode cX2_ruleOn 24 = .ok (.astore 4, 2) := by decide +kernel
theorem dX2_ruleOn_26 : decode cX2_ruleOn 26 = .ok (.aload 4, 2) := by decide +kernel
theorem dX2_ruleOn_28 : decode cX2_ruleOn 28 = .ok (.ifnull 15, 3) := by decide +kernel
theorem dX2_ruleOn_31 : decode cX2_ruleOn 31 = .ok (.aload 4, 2) := by decide +kernel
theorem dX2_ruleOn_33 : decode cX2_ruleOn 33 = .ok (.getfield 124, 3) := by decide +kernel
theorem dX2_ruleOn_36 : decode cX2_ruleOn 36 = .ok (.iload_n 1, 1) := by decide +kernel
theorem dX2_ruleOn_37 : decode cX2_ruleOn 37 = .ok (.if_icmp .gt 6, 3) := by decide +kernel
theorem dX2_ruleOn_40 : decode cX2_ruleOn 40 = .ok (.aload 4, 2) := by decide +kernel
theorem dX2_ruleOn_42 : decode cX2_ruleOn 42 = .ok (.astore_n 2, 1) := by decide +kernel
theorem dX2_ruleOn_43 : decode cX2_ruleOn 43 = .ok (.iinc 3 1, 3) := by decide +kernel
theorem dX2_ruleOn_46 : decode cX2_ruleOn 46 = .ok (.goto (-42), 3) := by decide +kernel
theorem dX2_ruleOn_49 : decode cX2_ruleOn 49 = .ok (.aload_n 2, 1) := by decide +kernel
theorem dX2_ruleOn_50 : decode cX2_ruleOn 50 = .ok (.areturn, 1) := by decide +kernel
theorem dX2_leafOn_0 : decode cX2_leafOn 0 = .ok (.iload_n 1, 1) := by decide +kernel
theorem dX2_leafOn_1 : decode cX2_leafOn 1 = .ok (.invokestatic 81, 3) := by decide +kernel
theorem dX2_leafOn_4 : decode cX2_leafOn 4 = .ok (.ifCond .eq 12, 3) := by decide +kernel
theorem dX2_leafOn_7 : decode cX2_leafOn 7 = .ok (.aload_n 0, 1) := by decide +kernel
theorem dX2_leafOn_8 : decode cX2_leafOn 8 = .ok (.getfield 35, 3) := by decide +kernel
theorem dX2_leafOn_11 : decode cX2_leafOn 11 = .ok (.iload_n 1, 1) := by decide +kernel
theorem dX2_leafOn_12 : decode cX2_leafOn 12 = .ok (.aaload, 1) := by decide +kernel
theorem dX2_leafOn_13 : decode cX2_leafOn 13 = .ok (.goto 4, 3) := by decide +kernel
theorem dX2_leafOn_16 : decode cX2_leafOn 16 = .ok (.aconst_null, 1) := by decide +kernel
theorem dX2_leafOn_17 : decode cX2_leafOn 17 = .ok (.areturn, 1) := by decide +kernel
theorem dX2_entriesOn_0 : decode cX2_entriesOn 0 = .ok (.aload_n 0, 1) := by decide +kernel
theorem dX2_entriesOn_1 : decode cX2_entriesOn 1 = .ok (.iload_n 1, 1) := by decide +kernel
theorem dX2_entriesOn_2 : decode cX2_entriesOn 2 = .ok (.invokevirtual 135, 3) := by decide +kernel
theorem dX2_entriesOn_5 : decode cX2_entriesOn 5 = .ok (.astore_n 2, 1) := by decide +kernel
theorem dX2_entriesOn_6 : decode cX2_entriesOn 6 = .ok (.aload_n 2, 1) := by decide +kernel
theorem dX2_entriesOn_7 : decode cX2_entriesOn 7 = .ok (.ifnonnull 7, 3) := by decide +kernel
theorem dX2_entriesOn_10 : decode cX2_entriesOn 10 = .ok (.lconst 0, 1) := by decide +kernel
theorem dX2_entriesOn_11 : decode cX2_entriesOn 11 = .ok (.goto 7, 3) := by decide +kernel
theorem dX2_entriesOn_14 : decode cX2_entriesOn 14 = .ok (.aload_n 2, 1) := by decide +kernel
theorem dX2_entriesOn_15 : decode cX2_entriesOn 15 = .ok (.invokevirtual 139, 3) := by decide +kernel
theorem dX2_entriesOn_18 : decode cX2_entriesOn 18 = .ok (.lreturn, 1) := by decide +kernel
theorem dX2_dropEntry_0 : decode cX2_dropEntry 0 = .ok (.aload_n 0, 1) := by decide +kernel
theorem dX2_dropEntry_1 : decode cX2_dropEntry 1 = .ok (.iload_n 1, 1) := by decide +kernel
theorem dX2_dropEntry_2 : decode cX2_dropEntry 2 = .ok (.invokevirtual 135, 3) := by decide +kernel
theorem dX2_dropEntry_5 : decode cX2_dropEntry 5 = .ok (.astore_n 2, 1) := by decide +kernel
theorem dX2_dropEntry_6 : decode cX2_dropEntry 6 = .ok (.aload_n 2, 1) := by decide +kernel
theorem dX2_dropEntry_7 : decode cX2_dropEntry 7 = .ok (.ifnull 7, 3) := by decide +kernel
theorem dX2_dropEntry_10 : decode cX2_dropEntry 10 = .ok (.aload_n 2, 1) := by decide +kernel
theorem dX2_dropEntry_11 : decode cX2_dropEntry 11 = .ok (.invokevirtual 143, 3) := by decide +kernel
theorem dX2_dropEntry_14 : decode cX2_dropEntry 14 = .ok (.return_, 1) := by decide +kernel
theorem dX2_firstOfNextYear_0 : decode cX2_firstOfNextYear 0 = .ok (.aload_n 0, 1) := by decide +kernel
theorem dX2_firstOfNextYear_1 : decode cX2_firstOfNextYear 1 = .ok (.getfield 154, 3) := by decide +kernel
theorem dX2_firstOfNextYear_4 : decode cX2_firstOfNextYear 4 = .ok (.ifCond .le 28, 3) := by decide +kernel
theorem dX2_firstOfNextYear_7 : decode cX2_firstOfNextYear 7 = .ok (.aload_n 0, 1) := by decide +kernel
theorem dX2_firstOfNextYear_8 : decode cX2_firstOfNextYear 8 = .ok (.getfield 154, 3) := by decide +kernel
theorem dX2_firstOfNextYear_11 : decode cX2_firstOfNextYear 11 = .ok (.bipush 12, 2) := by decide +kernel
theorem dX2_firstOfNextYear_13 : decode cX2_firstOfNextYear 13 = .ok (.if_icmp .gt 19, 3) := by decide +kernel
theorem dX2_firstOfNextYear_16 : decode cX2_firstOfNextYear 16 = .ok (.aload_n 0, 1) := by decide +kernel
theorem dX2_firstOfNextYear_17 : decode cX2_firstOfNextYear 17 = .ok (.getfield 9, 3) := by decide +kernel
theorem dX2_firstOfNextYear_20 : decode cX2_firstOfNextYear 20 = .ok (.aload_n 0, 1) := by decide +kernel
theorem dX2_firstOfNextYear_21 : decode cX2_firstOfNextYear 21 = .ok (.getfield 154, 3) := by decide +kernel
theorem dX2_firstOfNextYear_24 : decode cX2_firstOfNextYear 24 = .ok (.iconst 1, 1) := by decide +kernel
theorem dX2_firstOfNextYear_25 : decode cX2_firstOfNextYear 25 = .ok (.isub, 1) := by decide +kernel
theorem dX2_firstOfNextYear_26 : decode cX2_firstOfNextYear 26 = .ok (.iaload, 1) := by decide +kernel
theorem dX2_firstOfNextYear_27 : decode cX2_firstOfNextYear 27 = .ok (.iconst 1, 1) := by decide +kernel
theorem dX2_firstOfNextYear_28 : decode cX2_firstOfNextYear 28 = .ok (.iadd, 1) := by decide +kernel
theorem dX2_firstOfNextYear_29 : decode cX2_firstOfNextYear 29 = .ok (.goto 7, 3) := by decide +kernel
theorem dX2_firstOfNextYear_32 : decode cX2_firstOfNextYear 32 = .ok (.aload_n 0, 1) := by decide +kernel
theorem dX2_firstOfNextYear_33 : decode cX2_firstOfNextYear 33 = .ok (.getfield 66, 3) := by decide +kernel
theorem dX2_firstOfNextYear_36 : decode cX2_firstOfNextYear 36 = .ok (.ireturn, 1) := by decide +kernel
theorem dX2_yearsClosedSince_0 : decode cX2_yearsClosedSince 0 = .ok (.iconst 0, 1) := by decide +kernel
theorem dX2_yearsClosedSince_1 : decode cX2_yearsClosedSince 1 = .ok (.istore_n 2, 1) := by decide +kernel
theorem dX2_yearsClosedSince_2 : decode cX2_yearsClosedSince 2 = .ok (.iconst 0, 1) := by decide +kernel
theorem dX2_yearsClosedSince_3 : decode cX2_yearsClosedSince 3 = .ok (.istore_n 3, 1) := by decide +kernel
theorem dX2_yearsClosedSince_4 : decode cX2_yearsClosedSince 4 = .ok (.iload_n 3, 1) := by decide +kernel
theorem dX2_yearsClosedSince_5 : decode cX2_yearsClosedSince 5 = .ok (.aload_n 0, 1) := by decide +kernel
theorem dX2_yearsClosedSince_6 : decode cX2_yearsClosedSince 6 = .ok (.getfield 157, 3) := by decide +kernel
theorem dX2_yearsClosedSince_9 : decode cX2_yearsClosedSince 9 = .ok (.if_icmp .ge 28, 3) := by decide +kernel
theorem dX2_yearsClosedSince_12 : decode cX2_yearsClosedSince 12 = .ok (.iload_n 3, 1) := by decide +kernel
theorem dX2_yearsClosedSince_13 : decode cX2_yearsClosedSince 13 = .ok (.bipush 12, 2) := by decide +kernel
theorem dX2_yearsClosedSince_15 : decode cX2_yearsClosedSince 15 = .ok (.if_icmp .ge 22, 3) := by decide +kernel
theorem dX2_yearsClosedSince_18 : decode cX2_yearsClosedSince 18 = .ok (.aload_n 0, 1) := by decide +kernel
theorem dX2_yearsClosedSince_19 : decode cX2_yearsClosedSince 19 = .ok (.getfield 9, 3) := by decide +kernel
theorem dX2_yearsClosedSince_22 : decode cX2_yearsClosedSince 22 = .ok (.iload_n 3, 1) := by decide +kernel
theorem dX2_yearsClosedSince_23 : decode cX2_yearsClosedSince 23 = .ok (.iaload, 1) := by decide +kernel
theorem dX2_yearsClosedSince_24 : decode cX2_yearsClosedSince 24 = .ok (.iload_n 1, 1) := by decide +kernel
theorem dX2_yearsClosedSince_25 : decode cX2_yearsClosedSince 25 = .ok (.if_icmp .lt 6, 3) := by decide +kernel
theorem dX2_yearsClosedSince_28 : decode cX2_yearsClosedSince 28 = .ok (.iinc 2 1, 3) := by decide +kernel
theorem dX2_yearsClosedSince_31 : decode cX2_yearsClosedSince 31 = .ok (.iinc 3 1, 3) := by decide +kernel
theorem dX2_yearsClosedSince_34 : decode cX2_yearsClosedSince 34 = .ok (.goto (-30), 3) := by decide +kernel
theorem dX2_yearsClosedSince_37 : decode cX2_yearsClosedSince 37 = .ok (.iload_n 2, 1) := by decide +kernel
theorem dX2_yearsClosedSince_38 : decode cX2_yearsClosedSince 38 = .ok (.ireturn, 1) := by decide +kernel
theorem dX2_lagsFor_0 : decode cX2_lagsFor 0 = .ok (.iconst 0, 1) := by decide +kernel
theorem dX2_lagsFor_1 : decode cX2_lagsFor 1 = .ok (.istore_n 3, 1) := by decide +kernel
theorem dX2_lagsFor_2 : decode cX2_lagsFor 2 = .ok (.iload_n 3, 1) := by decide +kernel
theorem dX2_lagsFor_3 : decode cX2_lagsFor 3 = .ok (.aload_n 0, 1) := by decide +kernel
theorem dX2_lagsFor_4 : decode cX2_lagsFor 4 = .ok (.getfield 85, 3) := by decide +kernel
theorem dX2_lagsFor_7 : decode cX2_lagsFor 7 = .ok (.if_icmp .ge 81, 3) := by decide +kernel
theorem dX2_lagsFor_10 : decode cX2_lagsFor 10 = .ok (.aload_n 0, 1) := by decide +kernel
theorem dX2_lagsFor_11 : decode cX2_lagsFor 11 = .ok (.iload_n 3, 1) := by decide +kernel
theorem dX2_lagsFor_12 : decode cX2_lagsFor 12 = .ok (.invokevirtual 95, 3) := by decide +kernel
theorem dX2_lagsFor_15 : decode cX2_lagsFor 15 = .ok (.astore 4, 2) := by decide +kernel
theorem dX2_lagsFor_17 : decode cX2_lagsFor 17 = .ok (.aload 4, 2) := by decide +kernel
theorem dX2_lagsFor_19 : decode cX2_lagsFor 19 = .ok (.ifnull 63, 3) := by decide +kernel
theorem dX2_lagsFor_22 : decode cX2_lagsFor 22 = .ok (.aload 4, 2) := by decide +kernel
theorem dX2_lagsFor_24 : decode cX2_lagsFor 24 = .ok (.getfield 160, 3) := by decide +kernel
theorem dX2_lagsFor_27 : decode cX2_lagsFor 27 = .ok (.getfield 108, 3) := by decide +kernel
theorem dX2_lagsFor_30 : decode cX2_lagsFor 30 = .ok (.aload_n 1, 1) := by decide +kernel
theorem dX2_lagsFor_31 : decode cX2_lagsFor 31 = .ok (.if_acmp .ne 51, 3) := by decide +kernel
theorem dX2_lagsFor_34 : decode cX2_lagsFor 34 = .ok (.aload 4, 2) := by decide +kernel
theorem dX2_lagsFor_36 : decode cX2_lagsFor 36 = .ok (.getfield 164, 3) := by decide +kernel
theorem dX2_lagsFor_39 : decode cX2_lagsFor 39 = .ok (.iload_n 2, 1) := by decide +kernel
theorem dX2_lagsFor_40 : decode cX2_lagsFor 40 = .ok (.if_icmp .le 6, 3) := by decide +kernel
theorem dX2_lagsFor_43 : decode cX2_lagsFor 43 = .ok (.goto 39, 3) := by decide +kernel
theorem dX2_lagsFor_46 : decode cX2_lagsFor 46 = .ok (.aload 4, 2) := by decide +kernel
theorem dX2_lagsFor_48 : decode cX2_lagsFor 48 = .ok (.invokevirtual 91, 3) := by decide +kernel
theorem dX2_lagsFor_51 : decode cX2_lagsFor 51 = .ok (.ifCond .eq 17, 3) := by decide +kernel
theorem dX2_lagsFor_54 : decode cX2_lagsFor 54 = .ok (.iload_n 2, 1) := by decide +kernel
theorem dX2_lagsFor_55 : decode cX2_lagsFor 55 = .ok (.aload 4, 2) := by decide +kernel
theorem dX2_lagsFor_57 : decode cX2_lagsFor 57 = .ok (.getfield 102, 3) := by decide +kernel
theorem dX2_lagsFor_60 : decode cX2_lagsFor 60 = .ok (.iconst 1, 1) := by decide +kernel
theorem dX2_lagsFor_61 : decode cX2_lagsFor 61 = .ok (.isub, 1) := by decide +kernel
theorem dX2_lagsFor_62 : decode cX2_lagsFor 62 = .ok (.invokestatic 167, 3) := by decide +kernel
theorem dX2_lagsFor_65 : decode cX2_lagsFor 65 = .ok (.goto 4, 3) := by decide +kernel
theorem dX2_lagsFor_68 : decode cX2_lagsFor 68 = .ok (.iload_n 2, 1) := by decide +kernel
theorem dX2_lagsFor_69 : decode cX2_lagsFor 69 = .ok (.istore 5, 2) := by decide +kernel
theorem dX2_lagsFor_71 : decode cX2_lagsFor 71 = .ok (.aload_n 0, 1) := by decide +kernel
theorem dX2_lagsFor_72 : decode cX2_lagsFor 72 = .ok (.getfield 69, 3) := by decide +kernel
theorem dX2_lagsFor_75 : decode cX2_lagsFor 75 = .ok (.iload 5, 2) := by decide +kernel
theorem dX2_lagsFor_77 : decode cX2_lagsFor 77 = .ok (.if_icmp .ge 5, 3) := by decide +kernel
theorem dX2_lagsFor_80 : decode cX2_lagsFor 80 = .ok (.iconst 1, 1) := by decide +kernel
theorem dX2_lagsFor_81 : decode cX2_lagsFor 81 = .ok (.ireturn, 1) := by decide +kernel
theorem dX2_lagsFor_82 : decode cX2_lagsFor 82 = .ok (.iinc 3 1, 3) := by decide +kernel
theorem dX2_lagsFor_85 : decode cX2_lagsFor 85 = .ok (.goto (-83), 3) := by decide +kernel
theorem dX2_lagsFor_88 : decode cX2_lagsFor 88 = .ok (.iconst 0, 1) := by decide +kernel
theorem dX2_lagsFor_89 : decode cX2_lagsFor 89 = .ok (.ireturn, 1) := by decide +kernel
theorem dX2_isParted_0 : decode cX2_isParted 0 = .ok (.iconst 0, 1) := by decide +kernel
theorem dX2_isParted_1 : decode cX2_isParted 1 = .ok (.istore_n 2, 1) := by decide +kernel
theorem dX2_isParted_2 : decode cX2_isParted 2 = .ok (.iload_n 2, 1) := by decide +kernel
theorem dX2_isParted_3 : decode cX2_isParted 3 = .ok (.aload_n 0, 1) := by decide +kernel
theorem dX2_isParted_4 : decode cX2_isParted 4 = .ok (.getfield 85, 3) := by decide +kernel
theorem dX2_isParted_7 : decode cX2_isParted 7 = .ok (.if_icmp .ge 37, 3) := by decide +kernel
theorem dX2_isParted_10 : decode cX2_isParted 10 = .ok (.aload_n 0, 1) := by decide +kernel
theorem dX2_isParted_11 : decode cX2_isParted 11 = .ok (.iload_n 2, 1) := by decide +kernel
theorem dX2_isParted_12 : decode cX2_isParted 12 = .ok (.invokevirtual 95, 3) := by decide +kernel
theorem dX2_isParted_15 : decode cX2_isParted 15 = .ok (.astore_n 3, 1) := by decide +kernel
theorem dX2_isParted_16 : decode cX2_isParted 16 = .ok (.aload_n 3, 1) := by decide +kernel
theorem dX2_isParted_17 : decode cX2_isParted 17 = .ok (.ifnull 21, 3) := by decide +kernel
theorem dX2_isParted_20 : decode cX2_isParted 20 = .ok (.aload_n 3, 1) := by decide +kernel
theorem dX2_isParted_21 : decode cX2_isParted 21 = .ok (.getfield 164, 3) := by decide +kernel
theorem dX2_isParted_24 : decode cX2_isParted 24 = .ok (.iload_n 1, 1) := by decide +kernel
theorem dX2_isParted_25 : decode cX2_isParted 25 = .ok (.if_icmp .eq 11, 3) := by decide +kernel
theorem dX2_isParted_28 : decode cX2_isParted 28 = .ok (.aload_n 3, 1) := by decide +kernel
theorem dX2_isParted_29 : decode cX2_isParted 29 = .ok (.getfield 102, 3) := by decide +kernel
theorem dX2_isParted_32 : decode cX2_isParted 32 = .ok (.iload_n 1, 1) := by decide +kernel
theorem dX2_isParted_33 : decode cX2_isParted 33 = .ok (.if_icmp .ne 5, 3) := by decide +kernel
theorem dX2_isParted_36 : decode cX2_isParted 36 = .ok (.iconst 1, 1) := by decide +kernel
theorem dX2_isParted_37 : decode cX2_isParted 37 = .ok (.ireturn, 1) := by decide +kernel
theorem dX2_isParted_38 : decode cX2_isParted 38 = .ok (.iinc 2 1, 3) := by decide +kernel
theorem dX2_isParted_41 : decode cX2_isParted 41 = .ok (.goto (-39), 3) := by decide +kernel
theorem dX2_isParted_44 : decode cX2_isParted 44 = .ok (.iconst 1, 1) := by decide +kernel
theorem dX2_isParted_45 : decode cX2_isParted 45 = .ok (.istore_n 2, 1) := by decide +kernel
theorem dX2_isParted_46 : decode cX2_isParted 46 = .ok (.iload_n 2, 1) := by decide +kernel
theorem dX2_isParted_47 : decode cX2_isParted 47 = .ok (.aload_n 0, 1) := by decide +kernel
theorem dX2_isParted_48 : decode cX2_isParted 48 = .ok (.getfield 121, 3) := by decide +kernel
theorem dX2_isParted_51 : decode cX2_isParted 51 = .ok (.if_icmp .ge 60, 3) := by decide +kernel
theorem dX2_isParted_54 : decode cX2_isParted 54 = .ok (.iload_n 2, 1) := by decide +kernel
theorem dX2_isParted_55 : decode cX2_isParted 55 = .ok (.bipush 16, 2) := by decide +kernel
theorem dX2_isParted_57 : decode cX2_isParted 57 = .ok (.if_icmp .ge 54, 3) := by decide +kernel
theorem dX2_isParted_60 : decode cX2_isParted 60 = .ok (.aload_n 0, 1) := by decide +kernel
theorem dX2_isParted_61 : decode cX2_isParted 61 = .ok (.getfield 29, 3) := by decide +kernel
theorem dX2_isParted_64 : decode cX2_isParted 64 = .ok (.iload_n 2, 1) := by decide +kernel
theorem dX2_isParted_65 : decode cX2_isParted 65 = .ok (.aaload, 1) := by decide +kernel
theorem dX2_isParted_66 : decode cX2_isParted 66 = .ok (.astore_n 3, 1) := by decide +kernel
theorem dX2_isParted_67 : decode cX2_isParted 67 = .ok (.aload_n 0, 1) := by decide +kernel
theorem dX2_isParted_68 : decode cX2_isParted 68 = .ok (.getfield 29, 3) := by decide +kernel
theorem dX2_isParted_71 : decode cX2_isParted 71 = .ok (.iload_n 2, 1) := by decide +kernel
theorem dX2_isParted_72 : decode cX2_isParted 72 = .ok (.iconst 1, 1) := by decide +kernel
theorem dX2_isParted_73 : decode cX2_isParted 73 = .ok (.isub, 1) := by decide +kernel
theorem dX2_isParted_74 : decode cX2_isParted 74 = .ok (.aaload, 1) := by decide +kernel
theorem dX2_isParted_75 : decode cX2_isParted 75 = .ok (.astore 4, 2) := by decide +kernel
theorem dX2_isParted_77 : decode cX2_isParted 77 = .ok (.aload_n 3, 1) := by decide +kernel
theorem dX2_isParted_78 : decode cX2_isParted 78 = .ok (.ifnull 27, 3) := by decide +kernel
theorem dX2_isParted_81 : decode cX2_isParted 81 = .ok (.aload 4, 2) := by decide +kernel
theorem dX2_isParted_83 : decode cX2_isParted 83 = .ok (.ifnull 22, 3) := by decide +kernel
theorem dX2_isParted_86 : decode cX2_isParted 86 = .ok (.aload_n 3, 1) := by decide +kernel
theorem dX2_isParted_87 : decode cX2_isParted 87 = .ok (.getfield 124, 3) := by decide +kernel
theorem dX2_isParted_90 : decode cX2_isParted 90 = .ok (.iload_n 1, 1) := by decide +kernel
theorem dX2_isParted_91 : decode cX2_isParted 91 = .ok (.if_icmp .ne 14, 3) := by decide +kernel
theorem dX2_isParted_94 : decode cX2_isParted 94 = .ok (.aload_n 3, 1) := by decide +kernel
theorem dX2_isParted_95 : decode cX2_isParted 95 = .ok (.aload 4, 2) := by decide +kernel
theorem dX2_isParted_97 : decode cX2_isParted 97 = .ok (.invokevirtual 170, 3) := by decide +kernel
theorem dX2_isParted_100 : decode cX2_isParted 100 = .ok (.ifCond .eq 5, 3) := by decide +kernel
theorem dX2_isParted_103 : decode cX2_isParted 103 = .ok (.iconst 1, 1) := by decide +kernel
theorem dX2_isParted_104 : decode cX2_isParted 104 = .ok (.ireturn, 1) := by decide +kernel
theorem dX2_isParted_105 : decode cX2_isParted 105 = .ok (.iinc 2 1, 3) := by decide +kernel
theorem dX2_isParted_108 : decode cX2_isParted 108 = .ok (.goto (-62), 3) := by decide +kernel
theorem dX2_isParted_111 : decode cX2_isParted 111 = .ok (.iconst 0, 1) := by decide +kernel
theorem dX2_isParted_112 : decode cX2_isParted 112 = .ok (.ireturn, 1) := by decide +kernel
theorem dX2_receive_0 : decode cX2_receive 0 = .ok (.iload_n 1, 1) := by decide +kernel
theorem dX2_receive_1 : decode cX2_receive 1 = .ok (.aload_n 0, 1) := by decide +kernel
theorem dX2_receive_2 : decode cX2_receive 2 = .ok (.getfield 69, 3) := by decide +kernel
theorem dX2_receive_5 : decode cX2_receive 5 = .ok (.iconst 1, 1) := by decide +kernel
theorem dX2_receive_6 : decode cX2_receive 6 = .ok (.iadd, 1) := by decide +kernel
theorem dX2_receive_7 : decode cX2_receive 7 = .ok (.invokestatic 146, 3) := by decide +kernel
theorem dX2_receive_10 : decode cX2_receive 10 = .ok (.istore 4, 2) := by decide +kernel
theorem dX2_receive_12 : decode cX2_receive 12 = .ok (.iload 4, 2) := by decide +kernel
theorem dX2_receive_14 : decode cX2_receive 14 = .ok (.invokestatic 81, 3) := by decide +kernel
theorem dX2_receive_17 : decode cX2_receive 17 = .ok (.ifCond .eq 17, 3) := by decide +kernel
theorem dX2_receive_20 : decode cX2_receive 20 = .ok (.aload_n 0, 1) := by decide +kernel
theorem dX2_receive_21 : decode cX2_receive 21 = .ok (.getfield 39, 3) := by decide +kernel
theorem dX2_receive_24 : decode cX2_receive 24 = .ok (.iload 4, 2) := by decide +kernel
theorem dX2_receive_26 : decode cX2_receive 26 = .ok (.dup2, 1) := by decide +kernel
theorem dX2_receive_27 : decode cX2_receive 27 = .ok (.laload, 1) := by decide +kernel
theorem dX2_receive_28 : decode cX2_receive 28 = .ok (.lload_n 2, 1) := by decide +kernel
theorem dX2_receive_29 : decode cX2_receive 29 = .ok (.ladd, 1) := by decide +kernel
theorem dX2_receive_30 : decode cX2_receive 30 = .ok (.lastore, 1) := by decide +kernel
theorem dX2_receive_31 : decode cX2_receive 31 = .ok (.goto 13, 3) := by decide +kernel
theorem dX2_receive_34 : decode cX2_receive 34 = .ok (.aload_n 0, 1) := by decide +kernel
theorem dX2_receive_35 : decode cX2_receive 35 = .ok (.dup, 1) := by decide +kernel
theorem dX2_receive_36 : decode cX2_receive 36 = .ok (.getfield 174, 3) := by decide +kernel
theorem dX2_receive_39 : decode cX2_receive 39 = .ok (.lload_n 2, 1) := by decide +kernel
theorem dX2_receive_40 : decode cX2_receive 40 = .ok (.ladd, 1) := by decide +kernel
theorem dX2_receive_41 : decode cX2_receive 41 = .ok (.putfield 174, 3) := by decide +kernel
theorem dX2_receive_44 : decode cX2_receive 44 = .ok (.return_, 1) := by decide +kernel
theorem dX6_differsFrom_0 : decode cX6_differsFrom 0 = .ok (.aload_n 0, 1) := by decide +kernel
theorem dX6_differsFrom_1 : decode cX6_differsFrom 1 = .ok (.getfield 19, 3) := by decide +kernel
theorem dX6_differsFrom_4 : decode cX6_differsFrom 4 = .ok (.aload_n 1, 1) := by decide +kernel
theorem dX6_differsFrom_5 : decode cX6_differsFrom 5 = .ok (.getfield 19, 3) := by decide +kernel
theorem dX6_differsFrom_8 : decode cX6_differsFrom 8 = .ok (.if_icmp .eq 5, 3) := by decide +kernel
theorem dX6_differsFrom_11 : decode cX6_differsFrom 11 = .ok (.iconst 1, 1) := by decide +kernel
theorem dX6_differsFrom_12 : decode cX6_differsFrom 12 = .ok (.ireturn, 1) := by decide +kernel
theorem dX6_differsFrom_13 : decode cX6_differsFrom 13 = .ok (.iconst 0, 1) := by decide +kernel
theorem dX6_differsFrom_14 : decode cX6_differsFrom 14 = .ok (.istore_n 2, 1) := by decide +kernel
theorem dX6_differsFrom_15 : decode cX6_differsFrom 15 = .ok (.iload_n 2, 1) := by decide +kernel
theorem dX6_differsFrom_16 : decode cX6_differsFrom 16 = .ok (.aload_n 0, 1) := by decide +kernel
theorem dX6_differsFrom_17 : decode cX6_differsFrom 17 = .ok (.getfield 15, 3) := by decide +kernel
theorem dX6_differsFrom_20 : decode cX6_differsFrom 20 = .ok (.arraylength, 1) := by decide +kernel
theorem dX6_differsFrom_21 : decode cX6_differsFrom 21 = .ok (.if_icmp .ge 35, 3) := by decide +kernel
theorem dX6_differsFrom_24 : decode cX6_differsFrom 24 = .ok (.iload_n 2, 1) := by decide +kernel
theorem dX6_differsFrom_25 : decode cX6_differsFrom 25 = .ok (.aload_n 1, 1) := by decide +kernel
theorem dX6_differsFrom_26 : decode cX6_differsFrom 26 = .ok (.getfield 15, 3) := by decide +kernel
theorem dX6_differsFrom_29 : decode cX6_differsFrom 29 = .ok (.arraylength, 1) := by decide +kernel
theorem dX6_differsFrom_30 : decode cX6_differsFrom 30 = .ok (.if_icmp .ge 26, 3) := by decide +kernel
theorem dX6_differsFrom_33 : decode cX6_differsFrom 33 = .ok (.aload_n 0, 1) := by decide +kernel
theorem dX6_differsFrom_34 : decode cX6_differsFrom 34 = .ok (.getfield 15, 3) := by decide +kernel
theorem dX6_differsFrom_37 : decode cX6_differsFrom 37 = .ok (.iload_n 2, 1) := by decide +kernel
theorem dX6_differsFrom_38 : decode cX6_differsFrom 38 = .ok (.iaload, 1) := by decide +kernel
theorem dX6_differsFrom_39 : decode cX6_differsFrom 39 = .ok (.aload_n 1, 1) := by decide +kernel
theorem dX6_differsFrom_40 : decode cX6_differsFrom 40 = .ok (.getfield 15, 3) := by decide +kernel
theorem dX6_differsFrom_43 : decode cX6_differsFrom 43 = .ok (.iload_n 2, 1) := by decide +kernel
theorem dX6_differsFrom_44 : decode cX6_differsFrom 44 = .ok (.iaload, 1) := by decide +kernel
theorem dX6_differsFrom_45 : decode cX6_differsFrom 45 = .ok (.if_icmp .eq 5, 3) := by decide +kernel
theorem dX6_differsFrom_48 : decode cX6_differsFrom 48 = .ok (.iconst 1, 1) := by decide +kernel
theorem dX6_differsFrom_49 : decode cX6_differsFrom 49 = .ok (.ireturn, 1) := by decide +kernel
theorem dX6_differsFrom_50 : decode cX6_differsFrom 50 = .ok (.iinc 2 1, 3) := by decide +kernel
theorem dX6_differsFrom_53 : decode cX6_differsFrom 53 = .ok (.goto (-38), 3) := by decide +kernel
theorem dX6_differsFrom_56 : decode cX6_differsFrom 56 = .ok (.iconst 0, 1) := by decide +kernel
theorem dX6_differsFrom_57 : decode cX6_differsFrom 57 = .ok (.ireturn, 1) := by decide +kernel
theorem wd_41 : Cond.fieldLink RX2 69 RX2 "to" "I" ∈ lw_good := mem_t1 212 (by decide +kernel) rfl
theorem wd_42 : Cond.code yX11_isDay cX11_isDay 1 (some .boolean) ∈ lw_good := mem_t2 141 rfl rfl
theorem wd_43 : Cond.static yX11_isDay ∈ lw_good := mem_t2 140 (by decide +kernel) rfl
theorem wd_44 : Cond.fieldLink RX2 85 RX2 "tenureCount" "I" ∈ lw_good := mem_t1 227 (by decide +kernel) rfl
theorem wd_45 : Cond.fieldLink RX2 24 RX2 "tenures" "[LPartnersBook$Tenure;" ∈ lw_good := mem_t1 226 (by decide +kernel) rfl
theorem wd_46 : Cond.code yX11_isSeat cX11_isSeat 1 (some .boolean) ∈ lw_good := mem_t2 103 rfl rfl
theorem wd_47 : Cond.static yX11_isSeat ∈ lw_good := mem_t2 102 (by decide +kernel) rfl
theorem wd_48 : Cond.fieldLink RX2 20 RX2 "held" "[LPartnersBook$Tenure;" ∈ lw_good := mem_t1 224 (by decide +kernel) rfl
theorem wd_49 : Cond.methodLink RX2 91 yX9_hasEnded ∈ lw_good := mem_t2 110 (by decide +kernel) rfl
theorem wd_50 : Cond.instanceMethod yX9_hasEnded ∈ lw_good := mem_t2 111 (by decide +kernel) rfl
theorem wd_51 : Cond.selects RX9 yX9_hasEnded yX9_hasEnded ∈ lw_good := mem_t2 112 (by decide +kernel) rfl
theorem wd_52 : Cond.initialized RX9 ∈ lw_good := mem_t1 13 (by decide +kernel) rfl
theorem wd_53 : Cond.code yX9_hasEnded cX9_hasEnded 1 (some .boolean) ∈ lw_good := mem_t2 113 rfl rfl
theorem wd_54 : Cond.methodLink RX2 95 yX2_tenureAt ∈ lw_good := mem_t2 146 (by decide +kernel) rfl
theorem wd_55 : Cond.instanceMethod yX2_tenureAt ∈ lw_good := mem_t2 147 (by decide +kernel) rfl
theorem wd_56 : Cond.selects RX2 yX2_tenureAt yX2_tenureAt ∈ lw_good := mem_t2 148 (by decide +kernel) rfl
theorem wd_57 : Cond.initialized RX2 ∈ lw_good := mem_t1 6 (by decide +kernel) rfl
theorem wd_58 : Cond.code yX2_tenureAt cX2_tenureAt 2 (some (.object "PartnersBook$Tenure")) ∈ lw_good := mem_t2 149 rfl rfl
theorem wd_59 : Cond.fieldLink RX2 99 RX9 "seat" "I" ∈ lw_good := mem_t2 193 (by decide +kernel) rfl
theorem wd_60 : Cond.fieldLink RX2 102 RX9 "end" "I" ∈ lw_good := mem_t2 202 (by decide +kernel) rfl
theorem wd_61 : Cond.fieldLink RX2 114 RX2 "owners" "I" ∈ lw_good := mem_t2 2 (by decide +kernel) rfl
theorem wd_62 : Cond.methodLink RX2 118 yX9_isIn ∈ lw_good := mem_t4 110 (by decide +kernel) rfl
theorem wd_63 : Cond.instanceMethod yX9_isIn ∈ lw_good := mem_t3 165 (by decide +kernel) rfl
theorem wd_64 : Cond.selects RX9 yX9_isIn yX9_isIn ∈ lw_good := mem_t3 166 (by decide +kernel) rfl
theorem wd_65 : Cond.code yX9_isIn cX9_isIn 2 (some .boolean) ∈ lw_good := mem_t3 167 rfl rfl
theorem wd_66 : Cond.fieldLink RX2 121 RX2 "ruleCount" "I" ∈ lw_good := mem_t1 232 (by decide +kernel) rfl
theorem wd_67 : Cond.fieldLink RX2 29 RX2 "rules" "[LPartnersBook$Rule;" ∈ lw_good := mem_t1 230 (by decide +kernel) rfl
theorem wd_68 : Cond.fieldLink RX2 124 RX6 "day" "I" ∈ lw_good := mem_t3 56 (by decide +kernel) rfl
theorem wd_69 : Cond.fieldLink RX2 35 RX2 "leaves" "[LPartnersBook$Leaf;" ∈ lw_good := mem_t1 234 (by decide +kernel) rfl
theorem wd_70 : Cond.methodLink RX2 135 yX2_leafOn ∈ lw_good := mem_t3 204 (by decide +kernel) rfl
theorem wd_71 : Cond.instanceMethod yX2_leafOn ∈ lw_good := mem_t3 112 (by decide +kernel) rfl
theorem wd_72 : Cond.selects RX2 yX2_leafOn yX2_leafOn ∈ lw_good := mem_t3 113 (by decide +kernel) rfl
theorem wd_73 : Cond.code yX2_leafOn cX2_leafOn 2 (some (.object "PartnersBook$Leaf")) ∈ lw_good := mem_t3 114 rfl rfl
theorem wd_74 : Cond.methodLink RX2 139 yX3_total ∈ lw_good := mem_t4 59 (by decide +kernel) rfl
theorem wd_75 : Cond.instanceMethod yX3_total ∈ lw_good := mem_t4 60 (by decide +kernel) rfl
theorem wd_76 : Cond.selects RX3 yX3_total yX3_total ∈ lw_good := mem_t4 61 (by decide +kernel) rfl
theorem wd_77 : Cond.code yX3_total cX3_total 4 (some .long) ∈ lw_good := mem_t4 62 rfl rfl
theorem wd_78 : Cond.methodLink RX2 143 yX3_dropLatest ∈ lw_good := mem_t3 205 (by decide +kernel) rfl
theorem wd_79 : Cond.instanceMethod yX3_dropLatest ∈ lw_good := mem_t3 206 (by decide +kernel) rfl
theorem wd_80 : Cond.selects RX3 yX3_dropLatest yX3_dropLatest ∈ lw_good := mem_t3 207 (by decide +kernel) rfl
theorem wd_81 : Cond.code yX3_dropLatest cX3_dropLatest 1 none ∈ lw_good := mem_t3 208 rfl rfl
theorem wd_82 : Cond.fieldLink RX2 154 RX2 "yearsTold" "I" ∈ lw_good := mem_t1 217 (by decide +kernel) rfl
theorem wd_83 : Cond.fieldLink RX2 66 RX2 "first" "I" ∈ lw_good := mem_t1 210 (by decide +kernel) rfl
theorem wd_84 : Cond.fieldLink RX2 9 RX2 "ends" "[I" ∈ lw_good := mem_t1 215 (by decide +kernel) rfl
theorem wd_85 : Cond.fieldLink RX2 157 RX2 "yearsClosed" "I" ∈ lw_good := mem_t1 220 (by decide +kernel) rfl
theorem wd_86 : Cond.fieldLink RX2 160 RX9 "partner" "LPartnersBook$Partner;" ∈ lw_good := mem_t2 191 (by decide +kernel) rfl
theorem wd_87 : Cond.fieldLink RX2 108 RX4 "owner" "LPartnersBook$House;" ∈ lw_good := mem_t2 85 (by decide +kernel) rfl
theorem wd_88 : Cond.fieldLink RX2 164 RX9 "begin" "I" ∈ lw_good := mem_t2 198 (by decide +kernel) rfl
theorem wd_89 : Cond.methodLink RX2 167 Lib.Math.min.name ∈ lw_good := mem_t3 235 (by decide +kernel) rfl
theorem wd_90 : Cond.static Lib.Math.min.name ∈ lw_good := mem_t2 170 (by decide +kernel) rfl
theorem wd_91 : Cond.code Lib.Math.min.name Lib.Math.min.code 2 (some .int) ∈ lw_good := mem_t2 171 (by decide +kernel) rfl
theorem wd_92 : Cond.fieldLink RX6 19 RX6 "thousandths" "I" ∈ lw_good := mem_t3 58 (by decide +kernel) rfl
theorem wd_93 : Cond.fieldLink RX6 15 RX6 "terms" "[I" ∈ lw_good := mem_t3 60 (by decide +kernel) rfl
theorem wd_94 : Cond.methodLink RX2 170 yX6_differsFrom ∈ lw_good := mem_t4 9 (by decide +kernel) rfl
theorem wd_95 : Cond.instanceMethod yX6_differsFrom ∈ lw_good := mem_t4 10 (by decide +kernel) rfl
theorem wd_96 : Cond.selects RX6 yX6_differsFrom yX6_differsFrom ∈ lw_good := mem_t4 11 (by decide +kernel) rfl
theorem wd_97 : Cond.initialized RX6 ∈ lw_good := mem_t1 14 (by decide +kernel) rfl
theorem wd_98 : Cond.code yX6_differsFrom cX6_differsFrom 3 (some .boolean) ∈ lw_good := mem_t4 12 rfl rfl
theorem wd_99 : Cond.methodLink RX2 146 Lib.Math.max.name ∈ lw_good := mem_t3 225 (by decide +kernel) rfl
theorem wd_100 : Cond.static Lib.Math.max.name ∈ lw_good := mem_t1 143 (by decide +kernel) rfl
theorem wd_101 : Cond.code Lib.Math.max.name Lib.Math.max.code 2 (some .int) ∈ lw_good := mem_t1 144 (by decide +kernel) rfl
theorem wd_102 : Cond.fieldLink RX2 39 RX2 "income" "[J" ∈ lw_good := mem_t1 236 (by decide +kernel) rfl
theorem wd_103 : Cond.fieldLink RX2 174 RX2 "looseSum" "J" ∈ lw_good := mem_t2 1 (by decide +kernel) rfl
set_option maxHeartbeats 4000000 in
set_option maxRecDepth 100000 in
theorem s_X2_tenureAt (l : Launch) (D : va_G) (cy : Nat → ClassId) (K : Kp) (L : List Nat) (M : Hp) (sz : Nat) (oa : Nat) (k1 : Int32) (hW : WOK cy K L M) (ia : isk K L oa 2 0) : Met l yX2_tenureAt (wsM yX2_tenureAt cX2_tenureAt 2 (some (.object "PartnersBook$Tenure"))) ({ frames := 0, cells := 0, slots := 0, locals := 0 }) (va_Pc [.ref oa, .int k1] (PG D cy [] L M sz)) (va_Qq (fun (r : Option Nat) (_ : Unit) => iskN K L r 9 0) (fun _ t => PQ D [] L M (va_A ([] ++ va_pl L M) sz) t) (va_A ([] ++ va_pl L M) sz)) 0 0 (va_A ([] ++ va_pl L M) sz) := by
  refine Met.ofW (cc := cX2_tenureAt) (maxL := 2) (ret := (some (.object "PartnersBook$Tenure"))) (by decide) rfl ?_
  intro p e s m args below meth c s₁ B hml hv
  obtain ⟨rfl, hsz, hP, hK, hD0, hN⟩ := hv
  have hx := B.exec
  have hb := B.bytes
  have hr := B.returns
  have hts := atoms_spec (ws := (wsM yX2_tenureAt cX2_tenureAt 2 (some (.object "PartnersBook$Tenure")))) B.pre
  have hg : ∀ w ∈ lw_good, w.before _ s = true := fun w h => hts w (List.mem_cons_of_mem _ h)
  have hown : s.vm.findClass RX2 = some m.cls := findClass_of_methodNamed B.named
  have hlocks := B.notSynchronized
  subst hsz
  have hD := hD0.self (sz := s.heap.size)
  generalize hAe : va_A ([] ++ va_pl L M) s.heap.size = A at hD ⊢
  have hA : ∀ q : Nat, s.heap.size ≤ q → A q := fun q h => by rw [← hAe]; exact Or.inr h
  have hS : va_S A s.heap s.heap [] := va_S.rf
  have hl := lv_entry ([.ref oa, .int k1]) (n := 2) (Nat.le_of_ble_eq_true rfl)
  rw [lg_entry_eq]
  generalize (lg_sl ([.ref oa, .int k1]) ++ List.replicate (2 - (lg_sl ([.ref oa, .int k1])).length) Slot.unset).toArray = ls at hl ⊢
  refine W.nameQ (fun Q hQ => ?_)
  refine W.nameR (fun R hR => ?_)
  have hRf : 0 ≤ R.frames := by rw [hR]; exact Nat.le_of_ble_eq_true rfl
  have hRl : 0 ≤ R.locals := by rw [hR]; exact Nat.le_of_ble_eq_true rfl
  have hRc : 0 ≤ R.cells := by rw [hR]; exact Nat.le_of_ble_eq_true rfl
  have hRs : 0 ≤ R.slots := by rw [hR]; exact Nat.le_of_ble_eq_true rfl
  have hl : lv_has ls 2 [(0, .ref oa), (1, .int k1)] := hl
  refine lv_iload_n hx hb dX2_tenureAt_0 rfl (lv_at hl 1 rfl) ?_
  refine lv_if_lt (tgt := 27) hx hb dX2_tenureAt_1 (by decide) (fun c_1 => ?_) (fun c_1 => ?_)
  · have hz := rfl (a := 0)
    refine lv_null hx hb dX2_tenureAt_27 ?_
    rw [hQ]
    exact W.aret (v := .null) hx hb hr (Or.inl ⟨_, rfl⟩) (Or.inl rfl) (fun t ht hW9 => ⟨⟨none, (), rfl, iskN.none, ⟨by rw [ht]; exact hP, hD⟩⟩, hS.F ht⟩) hS.2.2 dX2_tenureAt_28
  · have hz := rfl (a := 0)
    refine lv_iload_n hx hb dX2_tenureAt_4 rfl (lv_at hl 1 rfl) ?_
    refine lv_aload_n hx hb dX2_tenureAt_5 rfl (lv_at hl 0 rfl) ?_
    obtain ⟨v2_0, v2_1, v2_2, v2_3, v2_4, v2_5, v2_6, v2_7, v2_8, v2_9, v2_10, v2_11, v2_12, v2_13, v2_14, v2_15, v2_16, v2_17, v2_18, v2_19, hM2, h2_3, h2_4, h2_5, h2_6, h2_7, h2_8, h2_9, h2_10, h2_11, h2_12, h2_13, h2_16, h2_17, h2_18, h2_19⟩ := hW.open_2 ia
    refine pg_get (D := D) (ci := 2) (v := .int (nI v2_9)) (C := RX2) (T := TX2) (N := 20) hx hb hg inG2 hown hK hP ia.1 hM2 rfl 9 (by decide) (hg _ wd_44) (fun _ h9 => h9) rfl dX2_tenureAt_6 ?_
    refine lv_icmp_ge (tgt := 27) hx hb dX2_tenureAt_9 (by decide) (fun c_3 => ?_) (fun c_3 => ?_)
    · have hz := rfl (a := 0)
      refine lv_null hx hb dX2_tenureAt_27 ?_
      rw [hQ]
      exact W.aret (v := .null) hx hb hr (Or.inl ⟨_, rfl⟩) (Or.inl rfl) (fun t ht hW9 => ⟨⟨none, (), rfl, iskN.none, ⟨by rw [ht]; exact hP, hD⟩⟩, hS.F ht⟩) hS.2.2 dX2_tenureAt_28
    · have hz := rfl (a := 0)
      refine lv_iload_n hx hb dX2_tenureAt_12 rfl (lv_at hl 1 rfl) ?_
      refine lv_bipush (v := 24) hx hb dX2_tenureAt_13 (by decide) ?_
      refine lv_icmp_ge (tgt := 27) hx hb dX2_tenureAt_15 (by decide) (fun c_4 => ?_) (fun c_4 => ?_)
      · have hz := rfl (a := 0)
        refine lv_null hx hb dX2_tenureAt_27 ?_
        rw [hQ]
        exact W.aret (v := .null) hx hb hr (Or.inl ⟨_, rfl⟩) (Or.inl rfl) (fun t ht hW9 => ⟨⟨none, (), rfl, iskN.none, ⟨by rw [ht]; exact hP, hD⟩⟩, hS.F ht⟩) hS.2.2 dX2_tenureAt_28
      · have hz := rfl (a := 0)
        refine lv_aload_n hx hb dX2_tenureAt_18 rfl (lv_at hl 0 rfl) ?_
        refine pg_get (D := D) (ci := 2) (v := .ref v2_8) (C := RX2) (T := TX2) (N := 20) hx hb hg inG2 hown hK hP ia.1 hM2 rfl 8 (by decide) (hg _ wd_45) (fun _ h9 => h9) rfl dX2_tenureAt_19 ?_
        refine lv_iload_n hx hb dX2_tenureAt_22 rfl (lv_at hl 1 rfl) ?_
        obtain ⟨f5, hM5, hf5⟩ := hW.open_62 h2_8
        have hi_6 : vp_in k1 24 := (inb k1 24 (by omega) c_1 c_4)
        refine pg_aldq hx hb hK hP h2_8.1 8 hM5 rfl hi_6 dX2_tenureAt_23 ?_
        obtain ⟨q_7, ho_8⟩ : ∃ q : Option Nat, q = f5 (k1 : Int32).toNatClampNeg := ⟨_, rfl⟩
        rw [← ho_8]
        have hq_9 : iskN K L q_7 9 0 := by rw [ho_8]; exact hf5 _ (vp_lt hi_6)
        rcases q_7 with _ | bq_7
        · have hz := rfl (a := 0)
          refine lv_goto (tgt := 28) hx hb dX2_tenureAt_24 (by decide) ?_
          rw [hQ]
          exact W.aret (v := .null) hx hb hr (Or.inl ⟨_, rfl⟩) (Or.inl rfl) (fun t ht hW9 => ⟨⟨none, (), rfl, iskN.none, ⟨by rw [ht]; exact hP, hD⟩⟩, hS.F ht⟩) hS.2.2 dX2_tenureAt_28
        · have hb_10 := hq_9 bq_7 rfl
          refine lv_goto (tgt := 28) hx hb dX2_tenureAt_24 (by decide) ?_
          rw [hQ]
          exact W.aret (v := .ref bq_7) hx hb hr (Or.inl ⟨_, rfl⟩) (Or.inr ⟨_, rfl⟩) (fun t ht hW9 => ⟨⟨(some bq_7), (), rfl, iskN.some hb_10, ⟨by rw [ht]; exact hP, hD⟩⟩, hS.F ht⟩) hS.2.2 dX2_tenureAt_28
set_option maxHeartbeats 4000000 in
set_option maxRecDepth 100000 in
theorem s_X2_tenureIn (l : Launch) (D : va_G) (cy : Nat → ClassId) (K : Kp) (L : List Nat) (M : Hp) (sz : Nat) (oa : Nat) (k1 : Int32) (k2 : Int32) (hW : WOK cy K L M) (ia : isk K L oa 2 0) : Met l yX2_tenureIn (wsM yX2_tenureIn cX2_tenureIn 5 (some (.object "PartnersBook$Tenure"))) ({ frames := 1, cells := 0, slots := 0, locals := 21 }) (va_Pc [.ref oa, .int k1, .int k2] (PG D cy [] L M sz)) (va_Qq (fun (r : Option Nat) (_ : Unit) => iskN K L r 9 0) (fun _ t => PQ D [] L M (va_A ([] ++ va_pl L M) sz) t) (va_A ([] ++ va_pl L M) sz)) 0 0 (va_A ([] ++ va_pl L M) sz) := by
  refine Met.ofW (cc := cX2_tenureIn) (maxL := 5) (ret := (some (.object "PartnersBook$Tenure"))) (by decide) rfl ?_
  intro p e s m args below meth c s₁ B hml hv
  obtain ⟨rfl, hsz, hP, hK, hD0, hN⟩ := hv
  have hx := B.exec
  have hb := B.bytes
  have hr := B.returns
  have hts := atoms_spec (ws := (wsM yX2_tenureIn cX2_tenureIn 5 (some (.object "PartnersBook$Tenure")))) B.pre
  have hg : ∀ w ∈ lw_good, w.before _ s = true := fun w h => hts w (List.mem_cons_of_mem _ h)
  have hown : s.vm.findClass RX2 = some m.cls := findClass_of_methodNamed B.named
  have hlocks := B.notSynchronized
  subst hsz
  have hD := hD0.self (sz := s.heap.size)
  generalize hAe : va_A ([] ++ va_pl L M) s.heap.size = A at hD ⊢
  have hA : ∀ q : Nat, s.heap.size ≤ q → A q := fun q h => by rw [← hAe]; exact Or.inr h
  have hS : va_S A s.heap s.heap [] := va_S.rf
  have hl := lv_entry ([.ref oa, .int k1, .int k2]) (n := 5) (Nat.le_of_ble_eq_true rfl)
  rw [lg_entry_eq]
  generalize (lg_sl ([.ref oa, .int k1, .int k2]) ++ List.replicate (5 - (lg_sl ([.ref oa, .int k1, .int k2])).length) Slot.unset).toArray = ls at hl ⊢
  refine W.nameQ (fun Q hQ => ?_)
  refine W.nameR (fun R hR => ?_)
  have hRf : 1 ≤ R.frames := by rw [hR]; exact Nat.le_of_ble_eq_true rfl
  have hRl : 21 ≤ R.locals := by rw [hR]; exact Nat.le_of_ble_eq_true rfl
  have hRc : 0 ≤ R.cells := by rw [hR]; exact Nat.le_of_ble_eq_true rfl
  have hRs : 0 ≤ R.slots := by rw [hR]; exact Nat.le_of_ble_eq_true rfl
  have hl : lv_has ls 5 [(0, .ref oa), (1, .int k1), (2, .int k2)] := hl
  refine lv_iconst (v := 0) hx hb dX2_tenureIn_0 (by decide) ?_
  refine lv_istore_n (lv' := [(3, .int 0), (0, .ref oa), (1, .int k1), (2, .int k2)]) hx hb dX2_tenureIn_1 rfl hl (by decide) rfl (fun ls hl => ?_)
  have key_1 : ∀ (fu_3 : Nat) (v3w4 : Nat) (H_6 : Heap) (locs : List Loc) (ls : Array Slot), 24 - v3w4 < fu_3 → v3w4 ≤ 24 → WOK cy K L M → va_P D vwCl ([] ++ va_pl L M) H_6 → va_D A ([] ++ va_pl L M) → va_S A s.heap H_6 locs → lv_has ls 5 [(3, .int (nI v3w4)), (0, .ref oa), (1, .int k1), (2, .int k2)] → W p l e R s m ([.ref oa, .int k1, .int k2] : List Value).toArray below meth c H_6 locs 0 0 Q (F0 m 2 ls []) := by
    intro fu_3
    induction fu_3 with
    | zero => intro v3w4 H_6 locs ls h; exact absurd h (Nat.not_lt_zero _)
    | succ fu_3 ih_2 =>
      intro v3w4 H_6 locs ls hfu hx_5 hW hP hD hS hl
      refine lv_iload_n hx hb dX2_tenureIn_2 rfl (lv_at hl 0 rfl) ?_
      refine lv_aload_n hx hb dX2_tenureIn_3 rfl (lv_at hl 1 rfl) ?_
      obtain ⟨v7_0, v7_1, v7_2, v7_3, v7_4, v7_5, v7_6, v7_7, v7_8, v7_9, v7_10, v7_11, v7_12, v7_13, v7_14, v7_15, v7_16, v7_17, v7_18, v7_19, hM7, h7_3, h7_4, h7_5, h7_6, h7_7, h7_8, h7_9, h7_10, h7_11, h7_12, h7_13, h7_16, h7_17, h7_18, h7_19⟩ := hW.open_2 ia
      refine pg_get (D := D) (ci := 2) (v := .int (nI v7_9)) (C := RX2) (T := TX2) (N := 20) hx hb hg inG2 hown hK hP ia.1 hM7 rfl 9 (by decide) (hg _ wd_44) (fun _ h9 => h9) rfl dX2_tenureIn_4 ?_
      refine lv_icmp_ge (tgt := 49) hx hb dX2_tenureIn_7 (by decide) (fun c_8 => ?_) (fun c_8 => ?_)
      · have hz := rfl (a := 0)
        have n_9 : v7_9 ≤ v3w4 := (iLE (a := v7_9) (b := v3w4) (by omega) (by omega)).mp c_8
        refine lv_null hx hb dX2_tenureIn_49 ?_
        rw [hQ]
        exact W.aret (v := .null) hx hb hr (Or.inl ⟨_, rfl⟩) (Or.inl rfl) (fun t ht hW9 => ⟨⟨none, (), rfl, iskN.none, ⟨by rw [ht]; exact hP, hD⟩⟩, hS.F ht⟩) hS.2.2 dX2_tenureIn_50
      · have hz := rfl (a := 0)
        have n_10 : ¬ (v7_9 ≤ v3w4) := fun q => c_8 ((iLE (a := v7_9) (b := v3w4) (by omega) (by omega)).mpr q)
        refine lv_aload_n hx hb dX2_tenureIn_10 rfl (lv_at hl 1 rfl) ?_
        refine lv_iload_n hx hb dX2_tenureIn_11 rfl (lv_at hl 0 rfl) ?_
        have hPc : va_P D vwCl ([] ++ va_pl L M) H_6 := hP
        have hDc : va_D A ([] ++ va_pl L M) := hD
        have hFc : ∀ q, va_A ([] ++ va_pl L M) H_6.size q → A q := pg_free hDc hS hA
        refine va_callq (va_runV (As := [.int (nI v3w4)]) (rest := []) ⟨hx, hb, hml, hown, hg⟩ (s_X2_tenureAt l D cy K L M H_6.size oa (nI v3w4)  hW ia) (cwV 1 hg (gV wd_54 wd_55 wd_56 wd_57 wd_58) rfl rfl rfl (by decide +kernel) ⟨(Nat.le_trans (Nat.le_of_ble_eq_true rfl) hRf), (Nat.le_trans (Nat.le_of_ble_eq_true rfl) hRl)⟩) ⟨PG.blind, pg_recv hK hP ia.1 hM7 rfl, fun U hU hW => ⟨rfl, PG.at hPc hK hDc hN hU hW⟩⟩ rfl rfl hl.1 rfl (lv_room (Nat.le_of_ble_eq_true rfl)) dX2_tenureIn_12 ⟨(Nat.le_trans (Nat.le_of_ble_eq_true rfl) hRc), (Nat.le_trans (Nat.le_of_ble_eq_true rfl) hRs)⟩) hS (fun q _ h => hFc q h) hFc (fun r_12 M_13 t H_11 locs ht hvm hw hB hz1 hk1 hS => ?_)
        have hp_14 := hw
        obtain ⟨hP1, hD1⟩ := hB
        rw [ht] at hP1
        have hP : va_P D vwCl ([] ++ va_pl L M) H_11 := hP1
        have hD : va_D A ([] ++ va_pl L M) := hD1.mono hFc
        rcases r_12 with _ | b_15
        · have hz := rfl (a := 0)
          refine lv_astoreN (lv' := [(4, .null), (3, .int (nI v3w4)), (0, .ref oa), (1, .int k1), (2, .int k2)]) hx hb dX2_tenureIn_15 hl (by decide) rfl (fun ls hl => ?_)
          refine lv_aloadN hx hb dX2_tenureIn_17 (lv_at hl 0 rfl) ?_
          refine lv_ifnullN (tgt := 43) hx hb dX2_tenureIn_19 (by decide) ?_
          refine lv_iinc (v := (nI (v3w4 + 1))) (lv' := [(3, .int (nI (v3w4 + 1))), (4, .null), (0, .ref oa), (1, .int k1), (2, .int k2)]) hx hb dX2_tenureIn_43 hl (k := 1) rfl (nI_1 v3w4) (by decide) rfl (fun ls hl => ?_)
          refine lv_goto (tgt := 2) hx hb dX2_tenureIn_46 (by decide) ?_
          exact ih_2 (v3w4 + 1) H_11 _ _ (by omega) (by omega) hW hP hD hS (lv_sub hl [0, 2, 3, 4] rfl)
        · have hb_16 := hp_14 b_15 rfl
          refine lv_astore (lv' := [(4, .ref b_15), (3, .int (nI v3w4)), (0, .ref oa), (1, .int k1), (2, .int k2)]) hx hb dX2_tenureIn_15 hl (by decide) rfl (fun ls hl => ?_)
          refine lv_aload hx hb dX2_tenureIn_17 (lv_at hl 0 rfl) ?_
          refine lv_ifnull hx hb dX2_tenureIn_19 ?_
          refine lv_aload hx hb dX2_tenureIn_22 (lv_at hl 0 rfl) ?_
          obtain ⟨v17_0, v17_1, v17_2, v17_3, v17_4, v17_5, v17_6, v17_7, v17_8, v17_9, v17_10, v17_11, v17_12, v17_13, v17_14, v17_15, hM17, h17_0, h17_1, h17_4, h17_8⟩ := hW.open_9 hb_16
          refine pg_get (D := D) (ci := 9) (v := .int v17_2) (C := RX9) (T := TX9) (N := 16) hx hb hg inG9 hown hK hP hb_16.1 hM17 rfl 2 (by decide) (hg _ wd_59) (fun _ h9 => h9) rfl dX2_tenureIn_24 ?_
          refine lv_iload_n hx hb dX2_tenureIn_27 rfl (lv_at hl 3 rfl) ?_
          refine lv_icmp_ne (tgt := 43) hx hb dX2_tenureIn_28 (by decide) (fun c_18 => ?_) (fun c_18 => ?_)
          · have hz := rfl (a := 0)
            refine lv_iinc (v := (nI (v3w4 + 1))) (lv' := [(3, .int (nI (v3w4 + 1))), (4, .ref b_15), (0, .ref oa), (1, .int k1), (2, .int k2)]) hx hb dX2_tenureIn_43 hl (k := 1) rfl (nI_1 v3w4) (by decide) rfl (fun ls hl => ?_)
            refine lv_goto (tgt := 2) hx hb dX2_tenureIn_46 (by decide) ?_
            exact ih_2 (v3w4 + 1) H_11 _ _ (by omega) (by omega) hW hP hD hS (lv_sub hl [0, 2, 3, 4] rfl)
          · have hz := rfl (a := 0)
            refine lv_aload hx hb dX2_tenureIn_31 (lv_at hl 0 rfl) ?_
            refine lv_iload_n hx hb dX2_tenureIn_33 rfl (lv_at hl 4 rfl) ?_
            have hPc : va_P D vwCl ([] ++ va_pl L M) H_11 := hP
            have hDc : va_D A ([] ++ va_pl L M) := hD
            have hFc : ∀ q, va_A ([] ++ va_pl L M) H_11.size q → A q := pg_free hDc hS hA
            refine va_calli (va_runV (As := [.int k2]) (rest := []) ⟨hx, hb, hml, hown, hg⟩ (s_X9_isIn l D cy K L M H_11.size b_15 k2  hW hb_16) (cwV 1 hg (gV wd_62 wd_63 wd_64 wd_52 wd_65) rfl rfl rfl (by decide +kernel) ⟨(Nat.le_trans (Nat.le_of_ble_eq_true rfl) hRf), (Nat.le_trans (Nat.le_of_ble_eq_true rfl) hRl)⟩) ⟨PG.blind, pg_recv hK hP hb_16.1 hM17 rfl, fun U hU hW => ⟨rfl, PG.at hPc hK hDc hN hU hW⟩⟩ rfl rfl hl.1 rfl (lv_room (Nat.le_of_ble_eq_true rfl)) dX2_tenureIn_34 ⟨(Nat.le_trans (Nat.le_of_ble_eq_true rfl) hRc), (Nat.le_trans (Nat.le_of_ble_eq_true rfl) hRs)⟩) hS (fun q _ h => hFc q h) hFc (fun r_20 M_21 t H_19 locs ht hvm hw hB hz1 hk1 hS => ?_)
            have hp_22 := hw
            obtain ⟨hP1, hD1⟩ := hB
            rw [ht] at hP1
            have hP : va_P D vwCl ([] ++ va_pl L M) H_19 := hP1
            have hD : va_D A ([] ++ va_pl L M) := hD1.mono hFc
            rcases hp_22 with rfl | rfl
            · have hz := rfl (a := 0)
              refine lv_if_eq (tgt := 43) hx hb dX2_tenureIn_37 (by decide) (fun c_23 => absurd c_23 (by decide)) (fun _ => ?_)
              refine lv_aload hx hb dX2_tenureIn_40 (lv_at hl 0 rfl) ?_
              rw [hQ]
              exact W.aret (v := .ref b_15) hx hb hr (Or.inl ⟨_, rfl⟩) (Or.inr ⟨_, rfl⟩) (fun t ht hW9 => ⟨⟨(some b_15), (), rfl, iskN.some hb_16, ⟨by rw [ht]; exact hP, hD⟩⟩, hS.F ht⟩) hS.2.2 dX2_tenureIn_42
            · have hz := rfl (a := 0)
              refine lv_if_eq (tgt := 43) hx hb dX2_tenureIn_37 (by decide) (fun _ => ?_) (fun c_24 => absurd c_24 (by decide))
              refine lv_iinc (v := (nI (v3w4 + 1))) (lv' := [(3, .int (nI (v3w4 + 1))), (4, .ref b_15), (0, .ref oa), (1, .int k1), (2, .int k2)]) hx hb dX2_tenureIn_43 hl (k := 1) rfl (nI_1 v3w4) (by decide) rfl (fun ls hl => ?_)
              refine lv_goto (tgt := 2) hx hb dX2_tenureIn_46 (by decide) ?_
              exact ih_2 (v3w4 + 1) H_19 _ _ (by omega) (by omega) hW hP hD hS (lv_sub hl [0, 2, 3, 4] rfl)
  exact key_1 (24 - 0 + 1) 0 s.heap _ _ (by omega) (by omega) hW hP hD hS (lv_sub hl [0, 1, 2, 3] rfl)
set_option maxHeartbeats 4000000 in
set_option maxRecDepth 100000 in
theorem s_X2_latestRule (l : Launch) (D : va_G) (cy : Nat → ClassId) (K : Kp) (L : List Nat) (M : Hp) (sz : Nat) (oa : Nat) (hW : WOK cy K L M) (ia : isk K L oa 2 0) : Met l yX2_latestRule (wsM yX2_latestRule cX2_latestRule 1 (some (.object "PartnersBook$Rule"))) ({ frames := 0, cells := 0, slots := 0, locals := 0 }) (va_Pc [.ref oa] (PG D cy [] L M sz)) (va_Qq (fun (r : Option Nat) (_ : Unit) => iskN K L r 6 0) (fun _ t => PQ D [] L M (va_A ([] ++ va_pl L M) sz) t) (va_A ([] ++ va_pl L M) sz)) 0 0 (va_A ([] ++ va_pl L M) sz) := by
  refine Met.ofW (cc := cX2_latestRule) (maxL := 1) (ret := (some (.object "PartnersBook$Rule"))) (by decide) rfl ?_
  intro p e s m args below meth c s₁ B hml hv
  obtain ⟨rfl, hsz, hP, hK, hD0, hN⟩ := hv
  have hx := B.exec
  have hb := B.bytes
  have hr := B.returns
  have hts := atoms_spec (ws := (wsM yX2_latestRule cX2_latestRule 1 (some (.object "PartnersBook$Rule")))) B.pre
  have hg : ∀ w ∈ lw_good, w.before _ s = true := fun w h => hts w (List.mem_cons_of_mem _ h)
  have hown : s.vm.findClass RX2 = some m.cls := findClass_of_methodNamed B.named
  have hlocks := B.notSynchronized
  subst hsz
  have hD := hD0.self (sz := s.heap.size)
  generalize hAe : va_A ([] ++ va_pl L M) s.heap.size = A at hD ⊢
  have hA : ∀ q : Nat, s.heap.size ≤ q → A q := fun q h => by rw [← hAe]; exact Or.inr h
  have hS : va_S A s.heap s.heap [] := va_S.rf
  have hl := lv_entry ([.ref oa]) (n := 1) (Nat.le_of_ble_eq_true rfl)
  rw [lg_entry_eq]
  generalize (lg_sl ([.ref oa]) ++ List.replicate (1 - (lg_sl ([.ref oa])).length) Slot.unset).toArray = ls at hl ⊢
  refine W.nameQ (fun Q hQ => ?_)
  refine W.nameR (fun R hR => ?_)
  have hRf : 0 ≤ R.frames := by rw [hR]; exact Nat.le_of_ble_eq_true rfl
  have hRl : 0 ≤ R.locals := by rw [hR]; exact Nat.le_of_ble_eq_true rfl
  have hRc : 0 ≤ R.cells := by rw [hR]; exact Nat.le_of_ble_eq_true rfl
  have hRs : 0 ≤ R.slots := by rw [hR]; exact Nat.le_of_ble_eq_true rfl
  have hl : lv_has ls 1 [(0, .ref oa)] := hl
  refine lv_aload_n hx hb dX2_latestRule_0 rfl (lv_at hl 0 rfl) ?_
  obtain ⟨v1_0, v1_1, v1_2, v1_3, v1_4, v1_5, v1_6, v1_7, v1_8, v1_9, v1_10, v1_11, v1_12, v1_13, v1_14, v1_15, v1_16, v1_17, v1_18, v1_19, hM1, h1_3, h1_4, h1_5, h1_6, h1_7, h1_8, h1_9, h1_10, h1_11, h1_12, h1_13, h1_16, h1_17, h1_18, h1_19⟩ := hW.open_2 ia
  refine pg_get (D := D) (ci := 2) (v := .int (nI v1_11)) (C := RX2) (T := TX2) (N := 20) hx hb hg inG2 hown hK hP ia.1 hM1 rfl 11 (by decide) (hg _ wd_66) (fun _ h9 => h9) rfl dX2_latestRule_1 ?_
  refine lv_if_le (tgt := 30) hx hb dX2_latestRule_4 (by decide) (fun c_2 => ?_) (fun c_2 => ?_)
  · have hz := rfl (a := 0)
    have n_3 : v1_11 ≤ 0 := (iLE (a := v1_11) (b := 0) (by omega) (by omega)).mp c_2
    refine lv_null hx hb dX2_latestRule_30 ?_
    rw [hQ]
    exact W.aret (v := .null) hx hb hr (Or.inl ⟨_, rfl⟩) (Or.inl rfl) (fun t ht hW9 => ⟨⟨none, (), rfl, iskN.none, ⟨by rw [ht]; exact hP, hD⟩⟩, hS.F ht⟩) hS.2.2 dX2_latestRule_31
  · have hz := rfl (a := 0)
    have n_4 : ¬ (v1_11 ≤ 0) := fun q => c_2 ((iLE (a := v1_11) (b := 0) (by omega) (by omega)).mpr q)
    refine lv_aload_n hx hb dX2_latestRule_7 rfl (lv_at hl 0 rfl) ?_
    refine pg_get (D := D) (ci := 2) (v := .int (nI v1_11)) (C := RX2) (T := TX2) (N := 20) hx hb hg inG2 hown hK hP ia.1 hM1 rfl 11 (by decide) (hg _ wd_66) (fun _ h9 => h9) rfl dX2_latestRule_8 ?_
    refine lv_bipush (v := 16) hx hb dX2_latestRule_11 (by decide) ?_
    refine lv_icmp_gt (tgt := 30) hx hb dX2_latestRule_13 (by decide) (fun c_5 => ?_) (fun c_5 => ?_)
    · have hz := rfl (a := 0)
      have n_6 : 16 < v1_11 := (iLT (a := 16) (b := v1_11) (by omega) (by omega)).mp c_5
      refine lv_null hx hb dX2_latestRule_30 ?_
      rw [hQ]
      exact W.aret (v := .null) hx hb hr (Or.inl ⟨_, rfl⟩) (Or.inl rfl) (fun t ht hW9 => ⟨⟨none, (), rfl, iskN.none, ⟨by rw [ht]; exact hP, hD⟩⟩, hS.F ht⟩) hS.2.2 dX2_latestRule_31
    · have hz := rfl (a := 0)
      have n_7 : ¬ (16 < v1_11) := fun q => c_5 ((iLT (a := 16) (b := v1_11) (by omega) (by omega)).mpr q)
      refine lv_aload_n hx hb dX2_latestRule_16 rfl (lv_at hl 0 rfl) ?_
      refine pg_get (D := D) (ci := 2) (v := .ref v1_10) (C := RX2) (T := TX2) (N := 20) hx hb hg inG2 hown hK hP ia.1 hM1 rfl 10 (by decide) (hg _ wd_67) (fun _ h9 => h9) rfl dX2_latestRule_17 ?_
      refine lv_aload_n hx hb dX2_latestRule_20 rfl (lv_at hl 0 rfl) ?_
      refine pg_get (D := D) (ci := 2) (v := .int (nI v1_11)) (C := RX2) (T := TX2) (N := 20) hx hb hg inG2 hown hK hP ia.1 hM1 rfl 11 (by decide) (hg _ wd_66) (fun _ h9 => h9) rfl dX2_latestRule_21 ?_
      refine lv_iconst (v := 1) hx hb dX2_latestRule_24 (by decide) ?_
      refine lv_isub hx hb dX2_latestRule_25 ?_
      refine lv_topi (fun f_8 ef_8 => ?_)
      obtain rfl : f_8 = (nI (v1_11 - 1)) := ef_8.trans (nI_prd (by omega))
      obtain ⟨f9, hM9, hf9⟩ := hW.open_20 h1_10
      have hi_10 : vp_in (nI (v1_11 - 1)) 16 := (inbN (v1_11 - 1) 16 (by omega) (by omega))
      refine pg_aldq hx hb hK hP h1_10.1 6 hM9 rfl hi_10 dX2_latestRule_26 ?_
      obtain ⟨q_11, ho_12⟩ : ∃ q : Option Nat, q = f9 ((nI (v1_11 - 1)) : Int32).toNatClampNeg := ⟨_, rfl⟩
      rw [← ho_12]
      have hq_13 : iskN K L q_11 6 0 := by rw [ho_12]; exact hf9 _ (vp_lt hi_10)
      rcases q_11 with _ | bq_11
      · have hz := rfl (a := 0)
        refine lv_goto (tgt := 31) hx hb dX2_latestRule_27 (by decide) ?_
        rw [hQ]
        exact W.aret (v := .null) hx hb hr (Or.inl ⟨_, rfl⟩) (Or.inl rfl) (fun t ht hW9 => ⟨⟨none, (), rfl, iskN.none, ⟨by rw [ht]; exact hP, hD⟩⟩, hS.F ht⟩) hS.2.2 dX2_latestRule_31
      · have hb_14 := hq_13 bq_11 rfl
        refine lv_goto (tgt := 31) hx hb dX2_latestRule_27 (by decide) ?_
        rw [hQ]
        exact W.aret (v := .ref bq_11) hx hb hr (Or.inl ⟨_, rfl⟩) (Or.inr ⟨_, rfl⟩) (fun t ht hW9 => ⟨⟨(some bq_11), (), rfl, iskN.some hb_14, ⟨by rw [ht]; exact hP, hD⟩⟩, hS.F ht⟩) hS.2.2 dX2_latestRule_31
set_option maxHeartbeats 4000000 in
set_option maxRecDepth 100000 in
theorem s_X2_ruleOn (l : Launch) (D : va_G) (cy : Nat → ClassId) (K : Kp) (L : List Nat) (M : Hp) (sz : Nat) (oa : Nat) (k1 : Int32) (hW : WOK cy K L M) (ia : isk K L oa 2 0) : Met l yX2_ruleOn (wsM yX2_ruleOn cX2_ruleOn 5 (some (.object "PartnersBook$Rule"))) ({ frames := 0, cells := 0, slots := 0, locals := 0 }) (va_Pc [.ref oa, .int k1] (PG D cy [] L M sz)) (va_Qq (fun (r : Option Nat) (_ : Unit) => iskN K L r 6 0) (fun _ t => PQ D [] L M (va_A ([] ++ va_pl L M) sz) t) (va_A ([] ++ va_pl L M) sz)) 0 0 (va_A ([] ++ va_pl L M) sz) := by
  refine Met.ofW (cc := cX2_ruleOn) (maxL := 5) (ret := (some (.object "PartnersBook$Rule"))) (by decide) rfl ?_
  intro p e s m args below meth c s₁ B hml hv
  obtain ⟨rfl, hsz, hP, hK, hD0, hN⟩ := hv
  have hx := B.exec
  have hb := B.bytes
  have hr := B.returns
  have hts := atoms_spec (ws := (wsM yX2_ruleOn cX2_ruleOn 5 (some (.object "PartnersBook$Rule")))) B.pre
  have hg : ∀ w ∈ lw_good, w.before _ s = true := fun w h => hts w (List.mem_cons_of_mem _ h)
  have hown : s.vm.findClass RX2 = some m.cls := findClass_of_methodNamed B.named
  have hlocks := B.notSynchronized
  subst hsz
  have hD := hD0.self (sz := s.heap.size)
  generalize hAe : va_A ([] ++ va_pl L M) s.heap.size = A at hD ⊢
  have hA : ∀ q : Nat, s.heap.size ≤ q → A q := fun q h => by rw [← hAe]; exact Or.inr h
  have hS : va_S A s.heap s.heap [] := va_S.rf
  have hl := lv_entry ([.ref oa, .int k1]) (n := 5) (Nat.le_of_ble_eq_true rfl)
  rw [lg_entry_eq]
  generalize (lg_sl ([.ref oa, .int k1]) ++ List.replicate (5 - (lg_sl ([.ref oa, .int k1])).length) Slot.unset).toArray = ls at hl ⊢
  refine W.nameQ (fun Q hQ => ?_)
  refine W.nameR (fun R hR => ?_)
  have hRf : 0 ≤ R.frames := by rw [hR]; exact Nat.le_of_ble_eq_true rfl
  have hRl : 0 ≤ R.locals := by rw [hR]; exact Nat.le_of_ble_eq_true rfl
  have hRc : 0 ≤ R.cells := by rw [hR]; exact Nat.le_of_ble_eq_true rfl
  have hRs : 0 ≤ R.slots := by rw [hR]; exact Nat.le_of_ble_eq_true rfl
  have hl : lv_has ls 5 [(0, .ref oa), (1, .int k1)] := hl
  refine lv_null hx hb dX2_ruleOn_0 ?_
  refine lv_astore_nN (lv' := [(2, .null), (0, .ref oa), (1, .int k1)]) hx hb dX2_ruleOn_1 rfl hl (by decide) rfl (fun ls hl => ?_)
  refine lv_iconst (v := 0) hx hb dX2_ruleOn_2 (by decide) ?_
  refine lv_istore_n (lv' := [(3, .int 0), (2, .null), (0, .ref oa), (1, .int k1)]) hx hb dX2_ruleOn_3 rfl hl (by decide) rfl (fun ls hl => ?_)
  have key_1 : ∀ (fu_3 : Nat) (v2w4 : Option Nat) (v3w4 : Nat) (H_7 : Heap) (locs : List Loc) (ls : Array Slot), 16 - v3w4 < fu_3 → iskN K L v2w4 6 0 → v3w4 ≤ 16 → WOK cy K L M → va_P D vwCl ([] ++ va_pl L M) H_7 → va_D A ([] ++ va_pl L M) → va_S A s.heap H_7 locs → lv_has ls 5 [(3, .int (nI v3w4)), (2, (va_rf v2w4)), (0, .ref oa), (1, .int k1)] → W p l e R s m ([.ref oa, .int k1] : List Value).toArray below meth c H_7 locs 0 0 Q (F0 m 4 ls []) := by
    intro fu_3
    induction fu_3 with
    | zero => intro v2w4 v3w4 H_7 locs ls h; exact absurd h (Nat.not_lt_zero _)
    | succ fu_3 ih_2 =>
      intro v2w4 v3w4 H_7 locs ls hfu hq_5 hx_6 hW hP hD hS hl
      rcases v2w4 with _ | b_8
      · have hz := rfl (a := 0)
        refine lv_iload_n hx hb dX2_ruleOn_4 rfl (lv_at hl 0 rfl) ?_
        refine lv_aload_n hx hb dX2_ruleOn_5 rfl (lv_at hl 2 rfl) ?_
        obtain ⟨v9_0, v9_1, v9_2, v9_3, v9_4, v9_5, v9_6, v9_7, v9_8, v9_9, v9_10, v9_11, v9_12, v9_13, v9_14, v9_15, v9_16, v9_17, v9_18, v9_19, hM9, h9_3, h9_4, h9_5, h9_6, h9_7, h9_8, h9_9, h9_10, h9_11, h9_12, h9_13, h9_16, h9_17, h9_18, h9_19⟩ := hW.open_2 ia
        refine pg_get (D := D) (ci := 2) (v := .int (nI v9_11)) (C := RX2) (T := TX2) (N := 20) hx hb hg inG2 hown hK hP ia.1 hM9 rfl 11 (by decide) (hg _ wd_66) (fun _ h9 => h9) rfl dX2_ruleOn_6 ?_
        refine lv_icmp_ge (tgt := 49) hx hb dX2_ruleOn_9 (by decide) (fun c_10 => ?_) (fun c_10 => ?_)
        · have hz := rfl (a := 0)
          have n_11 : v9_11 ≤ v3w4 := (iLE (a := v9_11) (b := v3w4) (by omega) (by omega)).mp c_10
          refine lv_aload_nN hx hb dX2_ruleOn_49 rfl (lv_at hl 1 rfl) ?_
          rw [hQ]
          exact W.aret (v := .null) hx hb hr (Or.inl ⟨_, rfl⟩) (Or.inl rfl) (fun t ht hW9 => ⟨⟨none, (), rfl, iskN.none, ⟨by rw [ht]; exact hP, hD⟩⟩, hS.F ht⟩) hS.2.2 dX2_ruleOn_50
        · have hz := rfl (a := 0)
          have n_12 : ¬ (v9_11 ≤ v3w4) := fun q => c_10 ((iLE (a := v9_11) (b := v3w4) (by omega) (by omega)).mpr q)
          refine lv_iload_n hx hb dX2_ruleOn_12 rfl (lv_at hl 0 rfl) ?_
          refine lv_bipush (v := 16) hx hb dX2_ruleOn_13 (by decide) ?_
          refine lv_icmp_ge (tgt := 49) hx hb dX2_ruleOn_15 (by decide) (fun c_13 => ?_) (fun c_13 => ?_)
          · have hz := rfl (a := 0)
            have n_14 : 16 ≤ v3w4 := (iLE (a := 16) (b := v3w4) (by omega) (by omega)).mp c_13
            refine lv_aload_nN hx hb dX2_ruleOn_49 rfl (lv_at hl 1 rfl) ?_
            rw [hQ]
            exact W.aret (v := .null) hx hb hr (Or.inl ⟨_, rfl⟩) (Or.inl rfl) (fun t ht hW9 => ⟨⟨none, (), rfl, iskN.none, ⟨by rw [ht]; exact hP, hD⟩⟩, hS.F ht⟩) hS.2.2 dX2_ruleOn_50
          · have hz := rfl (a := 0)
            have n_15 : ¬ (16 ≤ v3w4) := fun q => c_13 ((iLE (a := 16) (b := v3w4) (by omega) (by omega)).mpr q)
            refine lv_aload_n hx hb dX2_ruleOn_18 rfl (lv_at hl 2 rfl) ?_
            refine pg_get (D := D) (ci := 2) (v := .ref v9_10) (C := RX2) (T := TX2) (N := 20) hx hb hg inG2 hown hK hP ia.1 hM9 rfl 10 (by decide) (hg _ wd_67) (fun _ h9 => h9) rfl dX2_ruleOn_19 ?_
            refine lv_iload_n hx hb dX2_ruleOn_22 rfl (lv_at hl 0 rfl) ?_
            obtain ⟨f16, hM16, hf16⟩ := hW.open_20 h9_10
            have hi_17 : vp_in (nI v3w4) 16 := (inbN v3w4 16 (by omega) (by omega))
            refine pg_aldq hx hb hK hP h9_10.1 6 hM16 rfl hi_17 dX2_ruleOn_23 ?_
            obtain ⟨q_18, ho_19⟩ : ∃ q : Option Nat, q = f16 ((nI v3w4) : Int32).toNatClampNeg := ⟨_, rfl⟩
            rw [← ho_19]
            have hq_20 : iskN K L q_18 6 0 := by rw [ho_19]; exact hf16 _ (vp_lt hi_17)
            rcases q_18 with _ | bq_18
            · have hz := rfl (a := 0)
              refine lv_astoreN (lv' := [(4, .null), (3, .int (nI v3w4)), (2, .null), (0, .ref oa), (1, .int k1)]) hx hb dX2_ruleOn_24 hl (by decide) rfl (fun ls hl => ?_)
              refine lv_aloadN hx hb dX2_ruleOn_26 (lv_at hl 0 rfl) ?_
              refine lv_ifnullN (tgt := 43) hx hb dX2_ruleOn_28 (by decide) ?_
              refine lv_iinc (v := (nI (v3w4 + 1))) (lv' := [(3, .int (nI (v3w4 + 1))), (4, .null), (2, .null), (0, .ref oa), (1, .int k1)]) hx hb dX2_ruleOn_43 hl (k := 1) rfl (nI_1 v3w4) (by decide) rfl (fun ls hl => ?_)
              refine lv_goto (tgt := 4) hx hb dX2_ruleOn_46 (by decide) ?_
              exact ih_2 none (v3w4 + 1) H_7 _ _ (by omega) iskN.none (by omega) hW hP hD hS (lv_sub hl [0, 2, 3, 4] rfl)
            · have hb_21 := hq_20 bq_18 rfl
              refine lv_astore (lv' := [(4, .ref bq_18), (3, .int (nI v3w4)), (2, .null), (0, .ref oa), (1, .int k1)]) hx hb dX2_ruleOn_24 hl (by decide) rfl (fun ls hl => ?_)
              refine lv_aload hx hb dX2_ruleOn_26 (lv_at hl 0 rfl) ?_
              refine lv_ifnull hx hb dX2_ruleOn_28 ?_
              refine lv_aload hx hb dX2_ruleOn_31 (lv_at hl 0 rfl) ?_
              obtain ⟨v22_0, v22_1, v22_2, hM22, h22_2⟩ := hW.open_6 hb_21
              refine pg_get (D := D) (ci := 6) (v := .int v22_0) (C := RX6) (T := TX6) (N := 3) hx hb hg inG6 hown hK hP hb_21.1 hM22 rfl 0 (by decide) (hg _ wd_68) (fun _ h9 => h9) rfl dX2_ruleOn_33 ?_
              refine lv_iload_n hx hb dX2_ruleOn_36 rfl (lv_at hl 4 rfl) ?_
              refine lv_icmp_gt (tgt := 43) hx hb dX2_ruleOn_37 (by decide) (fun c_23 => ?_) (fun c_23 => ?_)
              · have hz := rfl (a := 0)
                refine lv_iinc (v := (nI (v3w4 + 1))) (lv' := [(3, .int (nI (v3w4 + 1))), (4, .ref bq_18), (2, .null), (0, .ref oa), (1, .int k1)]) hx hb dX2_ruleOn_43 hl (k := 1) rfl (nI_1 v3w4) (by decide) rfl (fun ls hl => ?_)
                refine lv_goto (tgt := 4) hx hb dX2_ruleOn_46 (by decide) ?_
                exact ih_2 none (v3w4 + 1) H_7 _ _ (by omega) iskN.none (by omega) hW hP hD hS (lv_sub hl [0, 2, 3, 4] rfl)
              · have hz := rfl (a := 0)
                refine lv_aload hx hb dX2_ruleOn_40 (lv_at hl 0 rfl) ?_
                refine lv_astore_n (lv' := [(2, .ref bq_18), (4, .ref bq_18), (3, .int (nI v3w4)), (0, .ref oa), (1, .int k1)]) hx hb dX2_ruleOn_42 rfl hl (by decide) rfl (fun ls hl => ?_)
                refine lv_iinc (v := (nI (v3w4 + 1))) (lv' := [(3, .int (nI (v3w4 + 1))), (2, .ref bq_18), (4, .ref bq_18), (0, .ref oa), (1, .int k1)]) hx hb dX2_ruleOn_43 hl (k := 2) rfl (nI_1 v3w4) (by decide) rfl (fun ls hl => ?_)
                refine lv_goto (tgt := 4) hx hb dX2_ruleOn_46 (by decide) ?_
                exact ih_2 (some bq_18) (v3w4 + 1) H_7 _ _ (by omega) (iskN.some hb_21) (by omega) hW hP hD hS (lv_sub hl [0, 1, 3, 4] rfl)
      · have hb_24 := hq_5 b_8 rfl
        refine lv_iload_n hx hb dX2_ruleOn_4 rfl (lv_at hl 0 rfl) ?_
        refine lv_aload_n hx hb dX2_ruleOn_5 rfl (lv_at hl 2 rfl) ?_
        obtain ⟨v25_0, v25_1, v25_2, v25_3, v25_4, v25_5, v25_6, v25_7, v25_8, v25_9, v25_10, v25_11, v25_12, v25_13, v25_14, v25_15, v25_16, v25_17, v25_18, v25_19, hM25, h25_3, h25_4, h25_5, h25_6, h25_7, h25_8, h25_9, h25_10, h25_11, h25_12, h25_13, h25_16, h25_17, h25_18, h25_19⟩ := hW.open_2 ia
        refine pg_get (D := D) (ci := 2) (v := .int (nI v25_11)) (C := RX2) (T := TX2) (N := 20) hx hb hg inG2 hown hK hP ia.1 hM25 rfl 11 (by decide) (hg _ wd_66) (fun _ h9 => h9) rfl dX2_ruleOn_6 ?_
        refine lv_icmp_ge (tgt := 49) hx hb dX2_ruleOn_9 (by decide) (fun c_26 => ?_) (fun c_26 => ?_)
        · have hz := rfl (a := 0)
          have n_27 : v25_11 ≤ v3w4 := (iLE (a := v25_11) (b := v3w4) (by omega) (by omega)).mp c_26
          refine lv_aload_n hx hb dX2_ruleOn_49 rfl (lv_at hl 1 rfl) ?_
          rw [hQ]
          exact W.aret (v := .ref b_8) hx hb hr (Or.inl ⟨_, rfl⟩) (Or.inr ⟨_, rfl⟩) (fun t ht hW9 => ⟨⟨(some b_8), (), rfl, iskN.some hb_24, ⟨by rw [ht]; exact hP, hD⟩⟩, hS.F ht⟩) hS.2.2 dX2_ruleOn_50
        · have hz := rfl (a := 0)
          have n_28 : ¬ (v25_11 ≤ v3w4) := fun q => c_26 ((iLE (a := v25_11) (b := v3w4) (by omega) (by omega)).mpr q)
          refine lv_iload_n hx hb dX2_ruleOn_12 rfl (lv_at hl 0 rfl) ?_
          refine lv_bipush (v := 16) hx hb dX2_ruleOn_13 (by decide) ?_
          refine lv_icmp_ge (tgt := 49) hx hb dX2_ruleOn_15 (by decide) (fun c_29 => ?_) (fun c_29 => ?_)
          · have hz := rfl (a := 0)
            have n_30 : 16 ≤ v3w4 := (iLE (a := 16) (b := v3w4) (by omega) (by omega)).mp c_29
            refine lv_aload_n hx hb dX2_ruleOn_49 rfl (lv_at hl 1 rfl) ?_
            rw [hQ]
            exact W.aret (v := .ref b_8) hx hb hr (Or.inl ⟨_, rfl⟩) (Or.inr ⟨_, rfl⟩) (fun t ht hW9 => ⟨⟨(some b_8), (), rfl, iskN.some hb_24, ⟨by rw [ht]; exact hP, hD⟩⟩, hS.F ht⟩) hS.2.2 dX2_ruleOn_50
          · have hz := rfl (a := 0)
            have n_31 : ¬ (16 ≤ v3w4) := fun q => c_29 ((iLE (a := 16) (b := v3w4) (by omega) (by omega)).mpr q)
            refine lv_aload_n hx hb dX2_ruleOn_18 rfl (lv_at hl 2 rfl) ?_
            refine pg_get (D := D) (ci := 2) (v := .ref v25_10) (C := RX2) (T := TX2) (N := 20) hx hb hg inG2 hown hK hP ia.1 hM25 rfl 10 (by decide) (hg _ wd_67) (fun _ h9 => h9) rfl dX2_ruleOn_19 ?_
            refine lv_iload_n hx hb dX2_ruleOn_22 rfl (lv_at hl 0 rfl) ?_
            obtain ⟨f32, hM32, hf32⟩ := hW.open_20 h25_10
            have hi_33 : vp_in (nI v3w4) 16 := (inbN v3w4 16 (by omega) (by omega))
            refine pg_aldq hx hb hK hP h25_10.1 6 hM32 rfl hi_33 dX2_ruleOn_23 ?_
            obtain ⟨q_34, ho_35⟩ : ∃ q : Option Nat, q = f32 ((nI v3w4) : Int32).toNatClampNeg := ⟨_, rfl⟩
            rw [← ho_35]
            have hq_36 : iskN K L q_34 6 0 := by rw [ho_35]; exact hf32 _ (vp_lt hi_33)
            rcases q_34 with _ | bq_34
            · have hz := rfl (a := 0)
              refine lv_astoreN (lv' := [(4, .null), (3, .int (nI v3w4)), (2, .ref b_8), (0, .ref oa), (1, .int k1)]) hx hb dX2_ruleOn_24 hl (by decide) rfl (fun ls hl => ?_)
              refine lv_aloadN hx hb dX2_ruleOn_26 (lv_at hl 0 rfl) ?_
              refine lv_ifnullN (tgt := 43) hx hb dX2_ruleOn_28 (by decide) ?_
              refine lv_iinc (v := (nI (v3w4 + 1))) (lv' := [(3, .int (nI (v3w4 + 1))), (4, .null), (2, .ref b_8), (0, .ref oa), (1, .int k1)]) hx hb dX2_ruleOn_43 hl (k := 1) rfl (nI_1 v3w4) (by decide) rfl (fun ls hl => ?_)
              refine lv_goto (tgt := 4) hx hb dX2_ruleOn_46 (by decide) ?_
              exact ih_2 (some b_8) (v3w4 + 1) H_7 _ _ (by omega) (iskN.some hb_24) (by omega) hW hP hD hS (lv_sub hl [0, 2, 3, 4] rfl)
            · have hb_37 := hq_36 bq_34 rfl
              refine lv_astore (lv' := [(4, .ref bq_34), (3, .int (nI v3w4)), (2, .ref b_8), (0, .ref oa), (1, .int k1)]) hx hb dX2_ruleOn_24 hl (by decide) rfl (fun ls hl => ?_)
              refine lv_aload hx hb dX2_ruleOn_26 (lv_at hl 0 rfl) ?_
              refine lv_ifnull hx hb dX2_ruleOn_28 ?_
              refine lv_aload hx hb dX2_ruleOn_31 (lv_at hl 0 rfl) ?_
              obtain ⟨v38_0, v38_1, v38_2, hM38, h38_2⟩ := hW.open_6 hb_37
              refine pg_get (D := D) (ci := 6) (v := .int v38_0) (C := RX6) (T := TX6) (N := 3) hx hb hg inG6 hown hK hP hb_37.1 hM38 rfl 0 (by decide) (hg _ wd_68) (fun _ h9 => h9) rfl dX2_ruleOn_33 ?_
              refine lv_iload_n hx hb dX2_ruleOn_36 rfl (lv_at hl 4 rfl) ?_
              refine lv_icmp_gt (tgt := 43) hx hb dX2_ruleOn_37 (by decide) (fun c_39 => ?_) (fun c_39 => ?_)
              · have hz := rfl (a := 0)
                refine lv_iinc (v := (nI (v3w4 + 1))) (lv' := [(3, .int (nI (v3w4 + 1))), (4, .ref bq_34), (2, .ref b_8), (0, .ref oa), (1, .int k1)]) hx hb dX2_ruleOn_43 hl (k := 1) rfl (nI_1 v3w4) (by decide) rfl (fun ls hl => ?_)
                refine lv_goto (tgt := 4) hx hb dX2_ruleOn_46 (by decide) ?_
                exact ih_2 (some b_8) (v3w4 + 1) H_7 _ _ (by omega) (iskN.some hb_24) (by omega) hW hP hD hS (lv_sub hl [0, 2, 3, 4] rfl)
              · have hz := rfl (a := 0)
                refine lv_aload hx hb dX2_ruleOn_40 (lv_at hl 0 rfl) ?_
                refine lv_astore_n (lv' := [(2, .ref bq_34), (4, .ref bq_34), (3, .int (nI v3w4)), (0, .ref oa), (1, .int k1)]) hx hb dX2_ruleOn_42 rfl hl (by decide) rfl (fun ls hl => ?_)
                refine lv_iinc (v := (nI (v3w4 + 1))) (lv' := [(3, .int (nI (v3w4 + 1))), (2, .ref bq_34), (4, .ref bq_34), (0, .ref oa), (1, .int k1)]) hx hb dX2_ruleOn_43 hl (k := 2) rfl (nI_1 v3w4) (by decide) rfl (fun ls hl => ?_)
                refine lv_goto (tgt := 4) hx hb dX2_ruleOn_46 (by decide) ?_
                exact ih_2 (some bq_34) (v3w4 + 1) H_7 _ _ (by omega) (iskN.some hb_37) (by omega) hW hP hD hS (lv_sub hl [0, 1, 3, 4] rfl)
  exact key_1 (16 - 0 + 1) none 0 s.heap _ _ (by omega) iskN.none (by omega) hW hP hD hS (lv_sub hl [0, 1, 2, 3] rfl)
set_option maxHeartbeats 4000000 in
set_option maxRecDepth 100000 in
theorem s_X2_leafOn (l : Launch) (D : va_G) (cy : Nat → ClassId) (K : Kp) (L : List Nat) (M : Hp) (sz : Nat) (oa : Nat) (k1 : Int32) (hW : WOK cy K L M) (ia : isk K L oa 2 0) : Met l yX2_leafOn (wsM yX2_leafOn cX2_leafOn 2 (some (.object "PartnersBook$Leaf"))) ({ frames := 1, cells := 0, slots := 0, locals := 20 }) (va_Pc [.ref oa, .int k1] (PG D cy [] L M sz)) (va_Qq (fun (r : Option Nat) (_ : Unit) => iskN K L r 3 0) (fun _ t => PQ D [] L M (va_A ([] ++ va_pl L M) sz) t) (va_A ([] ++ va_pl L M) sz)) 0 0 (va_A ([] ++ va_pl L M) sz) := by
  refine Met.ofW (cc := cX2_leafOn) (maxL := 2) (ret := (some (.object "PartnersBook$Leaf"))) (by decide) rfl ?_
  intro p e s m args below meth c s₁ B hml hv
  obtain ⟨rfl, hsz, hP, hK, hD0, hN⟩ := hv
  have hx := B.exec
  have hb := B.bytes
  have hr := B.returns
  have hts := atoms_spec (ws := (wsM yX2_leafOn cX2_leafOn 2 (some (.object "PartnersBook$Leaf")))) B.pre
  have hg : ∀ w ∈ lw_good, w.before _ s = true := fun w h => hts w (List.mem_cons_of_mem _ h)
  have hown : s.vm.findClass RX2 = some m.cls := findClass_of_methodNamed B.named
  have hlocks := B.notSynchronized
  subst hsz
  have hD := hD0.self (sz := s.heap.size)
  generalize hAe : va_A ([] ++ va_pl L M) s.heap.size = A at hD ⊢
  have hA : ∀ q : Nat, s.heap.size ≤ q → A q := fun q h => by rw [← hAe]; exact Or.inr h
  have hS : va_S A s.heap s.heap [] := va_S.rf
  have hl := lv_entry ([.ref oa, .int k1]) (n := 2) (Nat.le_of_ble_eq_true rfl)
  rw [lg_entry_eq]
  generalize (lg_sl ([.ref oa, .int k1]) ++ List.replicate (2 - (lg_sl ([.ref oa, .int k1])).length) Slot.unset).toArray = ls at hl ⊢
  refine W.nameQ (fun Q hQ => ?_)
  refine W.nameR (fun R hR => ?_)
  have hRf : 1 ≤ R.frames := by rw [hR]; exact Nat.le_of_ble_eq_true rfl
  have hRl : 20 ≤ R.locals := by rw [hR]; exact Nat.le_of_ble_eq_true rfl
  have hRc : 0 ≤ R.cells := by rw [hR]; exact Nat.le_of_ble_eq_true rfl
  have hRs : 0 ≤ R.slots := by rw [hR]; exact Nat.le_of_ble_eq_true rfl
  have hl : lv_has ls 2 [(0, .ref oa), (1, .int k1)] := hl
  refine lv_iload_n hx hb dX2_leafOn_0 rfl (lv_at hl 1 rfl) ?_
  have hPc : va_P D vwCl ([] ++ va_pl L M) s.heap := hP
  have hDc : va_D A ([] ++ va_pl L M) := hD
  have hFc : ∀ q, va_A ([] ++ va_pl L M) s.heap.size q → A q := pg_free hDc hS hA
  refine va_calli (va_runSN (As := [.int k1]) (rest := []) ⟨hx, hb, hml, hown, hg⟩ (s_X11_isDay l D cy K L M s.heap.size k1  hW ) ⟨va_cnB 1 hg (gB wd_42) rfl rfl rfl (hN _ (List.mem_of_getElem? (i := 4) rfl) : va_Nw (Cond.methodLinkNest RX2 81 yX11_isDay RX11) s) (hg _ wd_3) (by decide +kernel) ⟨(Nat.le_trans (Nat.le_of_ble_eq_true rfl) hRf), (Nat.le_trans (Nat.le_of_ble_eq_true rfl) hRl)⟩, hg _ wd_43, trivial⟩ ⟨PG.blind, fun U hU hW => ⟨rfl, PG.at hPc hK hDc hN hU hW⟩⟩ rfl rfl hl.1 rfl (lv_room (Nat.le_of_ble_eq_true rfl)) dX2_leafOn_1 ⟨(Nat.le_trans (Nat.le_of_ble_eq_true rfl) hRc), (Nat.le_trans (Nat.le_of_ble_eq_true rfl) hRs)⟩) hS (fun q _ h => hFc q h) hFc (fun r_2 M_3 t H_1 locs ht hvm hw hB hz1 hk1 hS => ?_)
  have hp_4 := hw
  obtain ⟨hP1, hD1⟩ := hB
  rw [ht] at hP1
  have hP : va_P D vwCl ([] ++ va_pl L M) H_1 := hP1
  have hD : va_D A ([] ++ va_pl L M) := hD1.mono hFc
  rcases hp_4 with ⟨rfl, c_5, c_6⟩ | rfl
  · have hz := rfl (a := 0)
    refine lv_if_eq (tgt := 16) hx hb dX2_leafOn_4 (by decide) (fun c_7 => absurd c_7 (by decide)) (fun _ => ?_)
    refine lv_aload_n hx hb dX2_leafOn_7 rfl (lv_at hl 0 rfl) ?_
    obtain ⟨v8_0, v8_1, v8_2, v8_3, v8_4, v8_5, v8_6, v8_7, v8_8, v8_9, v8_10, v8_11, v8_12, v8_13, v8_14, v8_15, v8_16, v8_17, v8_18, v8_19, hM8, h8_3, h8_4, h8_5, h8_6, h8_7, h8_8, h8_9, h8_10, h8_11, h8_12, h8_13, h8_16, h8_17, h8_18, h8_19⟩ := hW.open_2 ia
    refine pg_get (D := D) (ci := 2) (v := .ref v8_12) (C := RX2) (T := TX2) (N := 20) hx hb hg inG2 hown hK hP ia.1 hM8 rfl 12 (by decide) (hg _ wd_69) (fun _ h9 => h9) rfl dX2_leafOn_8 ?_
    refine lv_iload_n hx hb dX2_leafOn_11 rfl (lv_at hl 1 rfl) ?_
    obtain ⟨f9, hM9, hf9⟩ := hW.open_18 h8_12
    have hi_10 : vp_in k1 1000 := (inbE k1 999 1000 (by decide) (by decide) c_5 (Int32.not_lt.mp c_6))
    refine pg_aldq hx hb hK hP h8_12.1 4 hM9 rfl hi_10 dX2_leafOn_12 ?_
    obtain ⟨q_11, ho_12⟩ : ∃ q : Option Nat, q = f9 (k1 : Int32).toNatClampNeg := ⟨_, rfl⟩
    rw [← ho_12]
    have hq_13 : iskN K L q_11 3 0 := by rw [ho_12]; exact hf9 _ (vp_lt hi_10)
    rcases q_11 with _ | bq_11
    · have hz := rfl (a := 0)
      refine lv_goto (tgt := 17) hx hb dX2_leafOn_13 (by decide) ?_
      rw [hQ]
      exact W.aret (v := .null) hx hb hr (Or.inl ⟨_, rfl⟩) (Or.inl rfl) (fun t ht hW9 => ⟨⟨none, (), rfl, iskN.none, ⟨by rw [ht]; exact hP, hD⟩⟩, hS.F ht⟩) hS.2.2 dX2_leafOn_17
    · have hb_14 := hq_13 bq_11 rfl
      refine lv_goto (tgt := 17) hx hb dX2_leafOn_13 (by decide) ?_
      rw [hQ]
      exact W.aret (v := .ref bq_11) hx hb hr (Or.inl ⟨_, rfl⟩) (Or.inr ⟨_, rfl⟩) (fun t ht hW9 => ⟨⟨(some bq_11), (), rfl, iskN.some hb_14, ⟨by rw [ht]; exact hP, hD⟩⟩, hS.F ht⟩) hS.2.2 dX2_leafOn_17
  · have hz := rfl (a := 0)
    refine lv_if_eq (tgt := 16) hx hb dX2_leafOn_4 (by decide) (fun _ => ?_) (fun c_15 => absurd c_15 (by decide))
    refine lv_null hx hb dX2_leafOn_16 ?_
    rw [hQ]
    exact W.aret (v := .null) hx hb hr (Or.inl ⟨_, rfl⟩) (Or.inl rfl) (fun t ht hW9 => ⟨⟨none, (), rfl, iskN.none, ⟨by rw [ht]; exact hP, hD⟩⟩, hS.F ht⟩) hS.2.2 dX2_leafOn_17
set_option maxHeartbeats 4000000 in
set_option maxRecDepth 100000 in
theorem s_X2_entriesOn (l : Launch) (D : va_G) (cy : Nat → ClassId) (K : Kp) (L : List Nat) (M : Hp) (sz : Nat) (oa : Nat) (k1 : Int32) (hW : WOK cy K L M) (ia : isk K L oa 2 0) : Met l yX2_entriesOn (wsM yX2_entriesOn cX2_entriesOn 3 (some .long)) ({ frames := 2, cells := 0, slots := 0, locals := 41 }) (va_Pc [.ref oa, .int k1] (PG D cy [] L M sz)) (va_Ql (fun (r : Int64) (_ : Unit) => True) (fun _ t => PQ D [] L M (va_A ([] ++ va_pl L M) sz) t) (va_A ([] ++ va_pl L M) sz)) 0 0 (va_A ([] ++ va_pl L M) sz) := by
  refine Met.ofW (cc := cX2_entriesOn) (maxL := 3) (ret := (some .long)) (by decide) rfl ?_
  intro p e s m args below meth c s₁ B hml hv
  obtain ⟨rfl, hsz, hP, hK, hD0, hN⟩ := hv
  have hx := B.exec
  have hb := B.bytes
  have hr := B.returns
  have hts := atoms_spec (ws := (wsM yX2_entriesOn cX2_entriesOn 3 (some .long))) B.pre
  have hg : ∀ w ∈ lw_good, w.before _ s = true := fun w h => hts w (List.mem_cons_of_mem _ h)
  have hown : s.vm.findClass RX2 = some m.cls := findClass_of_methodNamed B.named
  have hlocks := B.notSynchronized
  subst hsz
  have hD := hD0.self (sz := s.heap.size)
  generalize hAe : va_A ([] ++ va_pl L M) s.heap.size = A at hD ⊢
  have hA : ∀ q : Nat, s.heap.size ≤ q → A q := fun q h => by rw [← hAe]; exact Or.inr h
  have hS : va_S A s.heap s.heap [] := va_S.rf
  have hl := lv_entry ([.ref oa, .int k1]) (n := 3) (Nat.le_of_ble_eq_true rfl)
  rw [lg_entry_eq]
  generalize (lg_sl ([.ref oa, .int k1]) ++ List.replicate (3 - (lg_sl ([.ref oa, .int k1])).length) Slot.unset).toArray = ls at hl ⊢
  refine W.nameQ (fun Q hQ => ?_)
  refine W.nameR (fun R hR => ?_)
  have hRf : 2 ≤ R.frames := by rw [hR]; exact Nat.le_of_ble_eq_true rfl
  have hRl : 41 ≤ R.locals := by rw [hR]; exact Nat.le_of_ble_eq_true rfl
  have hRc : 0 ≤ R.cells := by rw [hR]; exact Nat.le_of_ble_eq_true rfl
  have hRs : 0 ≤ R.slots := by rw [hR]; exact Nat.le_of_ble_eq_true rfl
  have hl : lv_has ls 3 [(0, .ref oa), (1, .int k1)] := hl
  refine lv_aload_n hx hb dX2_entriesOn_0 rfl (lv_at hl 0 rfl) ?_
  refine lv_iload_n hx hb dX2_entriesOn_1 rfl (lv_at hl 1 rfl) ?_
  obtain ⟨v1_0, v1_1, v1_2, v1_3, v1_4, v1_5, v1_6, v1_7, v1_8, v1_9, v1_10, v1_11, v1_12, v1_13, v1_14, v1_15, v1_16, v1_17, v1_18, v1_19, hM1, h1_3, h1_4, h1_5, h1_6, h1_7, h1_8, h1_9, h1_10, h1_11, h1_12, h1_13, h1_16, h1_17, h1_18, h1_19⟩ := hW.open_2 ia
  have hPc : va_P D vwCl ([] ++ va_pl L M) s.heap := hP
  have hDc : va_D A ([] ++ va_pl L M) := hD
  have hFc : ∀ q, va_A ([] ++ va_pl L M) s.heap.size q → A q := pg_free hDc hS hA
  refine va_callq (va_runV (As := [.int k1]) (rest := []) ⟨hx, hb, hml, hown, hg⟩ (s_X2_leafOn l D cy K L M s.heap.size oa k1  hW ia) (cwV 1 hg (gV wd_70 wd_71 wd_72 wd_57 wd_73) rfl rfl rfl (by decide +kernel) ⟨(Nat.le_trans (Nat.le_of_ble_eq_true rfl) hRf), (Nat.le_trans (Nat.le_of_ble_eq_true rfl) hRl)⟩) ⟨PG.blind, pg_recv hK hP ia.1 hM1 rfl, fun U hU hW => ⟨rfl, PG.at hPc hK hDc hN hU hW⟩⟩ rfl rfl hl.1 rfl (lv_room (Nat.le_of_ble_eq_true rfl)) dX2_entriesOn_2 ⟨(Nat.le_trans (Nat.le_of_ble_eq_true rfl) hRc), (Nat.le_trans (Nat.le_of_ble_eq_true rfl) hRs)⟩) hS (fun q _ h => hFc q h) hFc (fun r_3 M_4 t H_2 locs ht hvm hw hB hz1 hk1 hS => ?_)
  have hp_5 := hw
  obtain ⟨hP1, hD1⟩ := hB
  rw [ht] at hP1
  have hP : va_P D vwCl ([] ++ va_pl L M) H_2 := hP1
  have hD : va_D A ([] ++ va_pl L M) := hD1.mono hFc
  rcases r_3 with _ | b_6
  · have hz := rfl (a := 0)
    refine lv_astore_nN (lv' := [(2, .null), (0, .ref oa), (1, .int k1)]) hx hb dX2_entriesOn_5 rfl hl (by decide) rfl (fun ls hl => ?_)
    refine lv_aload_nN hx hb dX2_entriesOn_6 rfl (lv_at hl 0 rfl) ?_
    refine lv_ifnonnullN hx hb dX2_entriesOn_7 ?_
    refine lv_lconst (v := 0) hx hb dX2_entriesOn_10 (by decide) ?_
    refine lv_goto (tgt := 18) hx hb dX2_entriesOn_11 (by decide) ?_
    rw [hQ]
    exact W.lret (v := 0) hx hb hr (fun t ht hW9 => ⟨⟨0, (), rfl, trivial, ⟨by rw [ht]; exact hP, hD⟩⟩, hS.F ht⟩) hS.2.2 dX2_entriesOn_18
  · have hb_7 := hp_5 b_6 rfl
    refine lv_astore_n (lv' := [(2, .ref b_6), (0, .ref oa), (1, .int k1)]) hx hb dX2_entriesOn_5 rfl hl (by decide) rfl (fun ls hl => ?_)
    refine lv_aload_n hx hb dX2_entriesOn_6 rfl (lv_at hl 0 rfl) ?_
    refine lv_ifnonnull (tgt := 14) hx hb dX2_entriesOn_7 (by decide) ?_
    refine lv_aload_n hx hb dX2_entriesOn_14 rfl (lv_at hl 0 rfl) ?_
    obtain ⟨n8, v8_0, v8_1, v8_2, hM8, h8_1, h8_2, y8_0⟩ := hW.open_3 hb_7
    have hPc : va_P D vwCl ([] ++ va_pl L M) H_2 := hP
    have hDc : va_D A ([] ++ va_pl L M) := hD
    have hFc : ∀ q, va_A ([] ++ va_pl L M) H_2.size q → A q := pg_free hDc hS hA
    refine va_calll (va_runV (As := []) (rest := []) ⟨hx, hb, hml, hown, hg⟩ (s_X3_total l D cy K L M H_2.size b_6  hW hb_7) (cwV 0 hg (gV wd_74 wd_75 wd_76 wd_39 wd_77) rfl rfl rfl (by decide +kernel) ⟨(Nat.le_trans (Nat.le_of_ble_eq_true rfl) hRf), (Nat.le_trans (Nat.le_of_ble_eq_true rfl) hRl)⟩) ⟨PG.blind, pg_recv hK hP hb_7.1 hM8 rfl, fun U hU hW => ⟨rfl, PG.at hPc hK hDc hN hU hW⟩⟩ rfl rfl hl.1 rfl (lv_room (Nat.le_of_ble_eq_true rfl)) dX2_entriesOn_15 ⟨(Nat.le_trans (Nat.le_of_ble_eq_true rfl) hRc), (Nat.le_trans (Nat.le_of_ble_eq_true rfl) hRs)⟩) hS (fun q _ h => hFc q h) hFc (fun r_10 M_11 t H_9 locs ht hvm hw hB hz1 hk1 hS => ?_)
    have hp_12 := hw
    obtain ⟨hP1, hD1⟩ := hB
    rw [ht] at hP1
    have hP : va_P D vwCl ([] ++ va_pl L M) H_9 := hP1
    have hD : va_D A ([] ++ va_pl L M) := hD1.mono hFc
    rw [hQ]
    exact W.lret (v := r_10) hx hb hr (fun t ht hW9 => ⟨⟨r_10, (), rfl, trivial, ⟨by rw [ht]; exact hP, hD⟩⟩, hS.F ht⟩) hS.2.2 dX2_entriesOn_18
set_option maxHeartbeats 4000000 in
set_option maxRecDepth 100000 in
theorem s_X2_yearsClosedSince (l : Launch) (D : va_G) (cy : Nat → ClassId) (K : Kp) (L : List Nat) (M : Hp) (sz : Nat) (oa : Nat) (k1 : Int32) (hW : WOK cy K L M) (ia : isk K L oa 2 0) : Met l yX2_yearsClosedSince (wsM yX2_yearsClosedSince cX2_yearsClosedSince 4 (some .int)) ({ frames := 0, cells := 0, slots := 0, locals := 0 }) (va_Pc [.ref oa, .int k1] (PG D cy [] L M sz)) (va_Qi (fun (r : Int32) (_ : Unit) => True) (fun _ t => PQ D [] L M (va_A ([] ++ va_pl L M) sz) t) (va_A ([] ++ va_pl L M) sz)) 0 0 (va_A ([] ++ va_pl L M) sz) := by
  refine Met.ofW (cc := cX2_yearsClosedSince) (maxL := 4) (ret := (some .int)) (by decide) rfl ?_
  intro p e s m args below meth c s₁ B hml hv
  obtain ⟨rfl, hsz, hP, hK, hD0, hN⟩ := hv
  have hx := B.exec
  have hb := B.bytes
  have hr := B.returns
  have hts := atoms_spec (ws := (wsM yX2_yearsClosedSince cX2_yearsClosedSince 4 (some .int))) B.pre
  have hg : ∀ w ∈ lw_good, w.before _ s = true := fun w h => hts w (List.mem_cons_of_mem _ h)
  have hown : s.vm.findClass RX2 = some m.cls := findClass_of_methodNamed B.named
  have hlocks := B.notSynchronized
  subst hsz
  have hD := hD0.self (sz := s.heap.size)
  generalize hAe : va_A ([] ++ va_pl L M) s.heap.size = A at hD ⊢
  have hA : ∀ q : Nat, s.heap.size ≤ q → A q := fun q h => by rw [← hAe]; exact Or.inr h
  have hS : va_S A s.heap s.heap [] := va_S.rf
  have hl := lv_entry ([.ref oa, .int k1]) (n := 4) (Nat.le_of_ble_eq_true rfl)
  rw [lg_entry_eq]
  generalize (lg_sl ([.ref oa, .int k1]) ++ List.replicate (4 - (lg_sl ([.ref oa, .int k1])).length) Slot.unset).toArray = ls at hl ⊢
  refine W.nameQ (fun Q hQ => ?_)
  refine W.nameR (fun R hR => ?_)
  have hRf : 0 ≤ R.frames := by rw [hR]; exact Nat.le_of_ble_eq_true rfl
  have hRl : 0 ≤ R.locals := by rw [hR]; exact Nat.le_of_ble_eq_true rfl
  have hRc : 0 ≤ R.cells := by rw [hR]; exact Nat.le_of_ble_eq_true rfl
  have hRs : 0 ≤ R.slots := by rw [hR]; exact Nat.le_of_ble_eq_true rfl
  have hl : lv_has ls 4 [(0, .ref oa), (1, .int k1)] := hl
  refine lv_iconst (v := 0) hx hb dX2_yearsClosedSince_0 (by decide) ?_
  refine lv_istore_n (lv' := [(2, .int 0), (0, .ref oa), (1, .int k1)]) hx hb dX2_yearsClosedSince_1 rfl hl (by decide) rfl (fun ls hl => ?_)
  refine lv_iconst (v := 0) hx hb dX2_yearsClosedSince_2 (by decide) ?_
  refine lv_istore_n (lv' := [(3, .int 0), (2, .int 0), (0, .ref oa), (1, .int k1)]) hx hb dX2_yearsClosedSince_3 rfl hl (by decide) rfl (fun ls hl => ?_)
  have key_1 : ∀ (fu_3 : Nat) (v2w4 : Int32) (v3w4 : Nat) (H_6 : Heap) (locs : List Loc) (ls : Array Slot), 12 - v3w4 < fu_3 → v3w4 ≤ 12 → WOK cy K L M → va_P D vwCl ([] ++ va_pl L M) H_6 → va_D A ([] ++ va_pl L M) → va_S A s.heap H_6 locs → lv_has ls 4 [(3, .int (nI v3w4)), (2, .int v2w4), (0, .ref oa), (1, .int k1)] → W p l e R s m ([.ref oa, .int k1] : List Value).toArray below meth c H_6 locs 0 0 Q (F0 m 4 ls []) := by
    intro fu_3
    induction fu_3 with
    | zero => intro v2w4 v3w4 H_6 locs ls h; exact absurd h (Nat.not_lt_zero _)
    | succ fu_3 ih_2 =>
      intro v2w4 v3w4 H_6 locs ls hfu hx_5 hW hP hD hS hl
      refine lv_iload_n hx hb dX2_yearsClosedSince_4 rfl (lv_at hl 0 rfl) ?_
      refine lv_aload_n hx hb dX2_yearsClosedSince_5 rfl (lv_at hl 2 rfl) ?_
      obtain ⟨v7_0, v7_1, v7_2, v7_3, v7_4, v7_5, v7_6, v7_7, v7_8, v7_9, v7_10, v7_11, v7_12, v7_13, v7_14, v7_15, v7_16, v7_17, v7_18, v7_19, hM7, h7_3, h7_4, h7_5, h7_6, h7_7, h7_8, h7_9, h7_10, h7_11, h7_12, h7_13, h7_16, h7_17, h7_18, h7_19⟩ := hW.open_2 ia
      refine pg_get (D := D) (ci := 2) (v := .int (nI v7_5)) (C := RX2) (T := TX2) (N := 20) hx hb hg inG2 hown hK hP ia.1 hM7 rfl 5 (by decide) (hg _ wd_85) (fun _ h9 => h9) rfl dX2_yearsClosedSince_6 ?_
      refine lv_icmp_ge (tgt := 37) hx hb dX2_yearsClosedSince_9 (by decide) (fun c_8 => ?_) (fun c_8 => ?_)
      · have hz := rfl (a := 0)
        have n_9 : v7_5 ≤ v3w4 := (iLE (a := v7_5) (b := v3w4) (by omega) (by omega)).mp c_8
        refine lv_iload_n hx hb dX2_yearsClosedSince_37 rfl (lv_at hl 1 rfl) ?_
        rw [hQ]
        exact W.iret (v := v2w4) hx hb hr (fun t ht hW9 => ⟨⟨v2w4, (), rfl, trivial, ⟨by rw [ht]; exact hP, hD⟩⟩, hS.F ht⟩) hS.2.2 dX2_yearsClosedSince_38
      · have hz := rfl (a := 0)
        have n_10 : ¬ (v7_5 ≤ v3w4) := fun q => c_8 ((iLE (a := v7_5) (b := v3w4) (by omega) (by omega)).mpr q)
        refine lv_iload_n hx hb dX2_yearsClosedSince_12 rfl (lv_at hl 0 rfl) ?_
        refine lv_bipush (v := 12) hx hb dX2_yearsClosedSince_13 (by decide) ?_
        refine lv_icmp_ge (tgt := 37) hx hb dX2_yearsClosedSince_15 (by decide) (fun c_11 => ?_) (fun c_11 => ?_)
        · have hz := rfl (a := 0)
          have n_12 : 12 ≤ v3w4 := (iLE (a := 12) (b := v3w4) (by omega) (by omega)).mp c_11
          refine lv_iload_n hx hb dX2_yearsClosedSince_37 rfl (lv_at hl 1 rfl) ?_
          rw [hQ]
          exact W.iret (v := v2w4) hx hb hr (fun t ht hW9 => ⟨⟨v2w4, (), rfl, trivial, ⟨by rw [ht]; exact hP, hD⟩⟩, hS.F ht⟩) hS.2.2 dX2_yearsClosedSince_38
        · have hz := rfl (a := 0)
          have n_13 : ¬ (12 ≤ v3w4) := fun q => c_11 ((iLE (a := 12) (b := v3w4) (by omega) (by omega)).mpr q)
          refine lv_aload_n hx hb dX2_yearsClosedSince_18 rfl (lv_at hl 2 rfl) ?_
          refine pg_get (D := D) (ci := 2) (v := .ref v7_3) (C := RX2) (T := TX2) (N := 20) hx hb hg inG2 hown hK hP ia.1 hM7 rfl 3 (by decide) (hg _ wd_84) (fun _ h9 => h9) rfl dX2_yearsClosedSince_19 ?_
          refine lv_iload_n hx hb dX2_yearsClosedSince_22 rfl (lv_at hl 0 rfl) ?_
          obtain ⟨f14, hM14⟩ := hW.open_51 h7_3
          refine pg_iald hx hb hK hP h7_3.1 0 hM14 rfl (inbN v3w4 12 (by omega) (by omega)) dX2_yearsClosedSince_23 ?_
          refine lv_topi (fun f_15 ef_15 => ?_)
          refine lv_iload_n hx hb dX2_yearsClosedSince_24 rfl (lv_at hl 3 rfl) ?_
          refine lv_icmp_lt (tgt := 31) hx hb dX2_yearsClosedSince_25 (by decide) (fun c_16 => ?_) (fun c_16 => ?_)
          · have hz := rfl (a := 0)
            refine lv_iinc (v := (nI (v3w4 + 1))) (lv' := [(3, .int (nI (v3w4 + 1))), (2, .int v2w4), (0, .ref oa), (1, .int k1)]) hx hb dX2_yearsClosedSince_31 hl (k := 0) rfl (nI_1 v3w4) (by decide) rfl (fun ls hl => ?_)
            refine lv_goto (tgt := 4) hx hb dX2_yearsClosedSince_34 (by decide) ?_
            exact ih_2 v2w4 (v3w4 + 1) H_6 _ _ (by omega) (by omega) hW hP hD hS (lv_sub hl [0, 1, 2, 3] rfl)
          · have hz := rfl (a := 0)
            refine lv_iinc (v := (v2w4 + 1)) (lv' := [(2, .int (v2w4 + 1)), (3, .int (nI v3w4)), (0, .ref oa), (1, .int k1)]) hx hb dX2_yearsClosedSince_28 hl (k := 1) rfl rfl (by decide) rfl (fun ls hl => ?_)
            refine lv_iinc (v := (nI (v3w4 + 1))) (lv' := [(3, .int (nI (v3w4 + 1))), (2, .int (v2w4 + 1)), (0, .ref oa), (1, .int k1)]) hx hb dX2_yearsClosedSince_31 hl (k := 1) rfl (nI_1 v3w4) (by decide) rfl (fun ls hl => ?_)
            refine lv_goto (tgt := 4) hx hb dX2_yearsClosedSince_34 (by decide) ?_
            exact ih_2 (v2w4 + 1) (v3w4 + 1) H_6 _ _ (by omega) (by omega) hW hP hD hS (lv_sub hl [0, 1, 2, 3] rfl)
  exact key_1 (12 - 0 + 1) 0 0 s.heap _ _ (by omega) (by omega) hW hP hD hS (lv_sub hl [0, 1, 2, 3] rfl)
set_option maxHeartbeats 4000000 in
set_option maxRecDepth 100000 in
theorem s_X2_receive (l : Launch) (D : va_G) (cy : Nat → ClassId) (K : Kp) (L : List Nat) (M : Hp) (sz : Nat) (oa : Nat) (k1 : Int32) (k2 : Int64) (hW : WOK cy K L M) (ia : isk K L oa 2 0) : Met l yX2_receive (wsM yX2_receive cX2_receive 5 none) ({ frames := 1, cells := 0, slots := 0, locals := 20 }) (va_Pc [.ref oa, .int k1, .long k2] (PG D cy [] L M sz)) (va_Qv (fun (M9 : Hp) => WOK cy K L M9 ∧ fr K L [2, 67] M M9 ∧ fT 2 K L [14] M M9 ∧ (True)) (fun M9 t => PQ D [] L M9 (va_A ([] ++ va_pl L M) sz) t) (va_A ([] ++ va_pl L M) sz)) 0 0 (va_A ([] ++ va_pl L M) sz) := by
  refine Met.ofW (cc := cX2_receive) (maxL := 5) (ret := none) (by decide) rfl ?_
  intro p e s m args below meth c s₁ B hml hv
  obtain ⟨rfl, hsz, hP, hK, hD0, hN⟩ := hv
  have hx := B.exec
  have hb := B.bytes
  have hr := B.returns
  have hts := atoms_spec (ws := (wsM yX2_receive cX2_receive 5 none)) B.pre
  have hg : ∀ w ∈ lw_good, w.before _ s = true := fun w h => hts w (List.mem_cons_of_mem _ h)
  have hown : s.vm.findClass RX2 = some m.cls := findClass_of_methodNamed B.named
  have hlocks := B.notSynchronized
  subst hsz
  have hD := hD0.self (sz := s.heap.size)
  generalize hAe : va_A ([] ++ va_pl L M) s.heap.size = A at hD ⊢
  have hA : ∀ q : Nat, s.heap.size ≤ q → A q := fun q h => by rw [← hAe]; exact Or.inr h
  have hS : va_S A s.heap s.heap [] := va_S.rf
  have hl := lv_entry ([.ref oa, .int k1, .long k2]) (n := 5) (Nat.le_of_ble_eq_true rfl)
  rw [lg_entry_eq]
  generalize (lg_sl ([.ref oa, .int k1, .long k2]) ++ List.replicate (5 - (lg_sl ([.ref oa, .int k1, .long k2])).length) Slot.unset).toArray = ls at hl ⊢
  refine W.nameQ (fun Q hQ => ?_)
  refine W.nameR (fun R hR => ?_)
  have hRf : 1 ≤ R.frames := by rw [hR]; exact Nat.le_of_ble_eq_true rfl
  have hRl : 20 ≤ R.locals := by rw [hR]; exact Nat.le_of_ble_eq_true rfl
  have hRc : 0 ≤ R.cells := by rw [hR]; exact Nat.le_of_ble_eq_true rfl
  have hRs : 0 ≤ R.slots := by rw [hR]; exact Nat.le_of_ble_eq_true rfl
  have hF : fr K L [2, 67] M M := fr.rf
  have hT2 : fT 2 K L [14] M M := fT.rf
  have hl : lv_has ls 5 [(0, .ref oa), (1, .int k1), (2, .long k2)] := hl
  refine lv_iload_n hx hb dX2_receive_0 rfl (lv_at hl 1 rfl) ?_
  refine lv_aload_n hx hb dX2_receive_1 rfl (lv_at hl 0 rfl) ?_
  obtain ⟨v1_0, v1_1, v1_2, v1_3, v1_4, v1_5, v1_6, v1_7, v1_8, v1_9, v1_10, v1_11, v1_12, v1_13, v1_14, v1_15, v1_16, v1_17, v1_18, v1_19, hM1, h1_3, h1_4, h1_5, h1_6, h1_7, h1_8, h1_9, h1_10, h1_11, h1_12, h1_13, h1_16, h1_17, h1_18, h1_19⟩ := hW.open_2 ia
  refine pg_get (D := D) (ci := 2) (v := .int v1_2) (C := RX2) (T := TX2) (N := 20) hx hb hg inG2 hown hK hP ia.1 hM1 rfl 2 (by decide) (hg _ wd_41) (fun _ h9 => h9) rfl dX2_receive_2 ?_
  refine lv_iconst (v := 1) hx hb dX2_receive_5 (by decide) ?_
  refine lv_iadd hx hb dX2_receive_6 ?_
  refine lv_topi (fun f_2 ef_2 => ?_)
  refine va_mmax hx hb (by rw [hml]; exact hl.1.symm) hown (hg _ wd_99) (hg _ wd_100) (hg _ wd_12) (hg _ wd_101) (Nat.le_trans (Nat.le_of_ble_eq_true rfl) hRf) (Nat.le_trans (Nat.le_of_ble_eq_true rfl) hRl) (Nat.le_trans (Nat.le_of_ble_eq_true rfl) hRc) (Nat.le_trans (Nat.le_of_ble_eq_true rfl) hRs) dX2_receive_7 ?_
  refine lv_topi (fun f_3 ef_3 => ?_)
  refine lv_istore (lv' := [(4, .int f_3), (0, .ref oa), (1, .int k1), (2, .long k2)]) hx hb dX2_receive_10 hl (by decide) rfl (fun ls hl => ?_)
  refine lv_iload hx hb dX2_receive_12 (lv_at hl 0 rfl) ?_
  have hPc : va_P D vwCl ([] ++ va_pl L M) s.heap := hP
  have hDc : va_D A ([] ++ va_pl L M) := hD
  have hFc : ∀ q, va_A ([] ++ va_pl L M) s.heap.size q → A q := pg_free hDc hS hA
  refine va_calli (va_runSN (As := [.int f_3]) (rest := []) ⟨hx, hb, hml, hown, hg⟩ (s_X11_isDay l D cy K L M s.heap.size f_3  hW ) ⟨va_cnB 1 hg (gB wd_42) rfl rfl rfl (hN _ (List.mem_of_getElem? (i := 4) rfl) : va_Nw (Cond.methodLinkNest RX2 81 yX11_isDay RX11) s) (hg _ wd_3) (by decide +kernel) ⟨(Nat.le_trans (Nat.le_of_ble_eq_true rfl) hRf), (Nat.le_trans (Nat.le_of_ble_eq_true rfl) hRl)⟩, hg _ wd_43, trivial⟩ ⟨PG.blind, fun U hU hW => ⟨rfl, PG.at hPc hK hDc hN hU hW⟩⟩ rfl rfl hl.1 rfl (lv_room (Nat.le_of_ble_eq_true rfl)) dX2_receive_14 ⟨(Nat.le_trans (Nat.le_of_ble_eq_true rfl) hRc), (Nat.le_trans (Nat.le_of_ble_eq_true rfl) hRs)⟩) hS (fun q _ h => hFc q h) hFc (fun r_5 M_6 t H_4 locs ht hvm hw hB hz1 hk1 hS => ?_)
  have hp_7 := hw
  obtain ⟨hP1, hD1⟩ := hB
  rw [ht] at hP1
  have hP : va_P D vwCl ([] ++ va_pl L M) H_4 := hP1
  have hD : va_D A ([] ++ va_pl L M) := hD1.mono hFc
  rcases hp_7 with ⟨rfl, c_8, c_9⟩ | rfl
  · have hz := rfl (a := 0)
    refine lv_if_eq (tgt := 34) hx hb dX2_receive_17 (by decide) (fun c_10 => absurd c_10 (by decide)) (fun _ => ?_)
    refine lv_aload_n hx hb dX2_receive_20 rfl (lv_at hl 1 rfl) ?_
    refine pg_get (D := D) (ci := 2) (v := .ref v1_13) (C := RX2) (T := TX2) (N := 20) hx hb hg inG2 hown hK hP ia.1 hM1 rfl 13 (by decide) (hg _ wd_102) (fun _ h9 => h9) rfl dX2_receive_21 ?_
    refine lv_iload hx hb dX2_receive_24 (lv_at hl 0 rfl) ?_
    refine lv_dup2_11 hx hb dX2_receive_26 rfl rfl ?_
    obtain ⟨f11, hM11⟩ := hW.open_67 h1_13
    refine pg_lald hx hb hK hP h1_13.1 1 hM11 rfl (inbE f_3 999 1000 (by decide) (by decide) c_8 (Int32.not_lt.mp c_9)) dX2_receive_27 ?_
    refine lv_topl (fun f_12 ef_12 => ?_)
    refine lv_lload_n hx hb dX2_receive_28 rfl (lv_at hl 3 rfl) ?_
    refine lv_ladd hx hb dX2_receive_29 ?_
    refine lv_topl (fun f_13 ef_13 => ?_)
    refine pg_last hx hb hK hP hD hS h1_13.1 1 hM11 rfl (inbE f_3 999 1000 (by decide) (by decide) c_8 (Int32.not_lt.mp c_9)) dX2_receive_30 (fun H_14 locs hP hD hS => ?_)
    obtain ⟨M_15, eM_15⟩ : ∃ M1 : Hp, M1 = va_up M v1_13 (.inl (cy 15, 1000, .inr (.inl (vp_updL f11 (f_3 : Int32).toNatClampNeg f_13)))) := ⟨_, rfl⟩
    have hP : va_P D vwCl ([] ++ va_pl L M_15) H_14 := by rw [eM_15]; exact hP
    have hD : va_D A ([] ++ va_pl L M_15) := by rw [eM_15]; exact hD
    have hW : WOK cy K L M_15 := by rw [eM_15]; exact hW.up_67 h1_13 ⟨_, rfl⟩
    have hF : fr K L [2, 67] M M_15 := by rw [eM_15]; exact hF.up h1_13 (by decide)
    have hT2 : fT 2 K L [14] M M_15 := by rw [eM_15]; exact hT2.ne h1_13 (by decide)
    have hM_16 : M_15 v1_13 = .inl (cy 15, 1000, .inr (.inl (vp_updL f11 (f_3 : Int32).toNatClampNeg f_13))) := by rw [eM_15]; exact va_up_self _ _ _
    have hM_17 : M_15 oa = (b2_2 v1_0 v1_1 v1_2 v1_3 (nI v1_4) (nI v1_5) v1_6 v1_7 v1_8 (nI v1_9) v1_10 (nI v1_11) v1_12 v1_13 v1_14 v1_15 v1_16 v1_17 v1_18 v1_19) := by rw [eM_15, va_up_ne _ _ (ia.neT h1_13 (by decide))]; exact hM1
    obtain ⟨f_18, ef_18⟩ : ∃ f : Nat → Int64, f = vp_updL f11 (f_3 : Int32).toNatClampNeg f_13 := ⟨_, rfl⟩
    rw [← ef_18] at hM_16
    clear ef_18
    refine lv_goto (tgt := 44) hx hb dX2_receive_31 (by decide) ?_
    rw [hQ]
    exact W.vret hx hb hr (fun t ht hW9 => ⟨⟨M_15, rfl, ⟨hW, hF, hT2, trivial⟩, ⟨by rw [ht]; exact hP, hD⟩⟩, hS.F ht⟩) hS.2.2 dX2_receive_44
  · have hz := rfl (a := 0)
    refine lv_if_eq (tgt := 34) hx hb dX2_receive_17 (by decide) (fun _ => ?_) (fun c_19 => absurd c_19 (by decide))
    refine lv_aload_n hx hb dX2_receive_34 rfl (lv_at hl 1 rfl) ?_
    refine lv_dup hx hb dX2_receive_35 rfl ?_
    refine pg_get (D := D) (ci := 2) (v := .long v1_14) (C := RX2) (T := TX2) (N := 20) hx hb hg inG2 hown hK hP ia.1 hM1 rfl 14 (by decide) (hg _ wd_103) (fun _ h9 => h9) rfl dX2_receive_36 ?_
    refine lv_lload_n hx hb dX2_receive_39 rfl (lv_at hl 3 rfl) ?_
    refine lv_ladd hx hb dX2_receive_40 ?_
    refine lv_topl (fun f_20 ef_20 => ?_)
    refine pg_put (D := D) (ci := 2) (v := .long f_20) (ty := .long) (C := RX2) (T := TX2) (N := 20) hx hb hg inG2 tyX2 tyX2_ok nmX2 hown hK hP hD hS ia.1 hM1 rfl 14 (by decide) (hg _ wd_103) (fun _ h9 => h9) rfl (by decide +kernel) rfl rfl (Nat.le_of_ble_eq_true rfl) dX2_receive_41 (fun H_21 locs hP hD hS => ?_)
    obtain ⟨M_22, eM_22⟩ : ∃ M1 : Hp, M1 = va_up M oa ((b2_2 v1_0 v1_1 v1_2 v1_3 (nI v1_4) (nI v1_5) v1_6 v1_7 v1_8 (nI v1_9) v1_10 (nI v1_11) v1_12 v1_13 f_20 v1_15 v1_16 v1_17 v1_18 v1_19)) := ⟨_, rfl⟩
    have hP : va_P D vwCl ([] ++ va_pl L M_22) H_21 := by rw [eM_22]; exact hP
    have hD : va_D A ([] ++ va_pl L M_22) := by rw [eM_22]; exact hD
    have hW : WOK cy K L M_22 := by rw [eM_22]; exact hW.up_2 ia ⟨v1_0, v1_1, v1_2, v1_3, v1_4, v1_5, v1_6, v1_7, v1_8, v1_9, v1_10, v1_11, v1_12, v1_13, f_20, v1_15, v1_16, v1_17, v1_18, v1_19, rfl, h1_3, h1_4, h1_5, h1_6, h1_7, h1_8, h1_9, h1_10, h1_11, h1_12, h1_13, h1_16, h1_17, h1_18, h1_19⟩
    have hF : fr K L [2, 67] M M_22 := by rw [eM_22]; exact hF.up ia (by decide)
    have hT2 : fT 2 K L [14] M M_22 := by rw [eM_22]; exact hT2.up (i := 14) hM1 rfl (by decide)
    have hM_23 : M_22 oa = (b2_2 v1_0 v1_1 v1_2 v1_3 (nI v1_4) (nI v1_5) v1_6 v1_7 v1_8 (nI v1_9) v1_10 (nI v1_11) v1_12 v1_13 f_20 v1_15 v1_16 v1_17 v1_18 v1_19) := by rw [eM_22]; exact va_up_self _ _ _
    rw [hQ]
    exact W.vret hx hb hr (fun t ht hW9 => ⟨⟨M_22, rfl, ⟨hW, hF, hT2, trivial⟩, ⟨by rw [ht]; exact hP, hD⟩⟩, hS.F ht⟩) hS.2.2 dX2_receive_44
