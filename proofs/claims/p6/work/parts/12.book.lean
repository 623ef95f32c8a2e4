theorem dX11_letter_0 : decode cX11_letter 0 = .ok (.aload_n 0, 1) := by decide +kernel
theorem dX11_letter_1 : decode cX11_letter 1 = .ok (.iload_n 1, 1) := by decide +kernel
theorem dX11_letter_2 : decode cX11_letter 2 = .ok (.invokevirtual 65, 3) := by decide +kernel
theorem dX11_letter_5 : decode cX11_letter 5 = .ok (.astore 4, 2) := by decide +kernel
theorem dX11_letter_7 : decode cX11_letter 7 = .ok (.aload 4, 2) := by decide +kernel
theorem dX11_letter_9 : decode cX11_letter 9 = .ok (.ifnull 10, 3) := by decide +kernel
theorem dX11_letter_12 : decode cX11_letter 12 = .ok (.iload_n 2, 1) := by decide +kernel
theorem dX11_letter_13 : decode cX11_letter 13 = .ok (.invokestatic 75, 3) := by decide +kernel
theorem dX11_letter_16 : decode cX11_letter 16 = .ok (.ifCond .ne 9, 3) := by decide +kernel
theorem dX11_letter_19 : decode cX11_letter 19 = .ok (.aload_n 0, 1) := by decide +kernel
theorem dX11_letter_20 : decode cX11_letter 20 = .ok (.iconst 1, 1) := by decide +kernel
theorem dX11_letter_21 : decode cX11_letter 21 = .ok (.invokevirtual 47, 3) := by decide +kernel
theorem dX11_letter_24 : decode cX11_letter 24 = .ok (.ireturn, 1) := by decide +kernel
theorem dX11_letter_25 : decode cX11_letter 25 = .ok (.iload_n 3, 1) := by decide +kernel
theorem dX11_letter_26 : decode cX11_letter 26 = .ok (.iconst 1, 1) := by decide +kernel
theorem dX11_letter_27 : decode cX11_letter 27 = .ok (.if_icmp .lt 9, 3) := by decide +kernel
theorem dX11_letter_30 : decode cX11_letter 30 = .ok (.iload_n 3, 1) := by decide +kernel
theorem dX11_letter_31 : decode cX11_letter 31 = .ok (.ldc 78, 2) := by decide +kernel
theorem dX11_letter_33 : decode cX11_letter 33 = .ok (.if_icmp .le 9, 3) := by decide +kernel
theorem dX11_letter_36 : decode cX11_letter 36 = .ok (.aload_n 0, 1) := by decide +kernel
theorem dX11_letter_37 : decode cX11_letter 37 = .ok (.iconst 2, 1) := by decide +kernel
theorem dX11_letter_38 : decode cX11_letter 38 = .ok (.invokevirtual 47, 3) := by decide +kernel
theorem dX11_letter_41 : decode cX11_letter 41 = .ok (.ireturn, 1) := by decide +kernel
theorem dX11_letter_42 : decode cX11_letter 42 = .ok (.aload 4, 2) := by decide +kernel
theorem dX11_letter_44 : decode cX11_letter 44 = .ok (.getfield 79, 3) := by decide +kernel
theorem dX11_letter_47 : decode cX11_letter 47 = .ok (.iload_n 2, 1) := by decide +kernel
theorem dX11_letter_48 : decode cX11_letter 48 = .ok (.iaload, 1) := by decide +kernel
theorem dX11_letter_49 : decode cX11_letter 49 = .ok (.ifCond .ne 12, 3) := by decide +kernel
theorem dX11_letter_52 : decode cX11_letter 52 = .ok (.aload 4, 2) := by decide +kernel
theorem dX11_letter_54 : decode cX11_letter 54 = .ok (.iload_n 2, 1) := by decide +kernel
theorem dX11_letter_55 : decode cX11_letter 55 = .ok (.invokevirtual 82, 3) := by decide +kernel
theorem dX11_letter_58 : decode cX11_letter 58 = .ok (.ifnull 9, 3) := by decide +kernel
theorem dX11_letter_61 : decode cX11_letter 61 = .ok (.aload_n 0, 1) := by decide +kernel
theorem dX11_letter_62 : decode cX11_letter 62 = .ok (.iconst 4, 1) := by decide +kernel
theorem dX11_letter_63 : decode cX11_letter 63 = .ok (.invokevirtual 47, 3) := by decide +kernel
theorem dX11_letter_66 : decode cX11_letter 66 = .ok (.ireturn, 1) := by decide +kernel
theorem dX11_letter_67 : decode cX11_letter 67 = .ok (.aload 4, 2) := by decide +kernel
theorem dX11_letter_69 : decode cX11_letter 69 = .ok (.getfield 79, 3) := by decide +kernel
theorem dX11_letter_72 : decode cX11_letter 72 = .ok (.iload_n 2, 1) := by decide +kernel
theorem dX11_letter_73 : decode cX11_letter 73 = .ok (.iload_n 3, 1) := by decide +kernel
theorem dX11_letter_74 : decode cX11_letter 74 = .ok (.iastore, 1) := by decide +kernel
theorem dX11_letter_75 : decode cX11_letter 75 = .ok (.aload 4, 2) := by decide +kernel
theorem dX11_letter_77 : decode cX11_letter 77 = .ok (.getfield 86, 3) := by decide +kernel
theorem dX11_letter_80 : decode cX11_letter 80 = .ok (.iload_n 2, 1) := by decide +kernel
theorem dX11_letter_81 : decode cX11_letter 81 = .ok (.aconst_null, 1) := by decide +kernel
theorem dX11_letter_82 : decode cX11_letter 82 = .ok (.aastore, 1) := by decide +kernel
theorem dX11_letter_83 : decode cX11_letter 83 = .ok (.aload_n 0, 1) := by decide +kernel
theorem dX11_letter_84 : decode cX11_letter 84 = .ok (.iconst 1, 1) := by decide +kernel
theorem dX11_letter_85 : decode cX11_letter 85 = .ok (.invokevirtual 57, 3) := by decide +kernel
theorem dX11_letter_88 : decode cX11_letter 88 = .ok (.ireturn, 1) := by decide +kernel
theorem dX11_unseal_0 : decode cX11_unseal 0 = .ok (.aload_n 0, 1) := by decide +kernel
theorem dX11_unseal_1 : decode cX11_unseal 1 = .ok (.iload_n 1, 1) := by decide +kernel
theorem dX11_unseal_2 : decode cX11_unseal 2 = .ok (.invokevirtual 65, 3) := by decide +kernel
theorem dX11_unseal_5 : decode cX11_unseal 5 = .ok (.astore_n 3, 1) := by decide +kernel
theorem dX11_unseal_6 : decode cX11_unseal 6 = .ok (.aload_n 3, 1) := by decide +kernel
theorem dX11_unseal_7 : decode cX11_unseal 7 = .ok (.ifnull 10, 3) := by decide +kernel
theorem dX11_unseal_10 : decode cX11_unseal 10 = .ok (.iload_n 2, 1) := by decide +kernel
theorem dX11_unseal_11 : decode cX11_unseal 11 = .ok (.invokestatic 75, 3) := by decide +kernel
theorem dX11_unseal_14 : decode cX11_unseal 14 = .ok (.ifCond .ne 9, 3) := by decide +kernel
theorem dX11_unseal_17 : decode cX11_unseal 17 = .ok (.aload_n 0, 1) := by decide +kernel
theorem dX11_unseal_18 : decode cX11_unseal 18 = .ok (.iconst 1, 1) := by decide +kernel
theorem dX11_unseal_19 : decode cX11_unseal 19 = .ok (.invokevirtual 47, 3) := by decide +kernel
theorem dX11_unseal_22 : decode cX11_unseal 22 = .ok (.ireturn, 1) := by decide +kernel
theorem dX11_unseal_23 : decode cX11_unseal 23 = .ok (.aload_n 3, 1) := by decide +kernel
theorem dX11_unseal_24 : decode cX11_unseal 24 = .ok (.getfield 79, 3) := by decide +kernel
theorem dX11_unseal_27 : decode cX11_unseal 27 = .ok (.iload_n 2, 1) := by decide +kernel
theorem dX11_unseal_28 : decode cX11_unseal 28 = .ok (.iaload, 1) := by decide +kernel
theorem dX11_unseal_29 : decode cX11_unseal 29 = .ok (.istore 4, 2) := by decide +kernel
theorem dX11_unseal_31 : decode cX11_unseal 31 = .ok (.iload 4, 2) := by decide +kernel
theorem dX11_unseal_33 : decode cX11_unseal 33 = .ok (.ifCond .ne 9, 3) := by decide +kernel
theorem dX11_unseal_36 : decode cX11_unseal 36 = .ok (.aload_n 0, 1) := by decide +kernel
theorem dX11_unseal_37 : decode cX11_unseal 37 = .ok (.iconst 4, 1) := by decide +kernel
theorem dX11_unseal_38 : decode cX11_unseal 38 = .ok (.invokevirtual 47, 3) := by decide +kernel
theorem dX11_unseal_41 : decode cX11_unseal 41 = .ok (.ireturn, 1) := by decide +kernel
theorem dX11_unseal_42 : decode cX11_unseal 42 = .ok (.aload_n 3, 1) := by decide +kernel
theorem dX11_unseal_43 : decode cX11_unseal 43 = .ok (.getfield 79, 3) := by decide +kernel
theorem dX11_unseal_46 : decode cX11_unseal 46 = .ok (.iload_n 2, 1) := by decide +kernel
theorem dX11_unseal_47 : decode cX11_unseal 47 = .ok (.iconst 0, 1) := by decide +kernel
theorem dX11_unseal_48 : decode cX11_unseal 48 = .ok (.iastore, 1) := by decide +kernel
theorem dX11_unseal_49 : decode cX11_unseal 49 = .ok (.aload_n 0, 1) := by decide +kernel
theorem dX11_unseal_50 : decode cX11_unseal 50 = .ok (.iload 4, 2) := by decide +kernel
theorem dX11_unseal_52 : decode cX11_unseal 52 = .ok (.invokevirtual 57, 3) := by decide +kernel
theorem dX11_unseal_55 : decode cX11_unseal 55 = .ok (.ireturn, 1) := by decide +kernel
theorem dX11_holds_0 : decode cX11_holds 0 = .ok (.aload_n 0, 1) := by decide +kernel
theorem dX11_holds_1 : decode cX11_holds 1 = .ok (.iload_n 1, 1) := by decide +kernel
theorem dX11_holds_2 : decode cX11_holds 2 = .ok (.invokevirtual 65, 3) := by decide +kernel
theorem dX11_holds_5 : decode cX11_holds 5 = .ok (.astore_n 3, 1) := by decide +kernel
theorem dX11_holds_6 : decode cX11_holds 6 = .ok (.aload_n 3, 1) := by decide +kernel
theorem dX11_holds_7 : decode cX11_holds 7 = .ok (.ifnull 10, 3) := by decide +kernel
theorem dX11_holds_10 : decode cX11_holds 10 = .ok (.iload_n 2, 1) := by decide +kernel
theorem dX11_holds_11 : decode cX11_holds 11 = .ok (.invokestatic 75, 3) := by decide +kernel
theorem dX11_holds_14 : decode cX11_holds 14 = .ok (.ifCond .ne 9, 3) := by decide +kernel
theorem dX11_holds_17 : decode cX11_holds 17 = .ok (.aload_n 0, 1) := by decide +kernel
theorem dX11_holds_18 : decode cX11_holds 18 = .ok (.iconst 1, 1) := by decide +kernel
theorem dX11_holds_19 : decode cX11_holds 19 = .ok (.invokevirtual 47, 3) := by decide +kernel
theorem dX11_holds_22 : decode cX11_holds 22 = .ok (.ireturn, 1) := by decide +kernel
theorem dX11_holds_23 : decode cX11_holds 23 = .ok (.aload_n 3, 1) := by decide +kernel
theorem dX11_holds_24 : decode cX11_holds 24 = .ok (.getfield 79, 3) := by decide +kernel
theorem dX11_holds_27 : decode cX11_holds 27 = .ok (.iload_n 2, 1) := by decide +kernel
theorem dX11_holds_28 : decode cX11_holds 28 = .ok (.iaload, 1) := by decide +kernel
theorem dX11_holds_29 : decode cX11_holds 29 = .ok (.ifCond .eq 9, 3) := by decide +kernel
theorem dX11_holds_32 : decode cX11_holds 32 = .ok (.aload_n 0, 1) := by decide +kernel
theorem dX11_holds_33 : decode cX11_holds 33 = .ok (.iconst 1, 1) := by decide +kernel
theorem dX11_holds_34 : decode cX11_holds 34 = .ok (.invokevirtual 57, 3) := by decide +kernel
theorem dX11_holds_37 : decode cX11_holds 37 = .ok (.ireturn, 1) := by decide +kernel
theorem dX11_holds_38 : decode cX11_holds 38 = .ok (.aload_n 3, 1) := by decide +kernel
theorem dX11_holds_39 : decode cX11_holds 39 = .ok (.getfield 86, 3) := by decide +kernel
theorem dX11_holds_42 : decode cX11_holds 42 = .ok (.iload_n 2, 1) := by decide +kernel
theorem dX11_holds_43 : decode cX11_holds 43 = .ok (.aaload, 1) := by decide +kernel
theorem dX11_holds_44 : decode cX11_holds 44 = .ok (.astore 4, 2) := by decide +kernel
theorem dX11_holds_46 : decode cX11_holds 46 = .ok (.aload 4, 2) := by decide +kernel
theorem dX11_holds_48 : decode cX11_holds 48 = .ok (.ifnonnull 9, 3) := by decide +kernel
theorem dX11_holds_51 : decode cX11_holds 51 = .ok (.aload_n 0, 1) := by decide +kernel
theorem dX11_holds_52 : decode cX11_holds 52 = .ok (.iconst 0, 1) := by decide +kernel
theorem dX11_holds_53 : decode cX11_holds 53 = .ok (.invokevirtual 57, 3) := by decide +kernel
theorem dX11_holds_56 : decode cX11_holds 56 = .ok (.ireturn, 1) := by decide +kernel
theorem dX11_holds_57 : decode cX11_holds 57 = .ok (.aload_n 0, 1) := by decide +kernel
theorem dX11_holds_58 : decode cX11_holds 58 = .ok (.aload 4, 2) := by decide +kernel
theorem dX11_holds_60 : decode cX11_holds 60 = .ok (.invokevirtual 90, 3) := by decide +kernel
theorem dX11_holds_63 : decode cX11_holds 63 = .ok (.ifCond .eq 7, 3) := by decide +kernel
theorem dX11_holds_66 : decode cX11_holds 66 = .ok (.iconst 3, 1) := by decide +kernel
theorem dX11_holds_67 : decode cX11_holds 67 = .ok (.goto 4, 3) := by decide +kernel
theorem dX11_holds_70 : decode cX11_holds 70 = .ok (.iconst 2, 1) := by decide +kernel
theorem dX11_holds_71 : decode cX11_holds 71 = .ok (.invokevirtual 57, 3) := by decide +kernel
theorem dX11_holds_74 : decode cX11_holds 74 = .ok (.ireturn, 1) := by decide +kernel
theorem dX11_leave_0 : decode cX11_leave 0 = .ok (.aload_n 0, 1) := by decide +kernel
theorem dX11_leave_1 : decode cX11_leave 1 = .ok (.iload_n 1, 1) := by decide +kernel
theorem dX11_leave_2 : decode cX11_leave 2 = .ok (.invokevirtual 65, 3) := by decide +kernel
theorem dX11_leave_5 : decode cX11_leave 5 = .ok (.astore 6, 2) := by decide +kernel
theorem dX11_leave_7 : decode cX11_leave 7 = .ok (.aload 6, 2) := by decide +kernel
theorem dX11_leave_9 : decode cX11_leave 9 = .ok (.ifnull 10, 3) := by decide +kernel
theorem dX11_leave_12 : decode cX11_leave 12 = .ok (.iload_n 2, 1) := by decide +kernel
theorem dX11_leave_13 : decode cX11_leave 13 = .ok (.invokestatic 75, 3) := by decide +kernel
theorem dX11_leave_16 : decode cX11_leave 16 = .ok (.ifCond .ne 9, 3) := by decide +kernel
theorem dX11_leave_19 : decode cX11_leave 19 = .ok (.aload_n 0, 1) := by decide +kernel
theorem dX11_leave_20 : decode cX11_leave 20 = .ok (.iconst 1, 1) := by decide +kernel
theorem dX11_leave_21 : decode cX11_leave 21 = .ok (.invokevirtual 47, 3) := by decide +kernel
theorem dX11_leave_24 : decode cX11_leave 24 = .ok (.ireturn, 1) := by decide +kernel
theorem dX11_leave_25 : decode cX11_leave 25 = .ok (.aload 6, 2) := by decide +kernel
theorem dX11_leave_27 : decode cX11_leave 27 = .ok (.iload_n 2, 1) := by decide +kernel
theorem dX11_leave_28 : decode cX11_leave 28 = .ok (.invokevirtual 82, 3) := by decide +kernel
theorem dX11_leave_31 : decode cX11_leave 31 = .ok (.astore 7, 2) := by decide +kernel
theorem dX11_leave_33 : decode cX11_leave 33 = .ok (.aload 7, 2) := by decide +kernel
theorem dX11_leave_35 : decode cX11_leave 35 = .ok (.ifnonnull 9, 3) := by decide +kernel
theorem dX11_leave_38 : decode cX11_leave 38 = .ok (.aload_n 0, 1) := by decide +kernel
theorem dX11_leave_39 : decode cX11_leave 39 = .ok (.iconst 4, 1) := by decide +kernel
theorem dX11_leave_40 : decode cX11_leave 40 = .ok (.invokevirtual 47, 3) := by decide +kernel
theorem dX11_leave_43 : decode cX11_leave 43 = .ok (.ireturn, 1) := by decide +kernel
theorem dX11_leave_44 : decode cX11_leave 44 = .ok (.iload 4, 2) := by decide +kernel
theorem dX11_leave_46 : decode cX11_leave 46 = .ok (.iconst 1, 1) := by decide +kernel
theorem dX11_leave_47 : decode cX11_leave 47 = .ok (.if_icmp .lt 21, 3) := by decide +kernel
theorem dX11_leave_50 : decode cX11_leave 50 = .ok (.iload 4, 2) := by decide +kernel
theorem dX11_leave_52 : decode cX11_leave 52 = .ok (.bipush 10, 2) := by decide +kernel
theorem dX11_leave_54 : decode cX11_leave 54 = .ok (.if_icmp .gt 14, 3) := by decide +kernel
theorem dX11_leave_57 : decode cX11_leave 57 = .ok (.iload 5, 2) := by decide +kernel
theorem dX11_leave_59 : decode cX11_leave 59 = .ok (.ifCond .lt 9, 3) := by decide +kernel
theorem dX11_leave_62 : decode cX11_leave 62 = .ok (.iload 5, 2) := by decide +kernel
theorem dX11_leave_64 : decode cX11_leave 64 = .ok (.iconst 5, 1) := by decide +kernel
theorem dX11_leave_65 : decode cX11_leave 65 = .ok (.if_icmp .le 9, 3) := by decide +kernel
theorem dX11_leave_68 : decode cX11_leave 68 = .ok (.aload_n 0, 1) := by decide +kernel
theorem dX11_leave_69 : decode cX11_leave 69 = .ok (.iconst 2, 1) := by decide +kernel
theorem dX11_leave_70 : decode cX11_leave 70 = .ok (.invokevirtual 47, 3) := by decide +kernel
theorem dX11_leave_73 : decode cX11_leave 73 = .ok (.ireturn, 1) := by decide +kernel
theorem dX11_leave_74 : decode cX11_leave 74 = .ok (.aload 6, 2) := by decide +kernel
theorem dX11_leave_76 : decode cX11_leave 76 = .ok (.iload_n 3, 1) := by decide +kernel
theorem dX11_leave_77 : decode cX11_leave 77 = .ok (.invokevirtual 103, 3) := by decide +kernel
theorem dX11_leave_80 : decode cX11_leave 80 = .ok (.ifCond .eq 12, 3) := by decide +kernel
theorem dX11_leave_83 : decode cX11_leave 83 = .ok (.iload_n 3, 1) := by decide +kernel
theorem dX11_leave_84 : decode cX11_leave 84 = .ok (.aload 7, 2) := by decide +kernel
theorem dX11_leave_86 : decode cX11_leave 86 = .ok (.getfield 128, 3) := by decide +kernel
theorem dX11_leave_89 : decode cX11_leave 89 = .ok (.if_icmp .gt 9, 3) := by decide +kernel
theorem dX11_leave_92 : decode cX11_leave 92 = .ok (.aload_n 0, 1) := by decide +kernel
theorem dX11_leave_93 : decode cX11_leave 93 = .ok (.iconst 3, 1) := by decide +kernel
theorem dX11_leave_94 : decode cX11_leave 94 = .ok (.invokevirtual 47, 3) := by decide +kernel
theorem dX11_leave_97 : decode cX11_leave 97 = .ok (.ireturn, 1) := by decide +kernel
theorem dX11_leave_98 : decode cX11_leave 98 = .ok (.aload 7, 2) := by decide +kernel
theorem dX11_leave_100 : decode cX11_leave 100 = .ok (.iload_n 3, 1) := by decide +kernel
theorem dX11_leave_101 : decode cX11_leave 101 = .ok (.iload 4, 2) := by decide +kernel
theorem dX11_leave_103 : decode cX11_leave 103 = .ok (.iload 5, 2) := by decide +kernel
theorem dX11_leave_105 : decode cX11_leave 105 = .ok (.invokevirtual 131, 3) := by decide +kernel
theorem dX11_leave_108 : decode cX11_leave 108 = .ok (.aload_n 0, 1) := by decide +kernel
theorem dX11_leave_109 : decode cX11_leave 109 = .ok (.aload 7, 2) := by decide +kernel
theorem dX11_leave_111 : decode cX11_leave 111 = .ok (.getfield 135, 3) := by decide +kernel
theorem dX11_leave_114 : decode cX11_leave 114 = .ok (.invokevirtual 57, 3) := by decide +kernel
theorem dX11_leave_117 : decode cX11_leave 117 = .ok (.ireturn, 1) := by decide +kernel
theorem dX11_circle_0 : decode cX11_circle 0 = .ok (.aload_n 0, 1) := by decide +kernel
theorem dX11_circle_1 : decode cX11_circle 1 = .ok (.getfield 31, 3) := by decide +kernel
theorem dX11_circle_4 : decode cX11_circle 4 = .ok (.iload_n 1, 1) := by decide +kernel
theorem dX11_circle_5 : decode cX11_circle 5 = .ok (.invokevirtual 146, 3) := by decide +kernel
theorem dX11_circle_8 : decode cX11_circle 8 = .ok (.ireturn, 1) := by decide +kernel
theorem dX11_tear_0 : decode cX11_tear 0 = .ok (.aload_n 0, 1) := by decide +kernel
theorem dX11_tear_1 : decode cX11_tear 1 = .ok (.iload_n 1, 1) := by decide +kernel
theorem dX11_tear_2 : decode cX11_tear 2 = .ok (.invokevirtual 65, 3) := by decide +kernel
theorem dX11_tear_5 : decode cX11_tear 5 = .ok (.astore_n 3, 1) := by decide +kernel
theorem dX11_tear_6 : decode cX11_tear 6 = .ok (.aload_n 3, 1) := by decide +kernel
theorem dX11_tear_7 : decode cX11_tear 7 = .ok (.ifnonnull 9, 3) := by decide +kernel
theorem dX11_tear_10 : decode cX11_tear 10 = .ok (.aload_n 0, 1) := by decide +kernel
theorem dX11_tear_11 : decode cX11_tear 11 = .ok (.iconst 1, 1) := by decide +kernel
theorem dX11_tear_12 : decode cX11_tear 12 = .ok (.invokevirtual 47, 3) := by decide +kernel
theorem dX11_tear_15 : decode cX11_tear 15 = .ok (.ireturn, 1) := by decide +kernel
theorem dX11_tear_16 : decode cX11_tear 16 = .ok (.aload_n 3, 1) := by decide +kernel
theorem dX11_tear_17 : decode cX11_tear 17 = .ok (.iload_n 2, 1) := by decide +kernel
theorem dX11_tear_18 : decode cX11_tear 18 = .ok (.invokevirtual 103, 3) := by decide +kernel
theorem dX11_tear_21 : decode cX11_tear 21 = .ok (.ifCond .ne 9, 3) := by decide +kernel
theorem dX11_tear_24 : decode cX11_tear 24 = .ok (.aload_n 0, 1) := by decide +kernel
theorem dX11_tear_25 : decode cX11_tear 25 = .ok (.iconst 3, 1) := by decide +kernel
theorem dX11_tear_26 : decode cX11_tear 26 = .ok (.invokevirtual 47, 3) := by decide +kernel
theorem dX11_tear_29 : decode cX11_tear 29 = .ok (.ireturn, 1) := by decide +kernel
theorem dX11_tear_30 : decode cX11_tear 30 = .ok (.aload_n 3, 1) := by decide +kernel
theorem dX11_tear_31 : decode cX11_tear 31 = .ok (.iload_n 2, 1) := by decide +kernel
theorem dX11_tear_32 : decode cX11_tear 32 = .ok (.invokevirtual 196, 3) := by decide +kernel
theorem dX11_tear_35 : decode cX11_tear 35 = .ok (.astore 4, 2) := by decide +kernel
theorem dX11_tear_37 : decode cX11_tear 37 = .ok (.aload 4, 2) := by decide +kernel
theorem dX11_tear_39 : decode cX11_tear 39 = .ok (.ifnonnull 10, 3) := by decide +kernel
theorem dX11_tear_42 : decode cX11_tear 42 = .ok (.aload_n 0, 1) := by decide +kernel
theorem dX11_tear_43 : decode cX11_tear 43 = .ok (.bipush 10, 2) := by decide +kernel
theorem dX11_tear_45 : decode cX11_tear 45 = .ok (.invokevirtual 47, 3) := by decide +kernel
theorem dX11_tear_48 : decode cX11_tear 48 = .ok (.ireturn, 1) := by decide +kernel
theorem dX11_tear_49 : decode cX11_tear 49 = .ok (.aload_n 3, 1) := by decide +kernel
theorem dX11_tear_50 : decode cX11_tear 50 = .ok (.getfield 178, 3) := by decide +kernel
theorem dX11_tear_53 : decode cX11_tear 53 = .ok (.iload_n 2, 1) := by decide +kernel
theorem dX11_tear_54 : decode cX11_tear 54 = .ok (.aconst_null, 1) := by decide +kernel
theorem dX11_tear_55 : decode cX11_tear 55 = .ok (.aastore, 1) := by decide +kernel
theorem dX11_tear_56 : decode cX11_tear 56 = .ok (.aload_n 3, 1) := by decide +kernel
theorem dX11_tear_57 : decode cX11_tear 57 = .ok (.getfield 187, 3) := by decide +kernel
theorem dX11_tear_60 : decode cX11_tear 60 = .ok (.invokevirtual 191, 3) := by decide +kernel
theorem dX11_tear_63 : decode cX11_tear 63 = .ok (.aload_n 0, 1) := by decide +kernel
theorem dX11_tear_64 : decode cX11_tear 64 = .ok (.aload 4, 2) := by decide +kernel
theorem dX11_tear_66 : decode cX11_tear 66 = .ok (.getfield 200, 3) := by decide +kernel
theorem dX11_tear_69 : decode cX11_tear 69 = .ok (.invokevirtual 57, 3) := by decide +kernel
theorem dX11_tear_72 : decode cX11_tear 72 = .ok (.ireturn, 1) := by decide +kernel
theorem dX11_earn_0 : decode cX11_earn 0 = .ok (.aload_n 0, 1) := by decide +kernel
theorem dX11_earn_1 : decode cX11_earn 1 = .ok (.iload_n 1, 1) := by decide +kernel
theorem dX11_earn_2 : decode cX11_earn 2 = .ok (.iload_n 2, 1) := by decide +kernel
theorem dX11_earn_3 : decode cX11_earn 3 = .ok (.iload_n 3, 1) := by decide +kernel
theorem dX11_earn_4 : decode cX11_earn 4 = .ok (.iconst 1, 1) := by decide +kernel
theorem dX11_earn_5 : decode cX11_earn 5 = .ok (.invokevirtual 203, 3) := by decide +kernel
theorem dX11_earn_8 : decode cX11_earn 8 = .ok (.ireturn, 1) := by decide +kernel
theorem dX11_spend_0 : decode cX11_spend 0 = .ok (.aload_n 0, 1) := by decide +kernel
theorem dX11_spend_1 : decode cX11_spend 1 = .ok (.iload_n 1, 1) := by decide +kernel
theorem dX11_spend_2 : decode cX11_spend 2 = .ok (.iload_n 2, 1) := by decide +kernel
theorem dX11_spend_3 : decode cX11_spend 3 = .ok (.iload_n 3, 1) := by decide +kernel
theorem dX11_spend_4 : decode cX11_spend 4 = .ok (.iconst (-1), 1) := by decide +kernel
theorem dX11_spend_5 : decode cX11_spend 5 = .ok (.invokevirtual 203, 3) := by decide +kernel
theorem dX11_spend_8 : decode cX11_spend 8 = .ok (.ireturn, 1) := by decide +kernel
theorem dX11_loose_0 : decode cX11_loose 0 = .ok (.aload_n 0, 1) := by decide +kernel
theorem dX11_loose_1 : decode cX11_loose 1 = .ok (.iload_n 1, 1) := by decide +kernel
theorem dX11_loose_2 : decode cX11_loose 2 = .ok (.invokevirtual 65, 3) := by decide +kernel
theorem dX11_loose_5 : decode cX11_loose 5 = .ok (.astore_n 3, 1) := by decide +kernel
theorem dX11_loose_6 : decode cX11_loose 6 = .ok (.aload_n 3, 1) := by decide +kernel
theorem dX11_loose_7 : decode cX11_loose 7 = .ok (.ifnonnull 9, 3) := by decide +kernel
theorem dX11_loose_10 : decode cX11_loose 10 = .ok (.aload_n 0, 1) := by decide +kernel
theorem dX11_loose_11 : decode cX11_loose 11 = .ok (.iconst 1, 1) := by decide +kernel
theorem dX11_loose_12 : decode cX11_loose 12 = .ok (.invokevirtual 47, 3) := by decide +kernel
theorem dX11_loose_15 : decode cX11_loose 15 = .ok (.ireturn, 1) := by decide +kernel
theorem dX11_loose_16 : decode cX11_loose 16 = .ok (.iload_n 2, 1) := by decide +kernel
theorem dX11_loose_17 : decode cX11_loose 17 = .ok (.ldc 207, 2) := by decide +kernel
theorem dX11_loose_19 : decode cX11_loose 19 = .ok (.if_icmp .lt 9, 3) := by decide +kernel
theorem dX11_loose_22 : decode cX11_loose 22 = .ok (.iload_n 2, 1) := by decide +kernel
theorem dX11_loose_23 : decode cX11_loose 23 = .ok (.ldc 64, 2) := by decide +kernel
theorem dX11_loose_25 : decode cX11_loose 25 = .ok (.if_icmp .le 9, 3) := by decide +kernel
theorem dX11_loose_28 : decode cX11_loose 28 = .ok (.aload_n 0, 1) := by decide +kernel
theorem dX11_loose_29 : decode cX11_loose 29 = .ok (.iconst 2, 1) := by decide +kernel
theorem dX11_loose_30 : decode cX11_loose 30 = .ok (.invokevirtual 47, 3) := by decide +kernel
theorem dX11_loose_33 : decode cX11_loose 33 = .ok (.ireturn, 1) := by decide +kernel
theorem dX11_loose_34 : decode cX11_loose 34 = .ok (.aload_n 3, 1) := by decide +kernel
theorem dX11_loose_35 : decode cX11_loose 35 = .ok (.getfield 208, 3) := by decide +kernel
theorem dX11_loose_38 : decode cX11_loose 38 = .ok (.iload_n 2, 1) := by decide +kernel
theorem dX11_loose_39 : decode cX11_loose 39 = .ok (.i2l, 1) := by decide +kernel
theorem dX11_loose_40 : decode cX11_loose 40 = .ok (.ladd, 1) := by decide +kernel
theorem dX11_loose_41 : decode cX11_loose 41 = .ok (.invokestatic 212, 3) := by decide +kernel
theorem dX11_loose_44 : decode cX11_loose 44 = .ok (.ldc2_w 218, 3) := by decide +kernel
theorem dX11_loose_47 : decode cX11_loose 47 = .ok (.lcmp, 1) := by decide +kernel
theorem dX11_loose_48 : decode cX11_loose 48 = .ok (.ifCond .le 10, 3) := by decide +kernel
theorem dX11_loose_51 : decode cX11_loose 51 = .ok (.aload_n 0, 1) := by decide +kernel
theorem dX11_loose_52 : decode cX11_loose 52 = .ok (.bipush 9, 2) := by decide +kernel
theorem dX11_loose_54 : decode cX11_loose 54 = .ok (.invokevirtual 47, 3) := by decide +kernel
theorem dX11_loose_57 : decode cX11_loose 57 = .ok (.ireturn, 1) := by decide +kernel
theorem dX11_loose_58 : decode cX11_loose 58 = .ok (.aload_n 3, 1) := by decide +kernel
theorem dX11_loose_59 : decode cX11_loose 59 = .ok (.dup, 1) := by decide +kernel
theorem dX11_loose_60 : decode cX11_loose 60 = .ok (.getfield 208, 3) := by decide +kernel
theorem dX11_loose_63 : decode cX11_loose 63 = .ok (.iload_n 2, 1) := by decide +kernel
theorem dX11_loose_64 : decode cX11_loose 64 = .ok (.i2l, 1) := by decide +kernel
theorem dX11_loose_65 : decode cX11_loose 65 = .ok (.ladd, 1) := by decide +kernel
theorem dX11_loose_66 : decode cX11_loose 66 = .ok (.putfield 208, 3) := by decide +kernel
theorem dX11_loose_69 : decode cX11_loose 69 = .ok (.aload_n 0, 1) := by decide +kernel
theorem dX11_loose_70 : decode cX11_loose 70 = .ok (.iconst 1, 1) := by decide +kernel
theorem dX11_loose_71 : decode cX11_loose 71 = .ok (.invokevirtual 57, 3) := by decide +kernel
theorem dX11_loose_74 : decode cX11_loose 74 = .ok (.ireturn, 1) := by decide +kernel
theorem dX11_move_0 : decode cX11_move 0 = .ok (.aload_n 0, 1) := by decide +kernel
theorem dX11_move_1 : decode cX11_move 1 = .ok (.iload_n 1, 1) := by decide +kernel
theorem dX11_move_2 : decode cX11_move 2 = .ok (.invokevirtual 65, 3) := by decide +kernel
theorem dX11_move_5 : decode cX11_move 5 = .ok (.astore 6, 2) := by decide +kernel
theorem dX11_move_7 : decode cX11_move 7 = .ok (.aload 6, 2) := by decide +kernel
theorem dX11_move_9 : decode cX11_move 9 = .ok (.ifnonnull 7, 3) := by decide +kernel
theorem dX11_move_12 : decode cX11_move 12 = .ok (.aconst_null, 1) := by decide +kernel
theorem dX11_move_13 : decode cX11_move 13 = .ok (.goto 9, 3) := by decide +kernel
theorem dX11_move_16 : decode cX11_move 16 = .ok (.aload 6, 2) := by decide +kernel
theorem dX11_move_18 : decode cX11_move 18 = .ok (.iload_n 2, 1) := by decide +kernel
theorem dX11_move_19 : decode cX11_move 19 = .ok (.invokevirtual 139, 3) := by decide +kernel
theorem dX11_move_22 : decode cX11_move 22 = .ok (.astore 7, 2) := by decide +kernel
theorem dX11_move_24 : decode cX11_move 24 = .ok (.aload 6, 2) := by decide +kernel
theorem dX11_move_26 : decode cX11_move 26 = .ok (.ifnull 8, 3) := by decide +kernel
theorem dX11_move_29 : decode cX11_move 29 = .ok (.aload 7, 2) := by decide +kernel
theorem dX11_move_31 : decode cX11_move 31 = .ok (.ifnonnull 9, 3) := by decide +kernel
theorem dX11_move_34 : decode cX11_move 34 = .ok (.aload_n 0, 1) := by decide +kernel
theorem dX11_move_35 : decode cX11_move 35 = .ok (.iconst 1, 1) := by decide +kernel
theorem dX11_move_36 : decode cX11_move 36 = .ok (.invokevirtual 47, 3) := by decide +kernel
theorem dX11_move_39 : decode cX11_move 39 = .ok (.ireturn, 1) := by decide +kernel
theorem dX11_move_40 : decode cX11_move 40 = .ok (.iload 4, 2) := by decide +kernel
theorem dX11_move_42 : decode cX11_move 42 = .ok (.invokestatic 220, 3) := by decide +kernel
theorem dX11_move_45 : decode cX11_move 45 = .ok (.ifCond .ne 9, 3) := by decide +kernel
theorem dX11_move_48 : decode cX11_move 48 = .ok (.aload_n 0, 1) := by decide +kernel
theorem dX11_move_49 : decode cX11_move 49 = .ok (.iconst 2, 1) := by decide +kernel
theorem dX11_move_50 : decode cX11_move 50 = .ok (.invokevirtual 47, 3) := by decide +kernel
theorem dX11_move_53 : decode cX11_move 53 = .ok (.ireturn, 1) := by decide +kernel
theorem dX11_move_54 : decode cX11_move 54 = .ok (.aload 6, 2) := by decide +kernel
theorem dX11_move_56 : decode cX11_move 56 = .ok (.iload_n 3, 1) := by decide +kernel
theorem dX11_move_57 : decode cX11_move 57 = .ok (.invokevirtual 103, 3) := by decide +kernel
theorem dX11_move_60 : decode cX11_move 60 = .ok (.ifCond .eq 12, 3) := by decide +kernel
theorem dX11_move_63 : decode cX11_move 63 = .ok (.aload 7, 2) := by decide +kernel
theorem dX11_move_65 : decode cX11_move 65 = .ok (.iload_n 3, 1) := by decide +kernel
theorem dX11_move_66 : decode cX11_move 66 = .ok (.invokevirtual 223, 3) := by decide +kernel
theorem dX11_move_69 : decode cX11_move 69 = .ok (.ifCond .ne 9, 3) := by decide +kernel
theorem dX11_move_72 : decode cX11_move 72 = .ok (.aload_n 0, 1) := by decide +kernel
theorem dX11_move_73 : decode cX11_move 73 = .ok (.iconst 3, 1) := by decide +kernel
theorem dX11_move_74 : decode cX11_move 74 = .ok (.invokevirtual 47, 3) := by decide +kernel
theorem dX11_move_77 : decode cX11_move 77 = .ok (.ireturn, 1) := by decide +kernel
theorem dX11_move_78 : decode cX11_move 78 = .ok (.aload 6, 2) := by decide +kernel
theorem dX11_move_80 : decode cX11_move 80 = .ok (.getfield 226, 3) := by decide +kernel
theorem dX11_move_83 : decode cX11_move 83 = .ok (.invokevirtual 230, 3) := by decide +kernel
theorem dX11_move_86 : decode cX11_move 86 = .ok (.ifCond .eq 10, 3) := by decide +kernel
theorem dX11_move_89 : decode cX11_move 89 = .ok (.aload_n 0, 1) := by decide +kernel
theorem dX11_move_90 : decode cX11_move 90 = .ok (.bipush 9, 2) := by decide +kernel
theorem dX11_move_92 : decode cX11_move 92 = .ok (.invokevirtual 47, 3) := by decide +kernel
theorem dX11_move_95 : decode cX11_move 95 = .ok (.ireturn, 1) := by decide +kernel
theorem dX11_move_96 : decode cX11_move 96 = .ok (.aload 6, 2) := by decide +kernel
theorem dX11_move_98 : decode cX11_move 98 = .ok (.getfield 226, 3) := by decide +kernel
theorem dX11_move_101 : decode cX11_move 101 = .ok (.aload 7, 2) := by decide +kernel
theorem dX11_move_103 : decode cX11_move 103 = .ok (.iload_n 3, 1) := by decide +kernel
theorem dX11_move_104 : decode cX11_move 104 = .ok (.iload 5, 2) := by decide +kernel
theorem dX11_move_106 : decode cX11_move 106 = .ok (.ifCond .eq 9, 3) := by decide +kernel
theorem dX11_move_109 : decode cX11_move 109 = .ok (.iload 4, 2) := by decide +kernel
theorem dX11_move_111 : decode cX11_move 111 = .ok (.ineg, 1) := by decide +kernel
theorem dX11_move_112 : decode cX11_move 112 = .ok (.goto 5, 3) := by decide +kernel
theorem dX11_move_115 : decode cX11_move 115 = .ok (.iload 4, 2) := by decide +kernel
theorem dX11_move_117 : decode cX11_move 117 = .ok (.invokevirtual 235, 3) := by decide +kernel
theorem dX11_move_120 : decode cX11_move 120 = .ok (.aload 6, 2) := by decide +kernel
theorem dX11_move_122 : decode cX11_move 122 = .ok (.getfield 187, 3) := by decide +kernel
theorem dX11_move_125 : decode cX11_move 125 = .ok (.invokevirtual 239, 3) := by decide +kernel
theorem dX11_move_128 : decode cX11_move 128 = .ok (.aload_n 0, 1) := by decide +kernel
theorem dX11_move_129 : decode cX11_move 129 = .ok (.aload 6, 2) := by decide +kernel
theorem dX11_move_131 : decode cX11_move 131 = .ok (.getfield 226, 3) := by decide +kernel
theorem dX11_move_134 : decode cX11_move 134 = .ok (.getfield 242, 3) := by decide +kernel
theorem dX11_move_137 : decode cX11_move 137 = .ok (.invokevirtual 57, 3) := by decide +kernel
theorem dX11_move_140 : decode cX11_move 140 = .ok (.ireturn, 1) := by decide +kernel
theorem dX11_lend_0 : decode cX11_lend 0 = .ok (.aload_n 0, 1) := by decide +kernel
theorem dX11_lend_1 : decode cX11_lend 1 = .ok (.iload_n 1, 1) := by decide +kernel
theorem dX11_lend_2 : decode cX11_lend 2 = .ok (.invokevirtual 65, 3) := by decide +kernel
theorem dX11_lend_5 : decode cX11_lend 5 = .ok (.astore 5, 2) := by decide +kernel
theorem dX11_lend_7 : decode cX11_lend 7 = .ok (.aload 5, 2) := by decide +kernel
theorem dX11_lend_9 : decode cX11_lend 9 = .ok (.ifnonnull 7, 3) := by decide +kernel
theorem dX11_lend_12 : decode cX11_lend 12 = .ok (.aconst_null, 1) := by decide +kernel
theorem dX11_lend_13 : decode cX11_lend 13 = .ok (.goto 9, 3) := by decide +kernel
theorem dX11_lend_16 : decode cX11_lend 16 = .ok (.aload 5, 2) := by decide +kernel
theorem dX11_lend_18 : decode cX11_lend 18 = .ok (.iload_n 2, 1) := by decide +kernel
theorem dX11_lend_19 : decode cX11_lend 19 = .ok (.invokevirtual 139, 3) := by decide +kernel
theorem dX11_lend_22 : decode cX11_lend 22 = .ok (.astore 6, 2) := by decide +kernel
theorem dX11_lend_24 : decode cX11_lend 24 = .ok (.aload 6, 2) := by decide +kernel
theorem dX11_lend_26 : decode cX11_lend 26 = .ok (.ifnonnull 9, 3) := by decide +kernel
theorem dX11_lend_29 : decode cX11_lend 29 = .ok (.aload_n 0, 1) := by decide +kernel
theorem dX11_lend_30 : decode cX11_lend 30 = .ok (.iconst 1, 1) := by decide +kernel
theorem dX11_lend_31 : decode cX11_lend 31 = .ok (.invokevirtual 47, 3) := by decide +kernel
theorem dX11_lend_34 : decode cX11_lend 34 = .ok (.ireturn, 1) := by decide +kernel
theorem dX11_lend_35 : decode cX11_lend 35 = .ok (.iload_n 3, 1) := by decide +kernel
theorem dX11_lend_36 : decode cX11_lend 36 = .ok (.invokestatic 220, 3) := by decide +kernel
theorem dX11_lend_39 : decode cX11_lend 39 = .ok (.ifCond .eq 19, 3) := by decide +kernel
theorem dX11_lend_42 : decode cX11_lend 42 = .ok (.iload 4, 2) := by decide +kernel
theorem dX11_lend_44 : decode cX11_lend 44 = .ok (.ifCond .eq 20, 3) := by decide +kernel
theorem dX11_lend_47 : decode cX11_lend 47 = .ok (.iload_n 3, 1) := by decide +kernel
theorem dX11_lend_48 : decode cX11_lend 48 = .ok (.i2l, 1) := by decide +kernel
theorem dX11_lend_49 : decode cX11_lend 49 = .ok (.aload 6, 2) := by decide +kernel
theorem dX11_lend_51 : decode cX11_lend 51 = .ok (.getfield 243, 3) := by decide +kernel
theorem dX11_lend_54 : decode cX11_lend 54 = .ok (.lcmp, 1) := by decide +kernel
theorem dX11_lend_55 : decode cX11_lend 55 = .ok (.ifCond .le 9, 3) := by decide +kernel
theorem dX11_lend_58 : decode cX11_lend 58 = .ok (.aload_n 0, 1) := by decide +kernel
theorem dX11_lend_59 : decode cX11_lend 59 = .ok (.iconst 2, 1) := by decide +kernel
theorem dX11_lend_60 : decode cX11_lend 60 = .ok (.invokevirtual 47, 3) := by decide +kernel
theorem dX11_lend_63 : decode cX11_lend 63 = .ok (.ireturn, 1) := by decide +kernel
theorem dX11_lend_64 : decode cX11_lend 64 = .ok (.iload 4, 2) := by decide +kernel
theorem dX11_lend_66 : decode cX11_lend 66 = .ok (.ifCond .eq 14, 3) := by decide +kernel
theorem dX11_lend_69 : decode cX11_lend 69 = .ok (.aload 6, 2) := by decide +kernel
theorem dX11_lend_71 : decode cX11_lend 71 = .ok (.getfield 243, 3) := by decide +kernel
theorem dX11_lend_74 : decode cX11_lend 74 = .ok (.iload_n 3, 1) := by decide +kernel
theorem dX11_lend_75 : decode cX11_lend 75 = .ok (.i2l, 1) := by decide +kernel
theorem dX11_lend_76 : decode cX11_lend 76 = .ok (.lsub, 1) := by decide +kernel
theorem dX11_lend_77 : decode cX11_lend 77 = .ok (.goto 11, 3) := by decide +kernel
theorem dX11_lend_80 : decode cX11_lend 80 = .ok (.aload 6, 2) := by decide +kernel
theorem dX11_lend_82 : decode cX11_lend 82 = .ok (.getfield 243, 3) := by decide +kernel
theorem dX11_lend_85 : decode cX11_lend 85 = .ok (.iload_n 3, 1) := by decide +kernel
theorem dX11_lend_86 : decode cX11_lend 86 = .ok (.i2l, 1) := by decide +kernel
theorem dX11_lend_87 : decode cX11_lend 87 = .ok (.ladd, 1) := by decide +kernel
theorem dX11_lend_88 : decode cX11_lend 88 = .ok (.lstore 7, 2) := by decide +kernel
theorem dX11_lend_90 : decode cX11_lend 90 = .ok (.lload 7, 2) := by decide +kernel
theorem dX11_lend_92 : decode cX11_lend 92 = .ok (.ldc2_w 246, 3) := by decide +kernel
theorem dX11_lend_95 : decode cX11_lend 95 = .ok (.lcmp, 1) := by decide +kernel
theorem dX11_lend_96 : decode cX11_lend 96 = .ok (.ifCond .le 10, 3) := by decide +kernel
theorem dX11_lend_99 : decode cX11_lend 99 = .ok (.aload_n 0, 1) := by decide +kernel
theorem dX11_lend_100 : decode cX11_lend 100 = .ok (.bipush 9, 2) := by decide +kernel
theorem dX11_lend_102 : decode cX11_lend 102 = .ok (.invokevirtual 47, 3) := by decide +kernel
theorem dX11_lend_105 : decode cX11_lend 105 = .ok (.ireturn, 1) := by decide +kernel
theorem dX11_lend_106 : decode cX11_lend 106 = .ok (.aload 6, 2) := by decide +kernel
theorem dX11_lend_108 : decode cX11_lend 108 = .ok (.lload 7, 2) := by decide +kernel
theorem dX11_lend_110 : decode cX11_lend 110 = .ok (.putfield 243, 3) := by decide +kernel
theorem dX11_lend_113 : decode cX11_lend 113 = .ok (.aload_n 0, 1) := by decide +kernel
theorem dX11_lend_114 : decode cX11_lend 114 = .ok (.lload 7, 2) := by decide +kernel
theorem dX11_lend_116 : decode cX11_lend 116 = .ok (.l2i, 1) := by decide +kernel
theorem dX11_lend_117 : decode cX11_lend 117 = .ok (.invokevirtual 57, 3) := by decide +kernel
theorem dX11_lend_120 : decode cX11_lend 120 = .ok (.ireturn, 1) := by decide +kernel
theorem dX11_accept_0 : decode cX11_accept 0 = .ok (.aload_n 0, 1) := by decide +kernel
theorem dX11_accept_1 : decode cX11_accept 1 = .ok (.iconst 0, 1) := by decide +kernel
theorem dX11_accept_2 : decode cX11_accept 2 = .ok (.putfield 380, 3) := by decide +kernel
theorem dX11_accept_5 : decode cX11_accept 5 = .ok (.aload_n 0, 1) := by decide +kernel
theorem dX11_accept_6 : decode cX11_accept 6 = .ok (.iconst (-1), 1) := by decide +kernel
theorem dX11_accept_7 : decode cX11_accept 7 = .ok (.putfield 43, 3) := by decide +kernel
theorem dX11_accept_10 : decode cX11_accept 10 = .ok (.iload_n 1, 1) := by decide +kernel
theorem dX11_accept_11 : decode cX11_accept 11 = .ok (.ireturn, 1) := by decide +kernel
theorem dX11_refuse_0 : decode cX11_refuse 0 = .ok (.aload_n 0, 1) := by decide +kernel
theorem dX11_refuse_1 : decode cX11_refuse 1 = .ok (.iload_n 1, 1) := by decide +kernel
theorem dX11_refuse_2 : decode cX11_refuse 2 = .ok (.iconst (-1), 1) := by decide +kernel
theorem dX11_refuse_3 : decode cX11_refuse 3 = .ok (.invokevirtual 275, 3) := by decide +kernel
theorem dX11_refuse_6 : decode cX11_refuse 6 = .ok (.ireturn, 1) := by decide +kernel
theorem dX11_refuseAt_0 : decode cX11_refuseAt 0 = .ok (.aload_n 0, 1) := by decide +kernel
theorem dX11_refuseAt_1 : decode cX11_refuseAt 1 = .ok (.iload_n 1, 1) := by decide +kernel
theorem dX11_refuseAt_2 : decode cX11_refuseAt 2 = .ok (.putfield 380, 3) := by decide +kernel
theorem dX11_refuseAt_5 : decode cX11_refuseAt 5 = .ok (.aload_n 0, 1) := by decide +kernel
theorem dX11_refuseAt_6 : decode cX11_refuseAt 6 = .ok (.iload_n 2, 1) := by decide +kernel
theorem dX11_refuseAt_7 : decode cX11_refuseAt 7 = .ok (.putfield 43, 3) := by decide +kernel
theorem dX11_refuseAt_10 : decode cX11_refuseAt 10 = .ok (.iconst (-1), 1) := by decide +kernel
theorem dX11_refuseAt_11 : decode cX11_refuseAt 11 = .ok (.ireturn, 1) := by decide +kernel
theorem dX11_houseAt_0 : decode cX11_houseAt 0 = .ok (.iload_n 1, 1) := by decide +kernel
theorem dX11_houseAt_1 : decode cX11_houseAt 1 = .ok (.ifCond .lt 26, 3) := by decide +kernel
theorem dX11_houseAt_4 : decode cX11_houseAt 4 = .ok (.iload_n 1, 1) := by decide +kernel
theorem dX11_houseAt_5 : decode cX11_houseAt 5 = .ok (.aload_n 0, 1) := by decide +kernel
theorem dX11_houseAt_6 : decode cX11_houseAt 6 = .ok (.getfield 51, 3) := by decide +kernel
theorem dX11_houseAt_9 : decode cX11_houseAt 9 = .ok (.if_icmp .ge 18, 3) := by decide +kernel
theorem dX11_houseAt_12 : decode cX11_houseAt 12 = .ok (.iload_n 1, 1) := by decide +kernel
theorem dX11_houseAt_13 : decode cX11_houseAt 13 = .ok (.bipush 8, 2) := by decide +kernel
theorem dX11_houseAt_15 : decode cX11_houseAt 15 = .ok (.if_icmp .ge 12, 3) := by decide +kernel
theorem dX11_houseAt_18 : decode cX11_houseAt 18 = .ok (.aload_n 0, 1) := by decide +kernel
theorem dX11_houseAt_19 : decode cX11_houseAt 19 = .ok (.getfield 11, 3) := by decide +kernel
theorem dX11_houseAt_22 : decode cX11_houseAt 22 = .ok (.iload_n 1, 1) := by decide +kernel
theorem dX11_houseAt_23 : decode cX11_houseAt 23 = .ok (.aaload, 1) := by decide +kernel
theorem dX11_houseAt_24 : decode cX11_houseAt 24 = .ok (.goto 4, 3) := by decide +kernel
theorem dX11_houseAt_27 : decode cX11_houseAt 27 = .ok (.aconst_null, 1) := by decide +kernel
theorem dX11_houseAt_28 : decode cX11_houseAt 28 = .ok (.areturn, 1) := by decide +kernel
theorem dX11_partnerAt_0 : decode cX11_partnerAt 0 = .ok (.iload_n 1, 1) := by decide +kernel
theorem dX11_partnerAt_1 : decode cX11_partnerAt 1 = .ok (.ifCond .lt 26, 3) := by decide +kernel
theorem dX11_partnerAt_4 : decode cX11_partnerAt 4 = .ok (.iload_n 1, 1) := by decide +kernel
theorem dX11_partnerAt_5 : decode cX11_partnerAt 5 = .ok (.aload_n 0, 1) := by decide +kernel
theorem dX11_partnerAt_6 : decode cX11_partnerAt 6 = .ok (.getfield 69, 3) := by decide +kernel
theorem dX11_partnerAt_9 : decode cX11_partnerAt 9 = .ok (.if_icmp .ge 18, 3) := by decide +kernel
theorem dX11_partnerAt_12 : decode cX11_partnerAt 12 = .ok (.iload_n 1, 1) := by decide +kernel
theorem dX11_partnerAt_13 : decode cX11_partnerAt 13 = .ok (.bipush 40, 2) := by decide +kernel
theorem dX11_partnerAt_15 : decode cX11_partnerAt 15 = .ok (.if_icmp .ge 12, 3) := by decide +kernel
theorem dX11_partnerAt_18 : decode cX11_partnerAt 18 = .ok (.aload_n 0, 1) := by decide +kernel
theorem dX11_partnerAt_19 : decode cX11_partnerAt 19 = .ok (.getfield 17, 3) := by decide +kernel
theorem dX11_partnerAt_22 : decode cX11_partnerAt 22 = .ok (.iload_n 1, 1) := by decide +kernel
theorem dX11_partnerAt_23 : decode cX11_partnerAt 23 = .ok (.aaload, 1) := by decide +kernel
theorem dX11_partnerAt_24 : decode cX11_partnerAt 24 = .ok (.goto 4, 3) := by decide +kernel
theorem dX11_partnerAt_27 : decode cX11_partnerAt 27 = .ok (.aconst_null, 1) := by decide +kernel
theorem dX11_partnerAt_28 : decode cX11_partnerAt 28 = .ok (.areturn, 1) := by decide +kernel
theorem dX11_enter_0 : decode cX11_enter 0 = .ok (.aload_n 0, 1) := by decide +kernel
theorem dX11_enter_1 : decode cX11_enter 1 = .ok (.iload_n 1, 1) := by decide +kernel
theorem dX11_enter_2 : decode cX11_enter 2 = .ok (.invokevirtual 65, 3) := by decide +kernel
theorem dX11_enter_5 : decode cX11_enter 5 = .ok (.astore 5, 2) := by decide +kernel
theorem dX11_enter_7 : decode cX11_enter 7 = .ok (.aload 5, 2) := by decide +kernel
theorem dX11_enter_9 : decode cX11_enter 9 = .ok (.ifnonnull 9, 3) := by decide +kernel
theorem dX11_enter_12 : decode cX11_enter 12 = .ok (.aload_n 0, 1) := by decide +kernel
theorem dX11_enter_13 : decode cX11_enter 13 = .ok (.iconst 1, 1) := by decide +kernel
theorem dX11_enter_14 : decode cX11_enter 14 = .ok (.invokevirtual 47, 3) := by decide +kernel
theorem dX11_enter_17 : decode cX11_enter 17 = .ok (.ireturn, 1) := by decide +kernel
theorem dX11_enter_18 : decode cX11_enter 18 = .ok (.iload_n 3, 1) := by decide +kernel
theorem dX11_enter_19 : decode cX11_enter 19 = .ok (.invokestatic 220, 3) := by decide +kernel
theorem dX11_enter_22 : decode cX11_enter 22 = .ok (.ifCond .ne 9, 3) := by decide +kernel
theorem dX11_enter_25 : decode cX11_enter 25 = .ok (.aload_n 0, 1) := by decide +kernel
theorem dX11_enter_26 : decode cX11_enter 26 = .ok (.iconst 2, 1) := by decide +kernel
theorem dX11_enter_27 : decode cX11_enter 27 = .ok (.invokevirtual 47, 3) := by decide +kernel
theorem dX11_enter_30 : decode cX11_enter 30 = .ok (.ireturn, 1) := by decide +kernel
theorem dX11_enter_31 : decode cX11_enter 31 = .ok (.aload 5, 2) := by decide +kernel
theorem dX11_enter_33 : decode cX11_enter 33 = .ok (.iload_n 2, 1) := by decide +kernel
theorem dX11_enter_34 : decode cX11_enter 34 = .ok (.invokevirtual 103, 3) := by decide +kernel
theorem dX11_enter_37 : decode cX11_enter 37 = .ok (.ifCond .ne 9, 3) := by decide +kernel
theorem dX11_enter_40 : decode cX11_enter 40 = .ok (.aload_n 0, 1) := by decide +kernel
theorem dX11_enter_41 : decode cX11_enter 41 = .ok (.iconst 3, 1) := by decide +kernel
theorem dX11_enter_42 : decode cX11_enter 42 = .ok (.invokevirtual 47, 3) := by decide +kernel
theorem dX11_enter_45 : decode cX11_enter 45 = .ok (.ireturn, 1) := by decide +kernel
theorem dX11_enter_46 : decode cX11_enter 46 = .ok (.aload 5, 2) := by decide +kernel
theorem dX11_enter_48 : decode cX11_enter 48 = .ok (.iload_n 2, 1) := by decide +kernel
theorem dX11_enter_49 : decode cX11_enter 49 = .ok (.invokevirtual 196, 3) := by decide +kernel
theorem dX11_enter_52 : decode cX11_enter 52 = .ok (.astore 6, 2) := by decide +kernel
theorem dX11_enter_54 : decode cX11_enter 54 = .ok (.aload 6, 2) := by decide +kernel
theorem dX11_enter_56 : decode cX11_enter 56 = .ok (.ifnull 11, 3) := by decide +kernel
theorem dX11_enter_59 : decode cX11_enter 59 = .ok (.aload 6, 2) := by decide +kernel
theorem dX11_enter_61 : decode cX11_enter 61 = .ok (.invokevirtual 383, 3) := by decide +kernel
theorem dX11_enter_64 : decode cX11_enter 64 = .ok (.ifCond .ne 10, 3) := by decide +kernel
theorem dX11_enter_67 : decode cX11_enter 67 = .ok (.aload_n 0, 1) := by decide +kernel
theorem dX11_enter_68 : decode cX11_enter 68 = .ok (.bipush 10, 2) := by decide +kernel
theorem dX11_enter_70 : decode cX11_enter 70 = .ok (.invokevirtual 47, 3) := by decide +kernel
theorem dX11_enter_73 : decode cX11_enter 73 = .ok (.ireturn, 1) := by decide +kernel
theorem dX11_enter_74 : decode cX11_enter 74 = .ok (.iload 4, 2) := by decide +kernel
theorem dX11_enter_76 : decode cX11_enter 76 = .ok (.iload_n 3, 1) := by decide +kernel
theorem dX11_enter_77 : decode cX11_enter 77 = .ok (.imul, 1) := by decide +kernel
theorem dX11_enter_78 : decode cX11_enter 78 = .ok (.istore 7, 2) := by decide +kernel
theorem dX11_enter_80 : decode cX11_enter 80 = .ok (.aload 6, 2) := by decide +kernel
theorem dX11_enter_82 : decode cX11_enter 82 = .ok (.iload 7, 2) := by decide +kernel
theorem dX11_enter_84 : decode cX11_enter 84 = .ok (.invokevirtual 386, 3) := by decide +kernel
theorem dX11_enter_87 : decode cX11_enter 87 = .ok (.ifCond .ne 9, 3) := by decide +kernel
theorem dX11_enter_90 : decode cX11_enter 90 = .ok (.aload_n 0, 1) := by decide +kernel
theorem dX11_enter_91 : decode cX11_enter 91 = .ok (.iconst 2, 1) := by decide +kernel
theorem dX11_enter_92 : decode cX11_enter 92 = .ok (.invokevirtual 47, 3) := by decide +kernel
theorem dX11_enter_95 : decode cX11_enter 95 = .ok (.ireturn, 1) := by decide +kernel
theorem dX11_enter_96 : decode cX11_enter 96 = .ok (.aload 6, 2) := by decide +kernel
theorem dX11_enter_98 : decode cX11_enter 98 = .ok (.iload 7, 2) := by decide +kernel
theorem dX11_enter_100 : decode cX11_enter 100 = .ok (.invokevirtual 389, 3) := by decide +kernel
theorem dX11_enter_103 : decode cX11_enter 103 = .ok (.aload 5, 2) := by decide +kernel
theorem dX11_enter_105 : decode cX11_enter 105 = .ok (.getfield 187, 3) := by decide +kernel
theorem dX11_enter_108 : decode cX11_enter 108 = .ok (.iload_n 2, 1) := by decide +kernel
theorem dX11_enter_109 : decode cX11_enter 109 = .ok (.invokevirtual 391, 3) := by decide +kernel
theorem dX11_enter_112 : decode cX11_enter 112 = .ok (.aload_n 0, 1) := by decide +kernel
theorem dX11_enter_113 : decode cX11_enter 113 = .ok (.aload 6, 2) := by decide +kernel
theorem dX11_enter_115 : decode cX11_enter 115 = .ok (.getfield 200, 3) := by decide +kernel
theorem dX11_enter_118 : decode cX11_enter 118 = .ok (.invokevirtual 57, 3) := by decide +kernel
theorem dX11_enter_121 : decode cX11_enter 121 = .ok (.ireturn, 1) := by decide +kernel
theorem wd_330 : Cond.fieldLink RX11 380 RX11 "lastStatus" "I" ∈ lw_good := mem_t1 89 (by decide +kernel) rfl
theorem wd_331 : Cond.fieldLink RX11 43 RX11 "lastWhere" "I" ∈ lw_good := mem_t1 90 (by decide +kernel) rfl
theorem wd_332 : Cond.methodLink RX11 275 yX11_refuseAt ∈ lw_good := mem_t1 122 (by decide +kernel) rfl
theorem wd_333 : Cond.instanceMethod yX11_refuseAt ∈ lw_good := mem_t1 124 (by decide +kernel) rfl
theorem wd_334 : Cond.selects RX11 yX11_refuseAt yX11_refuseAt ∈ lw_good := mem_p 1 (by decide +kernel) rfl
theorem wd_335 : Cond.code yX11_refuseAt cX11_refuseAt 3 (some .int) ∈ lw_good := mem_t1 125 rfl rfl
theorem wd_336 : Cond.fieldLink RX11 51 RX11 "houseCount" "I" ∈ lw_good := mem_t1 81 (by decide +kernel) rfl
theorem wd_337 : Cond.fieldLink RX11 11 RX11 "houses" "[LPartnersBook$House;" ∈ lw_good := mem_t1 80 (by decide +kernel) rfl
theorem wd_338 : Cond.fieldLink RX11 69 RX11 "partnerCount" "I" ∈ lw_good := mem_t1 83 (by decide +kernel) rfl
theorem wd_339 : Cond.fieldLink RX11 17 RX11 "partners" "[LPartnersBook$Partner;" ∈ lw_good := mem_t1 82 (by decide +kernel) rfl
theorem wd_340 : Cond.methodLink RX11 65 yX11_houseAt ∈ lw_good := mem_t2 67 (by decide +kernel) rfl
theorem wd_341 : Cond.instanceMethod yX11_houseAt ∈ lw_good := mem_t2 69 (by decide +kernel) rfl
theorem wd_342 : Cond.selects RX11 yX11_houseAt yX11_houseAt ∈ lw_good := mem_p 3 (by decide +kernel) rfl
theorem wd_343 : Cond.code yX11_houseAt cX11_houseAt 2 (some (.object "PartnersBook$House")) ∈ lw_good := mem_t2 70 rfl rfl
theorem wd_344 : Cond.methodLink RX11 47 yX11_refuse ∈ lw_good := mem_t1 118 (by decide +kernel) rfl
theorem wd_345 : Cond.instanceMethod yX11_refuse ∈ lw_good := mem_t1 120 (by decide +kernel) rfl
theorem wd_346 : Cond.selects RX11 yX11_refuse yX11_refuse ∈ lw_good := mem_p 0 (by decide +kernel) rfl
theorem wd_347 : Cond.code yX11_refuse cX11_refuse 2 (some .int) ∈ lw_good := mem_t1 121 rfl rfl
theorem wd_348 : Cond.methodLink RX11 75 yX11_isSeat ∈ lw_good := mem_t2 101 (by decide +kernel) rfl
theorem wd_349 : Cond.constant RX11 78 1000000 ∈ lw_good := mem_t2 104 (by decide +kernel) rfl
theorem wd_350 : Cond.fieldLink RX11 79 RX2 "letters" "[I" ∈ lw_good := mem_t1 223 (by decide +kernel) rfl
theorem wd_351 : Cond.methodLink RX11 82 yX2_sitting ∈ lw_good := mem_t2 105 (by decide +kernel) rfl
theorem wd_352 : Cond.instanceMethod yX2_sitting ∈ lw_good := mem_t2 106 (by decide +kernel) rfl
theorem wd_353 : Cond.selects RX2 yX2_sitting yX2_sitting ∈ lw_good := mem_t2 107 (by decide +kernel) rfl
theorem wd_354 : Cond.code yX2_sitting cX2_sitting 3 (some (.object "PartnersBook$Tenure")) ∈ lw_good := mem_t2 108 rfl rfl
theorem wd_355 : Cond.fieldLink RX11 86 RX2 "held" "[LPartnersBook$Tenure;" ∈ lw_good := mem_t1 225 (by decide +kernel) rfl
theorem wd_356 : Cond.methodLink RX11 57 yX11_accept ∈ lw_good := mem_t2 55 (by decide +kernel) rfl
theorem wd_357 : Cond.instanceMethod yX11_accept ∈ lw_good := mem_t2 57 (by decide +kernel) rfl
theorem wd_358 : Cond.selects RX11 yX11_accept yX11_accept ∈ lw_good := mem_p 2 (by decide +kernel) rfl
theorem wd_359 : Cond.code yX11_accept cX11_accept 2 (some .int) ∈ lw_good := mem_t2 58 rfl rfl
theorem wd_360 : Cond.methodLink RX11 90 yX9_hasEnded ∈ lw_good := mem_t2 122 (by decide +kernel) rfl
theorem wd_361 : Cond.methodLink RX11 103 yX2_isFree ∈ lw_good := mem_t2 135 (by decide +kernel) rfl
theorem wd_362 : Cond.instanceMethod yX2_isFree ∈ lw_good := mem_t2 136 (by decide +kernel) rfl
theorem wd_363 : Cond.selects RX2 yX2_isFree yX2_isFree ∈ lw_good := mem_t2 137 (by decide +kernel) rfl
theorem wd_364 : Cond.code yX2_isFree cX2_isFree 2 (some .boolean) ∈ lw_good := mem_t2 138 rfl rfl
theorem wd_365 : Cond.fieldLink RX11 128 RX9 "begin" "I" ∈ lw_good := mem_t2 197 (by decide +kernel) rfl
theorem wd_366 : Cond.methodLink RX11 131 yX9_finish ∈ lw_good := mem_t3 21 (by decide +kernel) rfl
theorem wd_367 : Cond.instanceMethod yX9_finish ∈ lw_good := mem_t3 22 (by decide +kernel) rfl
theorem wd_368 : Cond.selects RX9 yX9_finish yX9_finish ∈ lw_good := mem_t3 23 (by decide +kernel) rfl
theorem wd_369 : Cond.code yX9_finish cX9_finish 4 none ∈ lw_good := mem_t3 24 rfl rfl
theorem wd_370 : Cond.fieldLink RX11 135 RX9 "number" "I" ∈ lw_good := mem_t2 187 (by decide +kernel) rfl
theorem wd_371 : Cond.fieldLink RX11 31 RX11 "ring" "LPartnersBook$Ring;" ∈ lw_good := mem_t1 85 (by decide +kernel) rfl
theorem wd_372 : Cond.methodLink RX11 146 yX5_houseAtStep ∈ lw_good := mem_t3 34 (by decide +kernel) rfl
theorem wd_373 : Cond.instanceMethod yX5_houseAtStep ∈ lw_good := mem_t3 35 (by decide +kernel) rfl
theorem wd_374 : Cond.selects RX5 yX5_houseAtStep yX5_houseAtStep ∈ lw_good := mem_t3 36 (by decide +kernel) rfl
theorem wd_375 : Cond.code yX5_houseAtStep cX5_houseAtStep 2 (some .int) ∈ lw_good := mem_t3 37 rfl rfl
theorem wd_376 : Cond.methodLink RX11 196 yX2_leafOn ∈ lw_good := mem_t3 111 (by decide +kernel) rfl
theorem wd_377 : Cond.fieldLink RX11 178 RX2 "leaves" "[LPartnersBook$Leaf;" ∈ lw_good := mem_t1 235 (by decide +kernel) rfl
theorem wd_378 : Cond.fieldLink RX11 187 RX2 "undos" "LPartnersBook$UndoLog;" ∈ lw_good := mem_t2 11 (by decide +kernel) rfl
theorem wd_379 : Cond.methodLink RX11 191 yX10_clear ∈ lw_good := mem_t3 103 (by decide +kernel) rfl
theorem wd_380 : Cond.instanceMethod yX10_clear ∈ lw_good := mem_t3 104 (by decide +kernel) rfl
theorem wd_381 : Cond.selects RX10 yX10_clear yX10_clear ∈ lw_good := mem_t3 105 (by decide +kernel) rfl
theorem wd_382 : Cond.code yX10_clear cX10_clear 1 none ∈ lw_good := mem_t3 106 rfl rfl
theorem wd_383 : Cond.fieldLink RX11 200 RX3 "count" "I" ∈ lw_good := mem_t3 95 (by decide +kernel) rfl
theorem wd_384 : Cond.methodLink RX11 220 yX11_isSum ∈ lw_good := mem_t3 123 (by decide +kernel) rfl
theorem wd_385 : Cond.static yX11_isSum ∈ lw_good := mem_t3 124 (by decide +kernel) rfl
theorem wd_386 : Cond.code yX11_isSum cX11_isSum 1 (some .boolean) ∈ lw_good := mem_t3 125 rfl rfl
theorem wd_387 : Cond.methodLink RX11 383 yX3_lacksEntries ∈ lw_good := mem_t3 126 (by decide +kernel) rfl
theorem wd_388 : Cond.methodLink RX11 386 yX3_canHold ∈ lw_good := mem_t3 130 (by decide +kernel) rfl
theorem wd_389 : Cond.instanceMethod yX3_canHold ∈ lw_good := mem_t3 131 (by decide +kernel) rfl
theorem wd_390 : Cond.selects RX3 yX3_canHold yX3_canHold ∈ lw_good := mem_t3 132 (by decide +kernel) rfl
theorem wd_391 : Cond.code yX3_canHold cX3_canHold 2 (some .boolean) ∈ lw_good := mem_t3 133 rfl rfl
theorem wd_392 : Cond.methodLink RX11 389 yX3_append ∈ lw_good := mem_t3 134 (by decide +kernel) rfl
theorem wd_393 : Cond.instanceMethod yX3_append ∈ lw_good := mem_t3 135 (by decide +kernel) rfl
theorem wd_394 : Cond.selects RX3 yX3_append yX3_append ∈ lw_good := mem_t3 136 (by decide +kernel) rfl
theorem wd_395 : Cond.code yX3_append cX3_append 2 none ∈ lw_good := mem_t3 137 rfl rfl
theorem wd_396 : Cond.methodLink RX11 391 yX10_noteEntry ∈ lw_good := mem_t3 139 (by decide +kernel) rfl
theorem wd_397 : Cond.methodLink RX11 203 yX11_enter ∈ lw_good := mem_t3 119 (by decide +kernel) rfl
theorem wd_398 : Cond.instanceMethod yX11_enter ∈ lw_good := mem_t3 121 (by decide +kernel) rfl
theorem wd_399 : Cond.selects RX11 yX11_enter yX11_enter ∈ lw_good := mem_p 8 (by decide +kernel) rfl
theorem wd_400 : Cond.code yX11_enter cX11_enter 8 (some .int) ∈ lw_good := mem_t3 122 rfl rfl
theorem wd_401 : Cond.constant RX11 207 (-1000000000) ∈ lw_good := mem_t3 155 (by decide +kernel) rfl
theorem wd_402 : Cond.fieldLink RX11 208 RX2 "looseSum" "J" ∈ lw_good := mem_t2 0 (by decide +kernel) rfl
theorem wd_403 : Cond.methodLink RX11 212 Lib.MathLoose.abs_long.x ∈ lw_good := mem_t3 156 (by decide +kernel) rfl
theorem wd_404 : Cond.constantLong RX11 218 1000000000000 ∈ lw_good := mem_t3 159 (by decide +kernel) rfl
theorem wd_405 : Cond.methodLink RX11 139 yX2_tenureAt ∈ lw_good := mem_t3 29 (by decide +kernel) rfl
theorem wd_406 : Cond.methodLink RX11 223 yX9_isIn ∈ lw_good := mem_t3 164 (by decide +kernel) rfl
theorem wd_407 : Cond.fieldLink RX11 226 RX2 "moves" "LPartnersBook$DaySums;" ∈ lw_good := mem_t2 5 (by decide +kernel) rfl
theorem wd_408 : Cond.methodLink RX11 230 yX1_isFull ∈ lw_good := mem_t3 168 (by decide +kernel) rfl
theorem wd_409 : Cond.methodLink RX11 235 yX1_append ∈ lw_good := mem_t3 172 (by decide +kernel) rfl
theorem wd_410 : Cond.instanceMethod yX1_append ∈ lw_good := mem_t3 173 (by decide +kernel) rfl
theorem wd_411 : Cond.selects RX1 yX1_append yX1_append ∈ lw_good := mem_t3 174 (by decide +kernel) rfl
theorem wd_412 : Cond.code yX1_append cX1_append 4 none ∈ lw_good := mem_t3 175 rfl rfl
theorem wd_413 : Cond.methodLink RX11 239 yX10_noteMove ∈ lw_good := mem_t3 177 (by decide +kernel) rfl
theorem wd_414 : Cond.instanceMethod yX10_noteMove ∈ lw_good := mem_t3 178 (by decide +kernel) rfl
theorem wd_415 : Cond.selects RX10 yX10_noteMove yX10_noteMove ∈ lw_good := mem_t3 179 (by decide +kernel) rfl
theorem wd_416 : Cond.code yX10_noteMove cX10_noteMove 1 none ∈ lw_good := mem_t3 180 rfl rfl
theorem wd_417 : Cond.fieldLink RX11 242 RX1 "count" "I" ∈ lw_good := mem_t1 154 (by decide +kernel) rfl
theorem wd_418 : Cond.fieldLink RX11 243 RX9 "lent" "J" ∈ lw_good := mem_t2 218 (by decide +kernel) rfl
theorem wd_419 : Cond.constantLong RX11 246 1000000000 ∈ lw_good := mem_t3 186 (by decide +kernel) rfl
set_option maxHeartbeats 4000000 in
set_option maxRecDepth 100000 in
theorem k_refuseAt (l : Launch) (D : va_G) (sz : Nat) (xa : Nat) (x0 : Nat) (x1 : Int32) (x2 : Nat) (x3 : Int32) (x4 : Nat) (x5 : Nat) (x6 : Nat) (x7 : Int32) (x8 : Nat) (x9 : Int32) (x10 : Int32) (k1 : Int32) (k2 : Int32) : Met l yX11_refuseAt (wsM yX11_refuseAt cX11_refuseAt 3 (some .int)) ({ frames := 0, cells := 0, slots := 0, locals := 0 }) (va_Pc [.ref xa, .int k1, .int k2] (Pr D [(xa, (b11_1 x0 x1 x2 x3 x4 x5 x6 x7 x8 x9 x10))] [] sz)) (va_Qi (fun (r : Int32) (_ : Unit) => r = (-1)) (fun _ t => Po D [(xa, (b11_1 x0 x1 x2 x3 x4 x5 x6 x7 x8 k1 k2))] [] (va_A [(xa, (b11_1 x0 x1 x2 x3 x4 x5 x6 x7 x8 x9 x10))] sz) t) (va_A [(xa, (b11_1 x0 x1 x2 x3 x4 x5 x6 x7 x8 x9 x10))] sz)) 0 0 (va_A [(xa, (b11_1 x0 x1 x2 x3 x4 x5 x6 x7 x8 x9 x10))] sz) := by
  refine Met.ofW (cc := cX11_refuseAt) (maxL := 3) (ret := (some .int)) (by decide) rfl ?_
  intro p e s m args below meth c s₁ B hml hv
  obtain ⟨rfl, hsz, hP, hK, hD0, hN⟩ := hv
  have hx := B.exec
  have hb := B.bytes
  have hr := B.returns
  have hts := atoms_spec (ws := (wsM yX11_refuseAt cX11_refuseAt 3 (some .int))) B.pre
  have hg : ∀ w ∈ lw_good, w.before _ s = true := fun w h => hts w (List.mem_cons_of_mem _ h)
  have hown : s.vm.findClass RX11 = some m.cls := findClass_of_methodNamed B.named
  have hlocks := B.notSynchronized
  subst hsz
  have hD := hD0.self (sz := s.heap.size)
  generalize hAe : va_A [(xa, (b11_1 x0 x1 x2 x3 x4 x5 x6 x7 x8 x9 x10))] s.heap.size = A at hD ⊢
  have hA : ∀ q : Nat, s.heap.size ≤ q → A q := fun q h => by rw [← hAe]; exact Or.inr h
  have hS : va_S A s.heap s.heap [] := va_S.rf
  have hP : va_P D vwCl [(xa, (b11_1 x0 x1 x2 x3 x4 x5 x6 x7 x8 x9 x10))] s.heap := hP
  have hl := lv_entry ([.ref xa, .int k1, .int k2]) (n := 3) (Nat.le_of_ble_eq_true rfl)
  rw [lg_entry_eq]
  generalize (lg_sl ([.ref xa, .int k1, .int k2]) ++ List.replicate (3 - (lg_sl ([.ref xa, .int k1, .int k2])).length) Slot.unset).toArray = ls at hl ⊢
  have hl : lv_has ls 3 [(0, .ref xa), (1, .int k1), (2, .int k2)] := hl
  refine lv_aload_n hx hb dX11_refuseAt_0 rfl (lv_at hl 0 rfl) ?_
  refine lv_iload_n hx hb dX11_refuseAt_1 rfl (lv_at hl 1 rfl) ?_
  refine va_put (D := D) (ci := 11) (v := .int k1) (ty := .int) (C := RX11) (T := TX11) (N := 11) hx hb hg inG11 tyX11 tyX11_ok nmX11 hown hK hP hD hS 0 rfl rfl 9 (by decide) (hg _ wd_330) (fun _ h9 => h9) rfl (by decide +kernel) rfl rfl (Nat.le_of_ble_eq_true rfl) dX11_refuseAt_2 (fun H_1 locs hP hD hS => ?_)
  have hP : va_P D vwCl [(xa, (b11_1 x0 x1 x2 x3 x4 x5 x6 x7 x8 k1 x10))] H_1 := hP
  have hD : va_D A [(xa, (b11_1 x0 x1 x2 x3 x4 x5 x6 x7 x8 k1 x10))] := hD
  refine lv_aload_n hx hb dX11_refuseAt_5 rfl (lv_at hl 0 rfl) ?_
  refine lv_iload_n hx hb dX11_refuseAt_6 rfl (lv_at hl 2 rfl) ?_
  refine va_put (D := D) (ci := 11) (v := .int k2) (ty := .int) (C := RX11) (T := TX11) (N := 11) hx hb hg inG11 tyX11 tyX11_ok nmX11 hown hK hP hD hS 0 rfl rfl 10 (by decide) (hg _ wd_331) (fun _ h9 => h9) rfl (by decide +kernel) rfl rfl (Nat.le_of_ble_eq_true rfl) dX11_refuseAt_7 (fun H_2 locs hP hD hS => ?_)
  have hP : va_P D vwCl [(xa, (b11_1 x0 x1 x2 x3 x4 x5 x6 x7 x8 k1 k2))] H_2 := hP
  have hD : va_D A [(xa, (b11_1 x0 x1 x2 x3 x4 x5 x6 x7 x8 k1 k2))] := hD
  refine lv_iconst (v := (-1)) hx hb dX11_refuseAt_10 (by decide) ?_
  have hP9 := hP.sub (ws' := [(xa, (b11_1 x0 x1 x2 x3 x4 x5 x6 x7 x8 k1 k2))]) [0] rfl
  have hD9 := hD.sub (ws' := [(xa, (b11_1 x0 x1 x2 x3 x4 x5 x6 x7 x8 k1 k2))]) [0] (by decide) rfl
  have hK9 := hK.sub (tys' := []) [] rfl
  exact W.iret (v := (-1)) hx hb hr (fun t ht hW => ⟨⟨(-1), (), rfl, rfl, ⟨by rw [ht]; exact hP9, va_K.moved hW.alike hK9, hD9⟩⟩, hS.F ht⟩) hS.2.2 dX11_refuseAt_11
set_option maxHeartbeats 4000000 in
set_option maxRecDepth 100000 in
theorem k_refuse (l : Launch) (D : va_G) (sz : Nat) (xa : Nat) (x0 : Nat) (x1 : Int32) (x2 : Nat) (x3 : Int32) (x4 : Nat) (x5 : Nat) (x6 : Nat) (x7 : Int32) (x8 : Nat) (x9 : Int32) (x10 : Int32) (k1 : Int32) : Met l yX11_refuse (wsM yX11_refuse cX11_refuse 2 (some .int)) ({ frames := 1, cells := 0, slots := 0, locals := 22 }) (va_Pc [.ref xa, .int k1] (Pr D [(xa, (b11_1 x0 x1 x2 x3 x4 x5 x6 x7 x8 x9 x10))] [] sz)) (va_Qi (fun (r : Int32) (_ : Unit) => r = (-1)) (fun _ t => Po D [(xa, (b11_1 x0 x1 x2 x3 x4 x5 x6 x7 x8 k1 (-1)))] [] (va_A [(xa, (b11_1 x0 x1 x2 x3 x4 x5 x6 x7 x8 x9 x10))] sz) t) (va_A [(xa, (b11_1 x0 x1 x2 x3 x4 x5 x6 x7 x8 x9 x10))] sz)) 0 0 (va_A [(xa, (b11_1 x0 x1 x2 x3 x4 x5 x6 x7 x8 x9 x10))] sz) := by
  refine Met.ofW (cc := cX11_refuse) (maxL := 2) (ret := (some .int)) (by decide) rfl ?_
  intro p e s m args below meth c s₁ B hml hv
  obtain ⟨rfl, hsz, hP, hK, hD0, hN⟩ := hv
  have hx := B.exec
  have hb := B.bytes
  have hr := B.returns
  have hts := atoms_spec (ws := (wsM yX11_refuse cX11_refuse 2 (some .int))) B.pre
  have hg : ∀ w ∈ lw_good, w.before _ s = true := fun w h => hts w (List.mem_cons_of_mem _ h)
  have hown : s.vm.findClass RX11 = some m.cls := findClass_of_methodNamed B.named
  have hlocks := B.notSynchronized
  subst hsz
  have hD := hD0.self (sz := s.heap.size)
  generalize hAe : va_A [(xa, (b11_1 x0 x1 x2 x3 x4 x5 x6 x7 x8 x9 x10))] s.heap.size = A at hD ⊢
  have hA : ∀ q : Nat, s.heap.size ≤ q → A q := fun q h => by rw [← hAe]; exact Or.inr h
  have hS : va_S A s.heap s.heap [] := va_S.rf
  have hP : va_P D vwCl [(xa, (b11_1 x0 x1 x2 x3 x4 x5 x6 x7 x8 x9 x10))] s.heap := hP
  have hl := lv_entry ([.ref xa, .int k1]) (n := 2) (Nat.le_of_ble_eq_true rfl)
  rw [lg_entry_eq]
  generalize (lg_sl ([.ref xa, .int k1]) ++ List.replicate (2 - (lg_sl ([.ref xa, .int k1])).length) Slot.unset).toArray = ls at hl ⊢
  have hl : lv_has ls 2 [(0, .ref xa), (1, .int k1)] := hl
  refine lv_aload_n hx hb dX11_refuse_0 rfl (lv_at hl 0 rfl) ?_
  refine lv_iload_n hx hb dX11_refuse_1 rfl (lv_at hl 1 rfl) ?_
  refine lv_iconst (v := (-1)) hx hb dX11_refuse_2 (by decide) ?_
  have hPc := hP.sub (ws' := [(xa, (b11_1 x0 x1 x2 x3 x4 x5 x6 x7 x8 x9 x10))]) [0] rfl
  have hDc := hD.sub (ws' := [(xa, (b11_1 x0 x1 x2 x3 x4 x5 x6 x7 x8 x9 x10))]) [0] (by decide) rfl
  have hKc := hK.sub (tys' := []) [] rfl
  have hFc := va_free (wc := [(xa, (b11_1 x0 x1 x2 x3 x4 x5 x6 x7 x8 x9 x10))]) hD hS hA [0] rfl
  refine va_calli (va_runV (As := [.int k1, .int (-1)]) (rest := []) ⟨hx, hb, hml, hown, hg⟩ (k_refuseAt l D s.heap.size xa x0 x1 x2 x3 x4 x5 x6 x7 x8 x9 x10 k1 (-1)) (cwV 2 hg (gV wd_332 wd_333 wd_334 wd_3 wd_335) rfl rfl rfl (by decide +kernel) ⟨(Nat.le_of_ble_eq_true rfl), (Nat.le_of_ble_eq_true rfl)⟩) ⟨Pr.blind, va_recv hKc hPc (ci := 11) (q0 := 0) rfl rfl, fun U hU hW => ⟨rfl, Pr.at hPc hKc hDc hN hU hW⟩⟩ rfl rfl hl.1 rfl (lv_room (Nat.le_of_ble_eq_true rfl)) dX11_refuse_3 ⟨(Nat.le_of_ble_eq_true rfl), (Nat.le_of_ble_eq_true rfl)⟩) hS (fun q _ h => hFc q h) hFc (fun r_2 u t H_1 locs ht hvm hw hB hz1 hk1 hS => ?_)
  obtain ⟨hP1, hK1, hD1⟩ := hB
  rw [ht] at hP1
  have hK1 := va_K.moved hvm.symm hK1
  obtain ⟨hP, hD⟩ := va_join (wr := []) (w1 := [(xa, (b11_1 x0 x1 x2 x3 x4 x5 x6 x7 x8 k1 (-1)))]) hP hD [0] [] rfl rfl (by decide) (by decide) hk1 hFc hP1 hD1
  have hP : va_P D vwCl [(xa, (b11_1 x0 x1 x2 x3 x4 x5 x6 x7 x8 k1 (-1)))] H_1 := hP
  have hD : va_D A [(xa, (b11_1 x0 x1 x2 x3 x4 x5 x6 x7 x8 k1 (-1)))] := hD
  subst hw
  have hP9 := hP.sub (ws' := [(xa, (b11_1 x0 x1 x2 x3 x4 x5 x6 x7 x8 k1 (-1)))]) [0] rfl
  have hD9 := hD.sub (ws' := [(xa, (b11_1 x0 x1 x2 x3 x4 x5 x6 x7 x8 k1 (-1)))]) [0] (by decide) rfl
  have hK9 := hK.sub (tys' := []) [] rfl
  exact W.iret (v := (-1)) hx hb hr (fun t ht hW => ⟨⟨(-1), (), rfl, rfl, ⟨by rw [ht]; exact hP9, va_K.moved hW.alike hK9, hD9⟩⟩, hS.F ht⟩) hS.2.2 dX11_refuse_6
set_option maxHeartbeats 4000000 in
set_option maxRecDepth 100000 in
theorem k_accept (l : Launch) (D : va_G) (sz : Nat) (xa : Nat) (x0 : Nat) (x1 : Int32) (x2 : Nat) (x3 : Int32) (x4 : Nat) (x5 : Nat) (x6 : Nat) (x7 : Int32) (x8 : Nat) (x9 : Int32) (x10 : Int32) (k1 : Int32) : Met l yX11_accept (wsM yX11_accept cX11_accept 2 (some .int)) ({ frames := 0, cells := 0, slots := 0, locals := 0 }) (va_Pc [.ref xa, .int k1] (Pr D [(xa, (b11_1 x0 x1 x2 x3 x4 x5 x6 x7 x8 x9 x10))] [] sz)) (va_Qi (fun (r : Int32) (_ : Unit) => r = k1) (fun _ t => Po D [(xa, (b11_1 x0 x1 x2 x3 x4 x5 x6 x7 x8 0 (-1)))] [] (va_A [(xa, (b11_1 x0 x1 x2 x3 x4 x5 x6 x7 x8 x9 x10))] sz) t) (va_A [(xa, (b11_1 x0 x1 x2 x3 x4 x5 x6 x7 x8 x9 x10))] sz)) 0 0 (va_A [(xa, (b11_1 x0 x1 x2 x3 x4 x5 x6 x7 x8 x9 x10))] sz) := by
  refine Met.ofW (cc := cX11_accept) (maxL := 2) (ret := (some .int)) (by decide) rfl ?_
  intro p e s m args below meth c s₁ B hml hv
  obtain ⟨rfl, hsz, hP, hK, hD0, hN⟩ := hv
  have hx := B.exec
  have hb := B.bytes
  have hr := B.returns
  have hts := atoms_spec (ws := (wsM yX11_accept cX11_accept 2 (some .int))) B.pre
  have hg : ∀ w ∈ lw_good, w.before _ s = true := fun w h => hts w (List.mem_cons_of_mem _ h)
  have hown : s.vm.findClass RX11 = some m.cls := findClass_of_methodNamed B.named
  have hlocks := B.notSynchronized
  subst hsz
  have hD := hD0.self (sz := s.heap.size)
  generalize hAe : va_A [(xa, (b11_1 x0 x1 x2 x3 x4 x5 x6 x7 x8 x9 x10))] s.heap.size = A at hD ⊢
  have hA : ∀ q : Nat, s.heap.size ≤ q → A q := fun q h => by rw [← hAe]; exact Or.inr h
  have hS : va_S A s.heap s.heap [] := va_S.rf
  have hP : va_P D vwCl [(xa, (b11_1 x0 x1 x2 x3 x4 x5 x6 x7 x8 x9 x10))] s.heap := hP
  have hl := lv_entry ([.ref xa, .int k1]) (n := 2) (Nat.le_of_ble_eq_true rfl)
  rw [lg_entry_eq]
  generalize (lg_sl ([.ref xa, .int k1]) ++ List.replicate (2 - (lg_sl ([.ref xa, .int k1])).length) Slot.unset).toArray = ls at hl ⊢
  have hl : lv_has ls 2 [(0, .ref xa), (1, .int k1)] := hl
  refine lv_aload_n hx hb dX11_accept_0 rfl (lv_at hl 0 rfl) ?_
  refine lv_iconst (v := 0) hx hb dX11_accept_1 (by decide) ?_
  refine va_put (D := D) (ci := 11) (v := .int 0) (ty := .int) (C := RX11) (T := TX11) (N := 11) hx hb hg inG11 tyX11 tyX11_ok nmX11 hown hK hP hD hS 0 rfl rfl 9 (by decide) (hg _ wd_330) (fun _ h9 => h9) rfl (by decide +kernel) rfl rfl (Nat.le_of_ble_eq_true rfl) dX11_accept_2 (fun H_1 locs hP hD hS => ?_)
  have hP : va_P D vwCl [(xa, (b11_1 x0 x1 x2 x3 x4 x5 x6 x7 x8 0 x10))] H_1 := hP
  have hD : va_D A [(xa, (b11_1 x0 x1 x2 x3 x4 x5 x6 x7 x8 0 x10))] := hD
  refine lv_aload_n hx hb dX11_accept_5 rfl (lv_at hl 0 rfl) ?_
  refine lv_iconst (v := (-1)) hx hb dX11_accept_6 (by decide) ?_
  refine va_put (D := D) (ci := 11) (v := .int (-1)) (ty := .int) (C := RX11) (T := TX11) (N := 11) hx hb hg inG11 tyX11 tyX11_ok nmX11 hown hK hP hD hS 0 rfl rfl 10 (by decide) (hg _ wd_331) (fun _ h9 => h9) rfl (by decide +kernel) rfl rfl (Nat.le_of_ble_eq_true rfl) dX11_accept_7 (fun H_2 locs hP hD hS => ?_)
  have hP : va_P D vwCl [(xa, (b11_1 x0 x1 x2 x3 x4 x5 x6 x7 x8 0 (-1)))] H_2 := hP
  have hD : va_D A [(xa, (b11_1 x0 x1 x2 x3 x4 x5 x6 x7 x8 0 (-1)))] := hD
  refine lv_iload_n hx hb dX11_accept_10 rfl (lv_at hl 1 rfl) ?_
  have hP9 := hP.sub (ws' := [(xa, (b11_1 x0 x1 x2 x3 x4 x5 x6 x7 x8 0 (-1)))]) [0] rfl
  have hD9 := hD.sub (ws' := [(xa, (b11_1 x0 x1 x2 x3 x4 x5 x6 x7 x8 0 (-1)))]) [0] (by decide) rfl
  have hK9 := hK.sub (tys' := []) [] rfl
  exact W.iret (v := k1) hx hb hr (fun t ht hW => ⟨⟨k1, (), rfl, rfl, ⟨by rw [ht]; exact hP9, va_K.moved hW.alike hK9, hD9⟩⟩, hS.F ht⟩) hS.2.2 dX11_accept_11
set_option maxHeartbeats 4000000 in
set_option maxRecDepth 100000 in
theorem s_X11_houseAt (l : Launch) (D : va_G) (cy : Nat → ClassId) (K : Kp) (L : List Nat) (M : Hp) (sz : Nat) (xa : Nat) (x0 : Nat) (x1 : Nat) (x2 : Nat) (x3 : Nat) (x4 : Nat) (x5 : Nat) (x6 : Nat) (x7 : Int32) (x8 : Nat) (x9 : Int32) (x10 : Int32) (k1 : Int32) (hW : WOK cy K L M) (i0 : isk K L x0 17 8) (b1 : x1 ≤ 8) (i2 : isk K L x2 19 40) (b3 : x3 ≤ 40) (i4 : isk K L x4 7 0) (i5 : isk K L x5 5 0) (i6 : isk K L x6 60 24) (i8 : isk K L x8 73 25) : Met l yX11_houseAt (wsM yX11_houseAt cX11_houseAt 2 (some (.object "PartnersBook$House"))) ({ frames := 0, cells := 0, slots := 0, locals := 0 }) (va_Pc [.ref xa, .int k1] (PG D cy [(xa, (b11_1 x0 (nI x1) x2 (nI x3) x4 x5 x6 x7 x8 x9 x10))] L M sz)) (va_Qq (fun (r : Option Nat) (_ : Unit) => iskN K L r 2 0) (fun _ t => PQ D [(xa, (b11_1 x0 (nI x1) x2 (nI x3) x4 x5 x6 x7 x8 x9 x10))] L M (va_A ([(xa, (b11_1 x0 (nI x1) x2 (nI x3) x4 x5 x6 x7 x8 x9 x10))] ++ va_pl L M) sz) t) (va_A ([(xa, (b11_1 x0 (nI x1) x2 (nI x3) x4 x5 x6 x7 x8 x9 x10))] ++ va_pl L M) sz)) 0 0 (va_A ([(xa, (b11_1 x0 (nI x1) x2 (nI x3) x4 x5 x6 x7 x8 x9 x10))] ++ va_pl L M) sz) := by
  refine Met.ofW (cc := cX11_houseAt) (maxL := 2) (ret := (some (.object "PartnersBook$House"))) (by decide) rfl ?_
  intro p e s m args below meth c s₁ B hml hv
  obtain ⟨rfl, hsz, hP, hK, hD0, hN⟩ := hv
  have hx := B.exec
  have hb := B.bytes
  have hr := B.returns
  have hts := atoms_spec (ws := (wsM yX11_houseAt cX11_houseAt 2 (some (.object "PartnersBook$House")))) B.pre
  have hg : ∀ w ∈ lw_good, w.before _ s = true := fun w h => hts w (List.mem_cons_of_mem _ h)
  have hown : s.vm.findClass RX11 = some m.cls := findClass_of_methodNamed B.named
  have hlocks := B.notSynchronized
  subst hsz
  have hD := hD0.self (sz := s.heap.size)
  generalize hAe : va_A ([(xa, (b11_1 x0 (nI x1) x2 (nI x3) x4 x5 x6 x7 x8 x9 x10))] ++ va_pl L M) s.heap.size = A at hD ⊢
  have hA : ∀ q : Nat, s.heap.size ≤ q → A q := fun q h => by rw [← hAe]; exact Or.inr h
  have hS : va_S A s.heap s.heap [] := va_S.rf
  have hl := lv_entry ([.ref xa, .int k1]) (n := 2) (Nat.le_of_ble_eq_true rfl)
  rw [lg_entry_eq]
  generalize (lg_sl ([.ref xa, .int k1]) ++ List.replicate (2 - (lg_sl ([.ref xa, .int k1])).length) Slot.unset).toArray = ls at hl ⊢
  refine W.nameQ (fun Q hQ => ?_)
  refine W.nameR (fun R hR => ?_)
  have hRf : 0 ≤ R.frames := by rw [hR]; exact Nat.le_of_ble_eq_true rfl
  have hRl : 0 ≤ R.locals := by rw [hR]; exact Nat.le_of_ble_eq_true rfl
  have hRc : 0 ≤ R.cells := by rw [hR]; exact Nat.le_of_ble_eq_true rfl
  have hRs : 0 ≤ R.slots := by rw [hR]; exact Nat.le_of_ble_eq_true rfl
  have hl : lv_has ls 2 [(0, .ref xa), (1, .int k1)] := hl
  refine lv_iload_n hx hb dX11_houseAt_0 rfl (lv_at hl 1 rfl) ?_
  refine lv_if_lt (tgt := 27) hx hb dX11_houseAt_1 (by decide) (fun c_1 => ?_) (fun c_1 => ?_)
  · have hz := rfl (a := 0)
    refine lv_null hx hb dX11_houseAt_27 ?_
    rw [hQ]
    exact W.aret (v := .null) hx hb hr (Or.inl ⟨_, rfl⟩) (Or.inl rfl) (fun t ht hW9 => ⟨⟨none, (), rfl, iskN.none, ⟨by rw [ht]; exact hP, hD⟩⟩, hS.F ht⟩) hS.2.2 dX11_houseAt_28
  · have hz := rfl (a := 0)
    refine lv_iload_n hx hb dX11_houseAt_4 rfl (lv_at hl 1 rfl) ?_
    refine lv_aload_n hx hb dX11_houseAt_5 rfl (lv_at hl 0 rfl) ?_
    refine va_get (D := D) (ci := 11) (v := .int (nI x1)) (C := RX11) (T := TX11) (N := 11) hx hb hg inG11 hown hK hP 0 rfl rfl 1 (by decide) (hg _ wd_336) (fun _ h9 => h9) rfl dX11_houseAt_6 ?_
    refine lv_icmp_ge (tgt := 27) hx hb dX11_houseAt_9 (by decide) (fun c_2 => ?_) (fun c_2 => ?_)
    · have hz := rfl (a := 0)
      refine lv_null hx hb dX11_houseAt_27 ?_
      rw [hQ]
      exact W.aret (v := .null) hx hb hr (Or.inl ⟨_, rfl⟩) (Or.inl rfl) (fun t ht hW9 => ⟨⟨none, (), rfl, iskN.none, ⟨by rw [ht]; exact hP, hD⟩⟩, hS.F ht⟩) hS.2.2 dX11_houseAt_28
    · have hz := rfl (a := 0)
      refine lv_iload_n hx hb dX11_houseAt_12 rfl (lv_at hl 1 rfl) ?_
      refine lv_bipush (v := 8) hx hb dX11_houseAt_13 (by decide) ?_
      refine lv_icmp_ge (tgt := 27) hx hb dX11_houseAt_15 (by decide) (fun c_3 => ?_) (fun c_3 => ?_)
      · have hz := rfl (a := 0)
        refine lv_null hx hb dX11_houseAt_27 ?_
        rw [hQ]
        exact W.aret (v := .null) hx hb hr (Or.inl ⟨_, rfl⟩) (Or.inl rfl) (fun t ht hW9 => ⟨⟨none, (), rfl, iskN.none, ⟨by rw [ht]; exact hP, hD⟩⟩, hS.F ht⟩) hS.2.2 dX11_houseAt_28
      · have hz := rfl (a := 0)
        refine lv_aload_n hx hb dX11_houseAt_18 rfl (lv_at hl 0 rfl) ?_
        refine va_get (D := D) (ci := 11) (v := .ref x0) (C := RX11) (T := TX11) (N := 11) hx hb hg inG11 hown hK hP 0 rfl rfl 0 (by decide) (hg _ wd_337) (fun _ h9 => h9) rfl dX11_houseAt_19 ?_
        refine lv_iload_n hx hb dX11_houseAt_22 rfl (lv_at hl 1 rfl) ?_
        obtain ⟨f4, hM4, hf4⟩ := hW.open_17 i0
        have hi_5 : vp_in k1 8 := (inb k1 8 (by omega) c_1 c_3)
        refine pg_aldq hx hb hK hP i0.1 3 hM4 rfl hi_5 dX11_houseAt_23 ?_
        obtain ⟨q_6, ho_7⟩ : ∃ q : Option Nat, q = f4 (k1 : Int32).toNatClampNeg := ⟨_, rfl⟩
        rw [← ho_7]
        have hq_8 : iskN K L q_6 2 0 := by rw [ho_7]; exact hf4 _ (vp_lt hi_5)
        rcases q_6 with _ | bq_6
        · have hz := rfl (a := 0)
          refine lv_goto (tgt := 28) hx hb dX11_houseAt_24 (by decide) ?_
          rw [hQ]
          exact W.aret (v := .null) hx hb hr (Or.inl ⟨_, rfl⟩) (Or.inl rfl) (fun t ht hW9 => ⟨⟨none, (), rfl, iskN.none, ⟨by rw [ht]; exact hP, hD⟩⟩, hS.F ht⟩) hS.2.2 dX11_houseAt_28
        · have hb_9 := hq_8 bq_6 rfl
          refine lv_goto (tgt := 28) hx hb dX11_houseAt_24 (by decide) ?_
          rw [hQ]
          exact W.aret (v := .ref bq_6) hx hb hr (Or.inl ⟨_, rfl⟩) (Or.inr ⟨_, rfl⟩) (fun t ht hW9 => ⟨⟨(some bq_6), (), rfl, iskN.some hb_9, ⟨by rw [ht]; exact hP, hD⟩⟩, hS.F ht⟩) hS.2.2 dX11_houseAt_28
set_option maxHeartbeats 4000000 in
set_option maxRecDepth 100000 in
theorem s_X11_loose (l : Launch) (D : va_G) (cy : Nat → ClassId) (K : Kp) (L : List Nat) (M : Hp) (sz : Nat) (xa : Nat) (x0 : Nat) (x1 : Nat) (x2 : Nat) (x3 : Nat) (x4 : Nat) (x5 : Nat) (x6 : Nat) (x7 : Int32) (x8 : Nat) (x9 : Int32) (x10 : Int32) (k1 : Int32) (k2 : Int32) (hW : WOK cy K L M) (i0 : isk K L x0 17 8) (b1 : x1 ≤ 8) (i2 : isk K L x2 19 40) (b3 : x3 ≤ 40) (i4 : isk K L x4 7 0) (i5 : isk K L x5 5 0) (i6 : isk K L x6 60 24) (i8 : isk K L x8 73 25) : Met l yX11_loose (wsM yX11_loose cX11_loose 4 (some .int)) ({ frames := 2, cells := 0, slots := 0, locals := 43 }) (va_Pc [.ref xa, .int k1, .int k2] (PG D cy [(xa, (b11_1 x0 (nI x1) x2 (nI x3) x4 x5 x6 x7 x8 x9 x10))] L M sz)) (va_Qi (fun (r : Int32) (M9 : Hp) => WOK cy K L M9 ∧ fr K L [2] M M9 ∧ fT 2 K L [14] M M9 ∧ (True)) (fun M9 t => ∃ (w9 : Int32), PQ D [(xa, (b11_1 x0 (nI x1) x2 (nI x3) x4 x5 x6 x7 x8 w9 (-1)))] L M9 (va_A ([(xa, (b11_1 x0 (nI x1) x2 (nI x3) x4 x5 x6 x7 x8 x9 x10))] ++ va_pl L M) sz) t) (va_A ([(xa, (b11_1 x0 (nI x1) x2 (nI x3) x4 x5 x6 x7 x8 x9 x10))] ++ va_pl L M) sz)) 0 0 (va_A ([(xa, (b11_1 x0 (nI x1) x2 (nI x3) x4 x5 x6 x7 x8 x9 x10))] ++ va_pl L M) sz) := by
  refine Met.ofW (cc := cX11_loose) (maxL := 4) (ret := (some .int)) (by decide) rfl ?_
  intro p e s m args below meth c s₁ B hml hv
  obtain ⟨rfl, hsz, hP, hK, hD0, hN⟩ := hv
  have hx := B.exec
  have hb := B.bytes
  have hr := B.returns
  have hts := atoms_spec (ws := (wsM yX11_loose cX11_loose 4 (some .int))) B.pre
  have hg : ∀ w ∈ lw_good, w.before _ s = true := fun w h => hts w (List.mem_cons_of_mem _ h)
  have hown : s.vm.findClass RX11 = some m.cls := findClass_of_methodNamed B.named
  have hlocks := B.notSynchronized
  subst hsz
  have hD := hD0.self (sz := s.heap.size)
  generalize hAe : va_A ([(xa, (b11_1 x0 (nI x1) x2 (nI x3) x4 x5 x6 x7 x8 x9 x10))] ++ va_pl L M) s.heap.size = A at hD ⊢
  have hA : ∀ q : Nat, s.heap.size ≤ q → A q := fun q h => by rw [← hAe]; exact Or.inr h
  have hS : va_S A s.heap s.heap [] := va_S.rf
  have hl := lv_entry ([.ref xa, .int k1, .int k2]) (n := 4) (Nat.le_of_ble_eq_true rfl)
  rw [lg_entry_eq]
  generalize (lg_sl ([.ref xa, .int k1, .int k2]) ++ List.replicate (4 - (lg_sl ([.ref xa, .int k1, .int k2])).length) Slot.unset).toArray = ls at hl ⊢
  refine W.nameQ (fun Q hQ => ?_)
  refine W.nameR (fun R hR => ?_)
  have hRf : 2 ≤ R.frames := by rw [hR]; exact Nat.le_of_ble_eq_true rfl
  have hRl : 43 ≤ R.locals := by rw [hR]; exact Nat.le_of_ble_eq_true rfl
  have hRc : 0 ≤ R.cells := by rw [hR]; exact Nat.le_of_ble_eq_true rfl
  have hRs : 0 ≤ R.slots := by rw [hR]; exact Nat.le_of_ble_eq_true rfl
  have hF : fr K L [2] M M := fr.rf
  have hT2 : fT 2 K L [14] M M := fT.rf
  have hl : lv_has ls 4 [(0, .ref xa), (1, .int k1), (2, .int k2)] := hl
  refine lv_aload_n hx hb dX11_loose_0 rfl (lv_at hl 0 rfl) ?_
  refine lv_iload_n hx hb dX11_loose_1 rfl (lv_at hl 1 rfl) ?_
  have hPc : va_P D vwCl ([(xa, (b11_1 x0 (nI x1) x2 (nI x3) x4 x5 x6 x7 x8 x9 x10))] ++ va_pl L M) s.heap := hP
  have hDc : va_D A ([(xa, (b11_1 x0 (nI x1) x2 (nI x3) x4 x5 x6 x7 x8 x9 x10))] ++ va_pl L M) := hD
  have hFc : ∀ q, va_A ([(xa, (b11_1 x0 (nI x1) x2 (nI x3) x4 x5 x6 x7 x8 x9 x10))] ++ va_pl L M) s.heap.size q → A q := pg_free hDc hS hA
  refine va_callq (va_runV (As := [.int k1]) (rest := []) ⟨hx, hb, hml, hown, hg⟩ (s_X11_houseAt l D cy K L M s.heap.size xa x0 x1 x2 x3 x4 x5 x6 x7 x8 x9 x10 k1  hW i0 b1 i2 b3 i4 i5 i6 i8) (cwV 1 hg (gV wd_340 wd_341 wd_342 wd_3 wd_343) rfl rfl rfl (by decide +kernel) ⟨(Nat.le_trans (Nat.le_of_ble_eq_true rfl) hRf), (Nat.le_trans (Nat.le_of_ble_eq_true rfl) hRl)⟩) ⟨PG.blind, va_recv hK hP (ci := 11) (q0 := 0) rfl rfl, fun U hU hW => ⟨rfl, PG.at hPc hK hDc hN hU hW⟩⟩ rfl rfl hl.1 rfl (lv_room (Nat.le_of_ble_eq_true rfl)) dX11_loose_2 ⟨(Nat.le_trans (Nat.le_of_ble_eq_true rfl) hRc), (Nat.le_trans (Nat.le_of_ble_eq_true rfl) hRs)⟩) hS (fun q _ h => hFc q h) hFc (fun r_2 M_3 t H_1 locs ht hvm hw hB hz1 hk1 hS => ?_)
  have hp_4 := hw
  obtain ⟨hP1, hD1⟩ := hB
  rw [ht] at hP1
  have hP : va_P D vwCl ([(xa, (b11_1 x0 (nI x1) x2 (nI x3) x4 x5 x6 x7 x8 x9 x10))] ++ va_pl L M) H_1 := hP1
  have hD : va_D A ([(xa, (b11_1 x0 (nI x1) x2 (nI x3) x4 x5 x6 x7 x8 x9 x10))] ++ va_pl L M) := hD1.mono hFc
  rcases r_2 with _ | b_5
  · have hz := rfl (a := 0)
    refine lv_astore_nN (lv' := [(3, .null), (0, .ref xa), (1, .int k1), (2, .int k2)]) hx hb dX11_loose_5 rfl hl (by decide) rfl (fun ls hl => ?_)
    refine lv_aload_nN hx hb dX11_loose_6 rfl (lv_at hl 0 rfl) ?_
    refine lv_ifnonnullN hx hb dX11_loose_7 ?_
    refine lv_aload_n hx hb dX11_loose_10 rfl (lv_at hl 1 rfl) ?_
    refine lv_iconst (v := 1) hx hb dX11_loose_11 (by decide) ?_
    have hPc := hP.sub (ws' := [(xa, (b11_1 x0 (nI x1) x2 (nI x3) x4 x5 x6 x7 x8 x9 x10))]) [0] rfl
    have hDc := hD.sub (ws' := [(xa, (b11_1 x0 (nI x1) x2 (nI x3) x4 x5 x6 x7 x8 x9 x10))]) [0] (by decide) rfl
    have hKc := hK.sub (tys' := []) [] rfl
    have hFc := va_free (wc := [(xa, (b11_1 x0 (nI x1) x2 (nI x3) x4 x5 x6 x7 x8 x9 x10))]) hD hS hA [0] rfl
    refine va_calli (va_runV (As := [.int 1]) (rest := []) ⟨hx, hb, hml, hown, hg⟩ (k_refuse l D H_1.size xa x0 (nI x1) x2 (nI x3) x4 x5 x6 x7 x8 x9 x10 1) (cwV 1 hg (gV wd_344 wd_345 wd_346 wd_3 wd_347) rfl rfl rfl (by decide +kernel) ⟨(Nat.le_trans (Nat.le_of_ble_eq_true rfl) hRf), (Nat.le_trans (Nat.le_of_ble_eq_true rfl) hRl)⟩) ⟨Pr.blind, va_recv hK hP (ci := 11) (q0 := 0) rfl rfl, fun U hU hW => ⟨rfl, Pr.at hPc hKc hDc hN hU hW⟩⟩ rfl rfl hl.1 rfl (lv_room (Nat.le_of_ble_eq_true rfl)) dX11_loose_12 ⟨(Nat.le_trans (Nat.le_of_ble_eq_true rfl) hRc), (Nat.le_trans (Nat.le_of_ble_eq_true rfl) hRs)⟩) hS (fun q _ h => hFc q h) hFc (fun r_7 M_8 t H_6 locs ht hvm hw hB hz1 hk1 hS => ?_)
    have hp_9 := hw
    obtain ⟨hP1, hK1, hD1⟩ := hB
    rw [ht] at hP1
    obtain ⟨hP, hD⟩ := va_joinQ (X := [(xa, (b11_1 x0 (nI x1) x2 (nI x3) x4 x5 x6 x7 x8 x9 x10))]) (cx := [(xa, (b11_1 x0 (nI x1) x2 (nI x3) x4 x5 x6 x7 x8 x9 x10))]) (wr := []) (w1 := [(xa, (b11_1 x0 (nI x1) x2 (nI x3) x4 x5 x6 x7 x8 1 (-1)))]) (pl := va_pl L M) hP hD [0] [] rfl rfl (by decide) (by decide) hk1 hFc hP1 hD1
    have hP : va_P D vwCl ([(xa, (b11_1 x0 (nI x1) x2 (nI x3) x4 x5 x6 x7 x8 1 (-1)))] ++ va_pl L M) H_6 := hP
    have hD : va_D A ([(xa, (b11_1 x0 (nI x1) x2 (nI x3) x4 x5 x6 x7 x8 1 (-1)))] ++ va_pl L M) := hD
    have hq := Eq.symm hp_9
    subst hq
    rw [hQ]
    exact W.iret (v := (-1)) hx hb hr (fun t ht hW9 => ⟨⟨(-1), M, rfl, ⟨hW, hF, hT2, trivial⟩, ⟨1, by rw [ht]; exact hP, hD⟩⟩, hS.F ht⟩) hS.2.2 dX11_loose_15
  · have hb_10 := hp_4 b_5 rfl
    refine lv_astore_n (lv' := [(3, .ref b_5), (0, .ref xa), (1, .int k1), (2, .int k2)]) hx hb dX11_loose_5 rfl hl (by decide) rfl (fun ls hl => ?_)
    refine lv_aload_n hx hb dX11_loose_6 rfl (lv_at hl 0 rfl) ?_
    refine lv_ifnonnull (tgt := 16) hx hb dX11_loose_7 (by decide) ?_
    refine lv_iload_n hx hb dX11_loose_16 rfl (lv_at hl 3 rfl) ?_
    refine lv_ldc (v := (-1000000000)) hx hb hown (hg _ wd_401) dX11_loose_17 ?_
    refine lv_icmp_lt (tgt := 28) hx hb dX11_loose_19 (by decide) (fun c_11 => ?_) (fun c_11 => ?_)
    · have hz := rfl (a := 0)
      refine lv_aload_n hx hb dX11_loose_28 rfl (lv_at hl 1 rfl) ?_
      refine lv_iconst (v := 2) hx hb dX11_loose_29 (by decide) ?_
      have hPc := hP.sub (ws' := [(xa, (b11_1 x0 (nI x1) x2 (nI x3) x4 x5 x6 x7 x8 x9 x10))]) [0] rfl
      have hDc := hD.sub (ws' := [(xa, (b11_1 x0 (nI x1) x2 (nI x3) x4 x5 x6 x7 x8 x9 x10))]) [0] (by decide) rfl
      have hKc := hK.sub (tys' := []) [] rfl
      have hFc := va_free (wc := [(xa, (b11_1 x0 (nI x1) x2 (nI x3) x4 x5 x6 x7 x8 x9 x10))]) hD hS hA [0] rfl
      refine va_calli (va_runV (As := [.int 2]) (rest := []) ⟨hx, hb, hml, hown, hg⟩ (k_refuse l D H_1.size xa x0 (nI x1) x2 (nI x3) x4 x5 x6 x7 x8 x9 x10 2) (cwV 1 hg (gV wd_344 wd_345 wd_346 wd_3 wd_347) rfl rfl rfl (by decide +kernel) ⟨(Nat.le_trans (Nat.le_of_ble_eq_true rfl) hRf), (Nat.le_trans (Nat.le_of_ble_eq_true rfl) hRl)⟩) ⟨Pr.blind, va_recv hK hP (ci := 11) (q0 := 0) rfl rfl, fun U hU hW => ⟨rfl, Pr.at hPc hKc hDc hN hU hW⟩⟩ rfl rfl hl.1 rfl (lv_room (Nat.le_of_ble_eq_true rfl)) dX11_loose_30 ⟨(Nat.le_trans (Nat.le_of_ble_eq_true rfl) hRc), (Nat.le_trans (Nat.le_of_ble_eq_true rfl) hRs)⟩) hS (fun q _ h => hFc q h) hFc (fun r_13 M_14 t H_12 locs ht hvm hw hB hz1 hk1 hS => ?_)
      have hp_15 := hw
      obtain ⟨hP1, hK1, hD1⟩ := hB
      rw [ht] at hP1
      obtain ⟨hP, hD⟩ := va_joinQ (X := [(xa, (b11_1 x0 (nI x1) x2 (nI x3) x4 x5 x6 x7 x8 x9 x10))]) (cx := [(xa, (b11_1 x0 (nI x1) x2 (nI x3) x4 x5 x6 x7 x8 x9 x10))]) (wr := []) (w1 := [(xa, (b11_1 x0 (nI x1) x2 (nI x3) x4 x5 x6 x7 x8 2 (-1)))]) (pl := va_pl L M) hP hD [0] [] rfl rfl (by decide) (by decide) hk1 hFc hP1 hD1
      have hP : va_P D vwCl ([(xa, (b11_1 x0 (nI x1) x2 (nI x3) x4 x5 x6 x7 x8 2 (-1)))] ++ va_pl L M) H_12 := hP
      have hD : va_D A ([(xa, (b11_1 x0 (nI x1) x2 (nI x3) x4 x5 x6 x7 x8 2 (-1)))] ++ va_pl L M) := hD
      have hq := Eq.symm hp_15
      subst hq
      rw [hQ]
      exact W.iret (v := (-1)) hx hb hr (fun t ht hW9 => ⟨⟨(-1), M, rfl, ⟨hW, hF, hT2, trivial⟩, ⟨2, by rw [ht]; exact hP, hD⟩⟩, hS.F ht⟩) hS.2.2 dX11_loose_33
    · have hz := rfl (a := 0)
      refine lv_iload_n hx hb dX11_loose_22 rfl (lv_at hl 3 rfl) ?_
      refine lv_ldc (v := 1000000000) hx hb hown (hg _ wd_0) dX11_loose_23 ?_
      refine lv_icmp_le (tgt := 34) hx hb dX11_loose_25 (by decide) (fun c_16 => ?_) (fun c_16 => ?_)
      · have hz := rfl (a := 0)
        refine lv_aload_n hx hb dX11_loose_34 rfl (lv_at hl 0 rfl) ?_
        obtain ⟨v17_0, v17_1, v17_2, v17_3, v17_4, v17_5, v17_6, v17_7, v17_8, v17_9, v17_10, v17_11, v17_12, v17_13, v17_14, v17_15, v17_16, v17_17, v17_18, v17_19, hM17, h17_3, h17_4, h17_5, h17_6, h17_7, h17_8, h17_9, h17_10, h17_11, h17_12, h17_13, h17_16, h17_17, h17_18, h17_19⟩ := hW.open_2 hb_10
        refine pg_get (D := D) (ci := 2) (v := .long v17_14) (C := RX2) (T := TX2) (N := 20) hx hb hg inG2 hown hK hP hb_10.1 hM17 rfl 14 (by decide) (hg _ wd_402) (fun _ h9 => h9) rfl dX11_loose_35 ?_
        refine lv_iload_n hx hb dX11_loose_38 rfl (lv_at hl 3 rfl) ?_
        refine lv_i2l hx hb dX11_loose_39 rfl ?_
        refine lv_topl (fun f_18 ef_18 => ?_)
        refine lv_ladd hx hb dX11_loose_40 ?_
        refine lv_topl (fun f_19 ef_19 => ?_)
        refine va_mabs_long hx hb (by rw [hml]; exact hl.1.symm) hown (hg _ wd_403) (hg _ wd_151) (hg _ wd_12) (hg _ wd_152) (Nat.le_trans (Nat.le_of_ble_eq_true rfl) hRf) (Nat.le_trans (Nat.le_of_ble_eq_true rfl) hRl) (Nat.le_trans (Nat.le_of_ble_eq_true rfl) hRc) (Nat.le_trans (Nat.le_of_ble_eq_true rfl) hRs) dX11_loose_41 ?_
        refine lv_topl (fun f_20 ef_20 => ?_)
        refine lv_ldc2 (v := 1000000000000) hx hb hown (hg _ wd_404) dX11_loose_44 ?_
        refine W.lcmp hx hb dX11_loose_47 ?_
        refine lv_if_le (tgt := 58) hx hb dX11_loose_48 (by decide) (fun c_21 => ?_) (fun c_21 => ?_)
        · have hz := rfl (a := 0)
          have d_22 : f_20 ≤ 1000000000000 := lc_let c_21
          refine lv_aload_n hx hb dX11_loose_58 rfl (lv_at hl 0 rfl) ?_
          refine lv_dup hx hb dX11_loose_59 rfl ?_
          refine pg_get (D := D) (ci := 2) (v := .long v17_14) (C := RX2) (T := TX2) (N := 20) hx hb hg inG2 hown hK hP hb_10.1 hM17 rfl 14 (by decide) (hg _ wd_402) (fun _ h9 => h9) rfl dX11_loose_60 ?_
          refine lv_iload_n hx hb dX11_loose_63 rfl (lv_at hl 3 rfl) ?_
          refine lv_i2l hx hb dX11_loose_64 rfl ?_
          refine lv_topl (fun f_23 ef_23 => ?_)
          refine lv_ladd hx hb dX11_loose_65 ?_
          refine lv_topl (fun f_24 ef_24 => ?_)
          refine pg_put (D := D) (ci := 2) (v := .long f_24) (ty := .long) (C := RX2) (T := TX2) (N := 20) hx hb hg inG2 tyX2 tyX2_ok nmX2 hown hK hP hD hS hb_10.1 hM17 rfl 14 (by decide) (hg _ wd_402) (fun _ h9 => h9) rfl (by decide +kernel) rfl rfl (Nat.le_of_ble_eq_true rfl) dX11_loose_66 (fun H_25 locs hP hD hS => ?_)
          obtain ⟨M_26, eM_26⟩ : ∃ M1 : Hp, M1 = va_up M b_5 ((b2_2 v17_0 v17_1 v17_2 v17_3 (nI v17_4) (nI v17_5) v17_6 v17_7 v17_8 (nI v17_9) v17_10 (nI v17_11) v17_12 v17_13 f_24 v17_15 v17_16 v17_17 v17_18 v17_19)) := ⟨_, rfl⟩
          have hP : va_P D vwCl ([(xa, (b11_1 x0 (nI x1) x2 (nI x3) x4 x5 x6 x7 x8 x9 x10))] ++ va_pl L M_26) H_25 := by rw [eM_26]; exact hP
          have hD : va_D A ([(xa, (b11_1 x0 (nI x1) x2 (nI x3) x4 x5 x6 x7 x8 x9 x10))] ++ va_pl L M_26) := by rw [eM_26]; exact hD
          have hW : WOK cy K L M_26 := by rw [eM_26]; exact hW.up_2 hb_10 ⟨v17_0, v17_1, v17_2, v17_3, v17_4, v17_5, v17_6, v17_7, v17_8, v17_9, v17_10, v17_11, v17_12, v17_13, f_24, v17_15, v17_16, v17_17, v17_18, v17_19, rfl, h17_3, h17_4, h17_5, h17_6, h17_7, h17_8, h17_9, h17_10, h17_11, h17_12, h17_13, h17_16, h17_17, h17_18, h17_19⟩
          have hF : fr K L [2] M M_26 := by rw [eM_26]; exact hF.up hb_10 (by decide)
          have hT2 : fT 2 K L [14] M M_26 := by rw [eM_26]; exact hT2.up (i := 14) hM17 rfl (by decide)
          have hM_27 : M_26 b_5 = (b2_2 v17_0 v17_1 v17_2 v17_3 (nI v17_4) (nI v17_5) v17_6 v17_7 v17_8 (nI v17_9) v17_10 (nI v17_11) v17_12 v17_13 f_24 v17_15 v17_16 v17_17 v17_18 v17_19) := by rw [eM_26]; exact va_up_self _ _ _
          refine lv_aload_n hx hb dX11_loose_69 rfl (lv_at hl 1 rfl) ?_
          refine lv_iconst (v := 1) hx hb dX11_loose_70 (by decide) ?_
          have hPc := hP.sub (ws' := [(xa, (b11_1 x0 (nI x1) x2 (nI x3) x4 x5 x6 x7 x8 x9 x10))]) [0] rfl
          have hDc := hD.sub (ws' := [(xa, (b11_1 x0 (nI x1) x2 (nI x3) x4 x5 x6 x7 x8 x9 x10))]) [0] (by decide) rfl
          have hKc := hK.sub (tys' := []) [] rfl
          have hFc := va_free (wc := [(xa, (b11_1 x0 (nI x1) x2 (nI x3) x4 x5 x6 x7 x8 x9 x10))]) hD hS hA [0] rfl
          refine va_calli (va_runV (As := [.int 1]) (rest := []) ⟨hx, hb, hml, hown, hg⟩ (k_accept l D H_25.size xa x0 (nI x1) x2 (nI x3) x4 x5 x6 x7 x8 x9 x10 1) (cwV 1 hg (gV wd_356 wd_357 wd_358 wd_3 wd_359) rfl rfl rfl (by decide +kernel) ⟨(Nat.le_trans (Nat.le_of_ble_eq_true rfl) hRf), (Nat.le_trans (Nat.le_of_ble_eq_true rfl) hRl)⟩) ⟨Pr.blind, va_recv hK hP (ci := 11) (q0 := 0) rfl rfl, fun U hU hW => ⟨rfl, Pr.at hPc hKc hDc hN hU hW⟩⟩ rfl rfl hl.1 rfl (lv_room (Nat.le_of_ble_eq_true rfl)) dX11_loose_71 ⟨(Nat.le_trans (Nat.le_of_ble_eq_true rfl) hRc), (Nat.le_trans (Nat.le_of_ble_eq_true rfl) hRs)⟩) hS (fun q _ h => hFc q h) hFc (fun r_29 M_30 t H_28 locs ht hvm hw hB hz1 hk1 hS => ?_)
          have hp_31 := hw
          obtain ⟨hP1, hK1, hD1⟩ := hB
          rw [ht] at hP1
          obtain ⟨hP, hD⟩ := va_joinQ (X := [(xa, (b11_1 x0 (nI x1) x2 (nI x3) x4 x5 x6 x7 x8 x9 x10))]) (cx := [(xa, (b11_1 x0 (nI x1) x2 (nI x3) x4 x5 x6 x7 x8 x9 x10))]) (wr := []) (w1 := [(xa, (b11_1 x0 (nI x1) x2 (nI x3) x4 x5 x6 x7 x8 0 (-1)))]) (pl := va_pl L M_26) hP hD [0] [] rfl rfl (by decide) (by decide) hk1 hFc hP1 hD1
          have hP : va_P D vwCl ([(xa, (b11_1 x0 (nI x1) x2 (nI x3) x4 x5 x6 x7 x8 0 (-1)))] ++ va_pl L M_26) H_28 := hP
          have hD : va_D A ([(xa, (b11_1 x0 (nI x1) x2 (nI x3) x4 x5 x6 x7 x8 0 (-1)))] ++ va_pl L M_26) := hD
          have hq := Eq.symm hp_31
          subst hq
          rw [hQ]
          exact W.iret (v := 1) hx hb hr (fun t ht hW9 => ⟨⟨1, M_26, rfl, ⟨hW, hF, hT2, trivial⟩, ⟨0, by rw [ht]; exact hP, hD⟩⟩, hS.F ht⟩) hS.2.2 dX11_loose_74
        · have hz := rfl (a := 0)
          have d_22 : ¬ f_20 ≤ 1000000000000 := lc_lef c_21
          refine lv_aload_n hx hb dX11_loose_51 rfl (lv_at hl 1 rfl) ?_
          refine lv_bipush (v := 9) hx hb dX11_loose_52 (by decide) ?_
          have hPc := hP.sub (ws' := [(xa, (b11_1 x0 (nI x1) x2 (nI x3) x4 x5 x6 x7 x8 x9 x10))]) [0] rfl
          have hDc := hD.sub (ws' := [(xa, (b11_1 x0 (nI x1) x2 (nI x3) x4 x5 x6 x7 x8 x9 x10))]) [0] (by decide) rfl
          have hKc := hK.sub (tys' := []) [] rfl
          have hFc := va_free (wc := [(xa, (b11_1 x0 (nI x1) x2 (nI x3) x4 x5 x6 x7 x8 x9 x10))]) hD hS hA [0] rfl
          refine va_calli (va_runV (As := [.int 9]) (rest := []) ⟨hx, hb, hml, hown, hg⟩ (k_refuse l D H_1.size xa x0 (nI x1) x2 (nI x3) x4 x5 x6 x7 x8 x9 x10 9) (cwV 1 hg (gV wd_344 wd_345 wd_346 wd_3 wd_347) rfl rfl rfl (by decide +kernel) ⟨(Nat.le_trans (Nat.le_of_ble_eq_true rfl) hRf), (Nat.le_trans (Nat.le_of_ble_eq_true rfl) hRl)⟩) ⟨Pr.blind, va_recv hK hP (ci := 11) (q0 := 0) rfl rfl, fun U hU hW => ⟨rfl, Pr.at hPc hKc hDc hN hU hW⟩⟩ rfl rfl hl.1 rfl (lv_room (Nat.le_of_ble_eq_true rfl)) dX11_loose_54 ⟨(Nat.le_trans (Nat.le_of_ble_eq_true rfl) hRc), (Nat.le_trans (Nat.le_of_ble_eq_true rfl) hRs)⟩) hS (fun q _ h => hFc q h) hFc (fun r_33 M_34 t H_32 locs ht hvm hw hB hz1 hk1 hS => ?_)
          have hp_35 := hw
          obtain ⟨hP1, hK1, hD1⟩ := hB
          rw [ht] at hP1
          obtain ⟨hP, hD⟩ := va_joinQ (X := [(xa, (b11_1 x0 (nI x1) x2 (nI x3) x4 x5 x6 x7 x8 x9 x10))]) (cx := [(xa, (b11_1 x0 (nI x1) x2 (nI x3) x4 x5 x6 x7 x8 x9 x10))]) (wr := []) (w1 := [(xa, (b11_1 x0 (nI x1) x2 (nI x3) x4 x5 x6 x7 x8 9 (-1)))]) (pl := va_pl L M) hP hD [0] [] rfl rfl (by decide) (by decide) hk1 hFc hP1 hD1
          have hP : va_P D vwCl ([(xa, (b11_1 x0 (nI x1) x2 (nI x3) x4 x5 x6 x7 x8 9 (-1)))] ++ va_pl L M) H_32 := hP
          have hD : va_D A ([(xa, (b11_1 x0 (nI x1) x2 (nI x3) x4 x5 x6 x7 x8 9 (-1)))] ++ va_pl L M) := hD
          have hq := Eq.symm hp_35
          subst hq
          rw [hQ]
          exact W.iret (v := (-1)) hx hb hr (fun t ht hW9 => ⟨⟨(-1), M, rfl, ⟨hW, hF, hT2, trivial⟩, ⟨9, by rw [ht]; exact hP, hD⟩⟩, hS.F ht⟩) hS.2.2 dX11_loose_57
      · have hz := rfl (a := 0)
        refine lv_aload_n hx hb dX11_loose_28 rfl (lv_at hl 1 rfl) ?_
        refine lv_iconst (v := 2) hx hb dX11_loose_29 (by decide) ?_
        have hPc := hP.sub (ws' := [(xa, (b11_1 x0 (nI x1) x2 (nI x3) x4 x5 x6 x7 x8 x9 x10))]) [0] rfl
        have hDc := hD.sub (ws' := [(xa, (b11_1 x0 (nI x1) x2 (nI x3) x4 x5 x6 x7 x8 x9 x10))]) [0] (by decide) rfl
        have hKc := hK.sub (tys' := []) [] rfl
        have hFc := va_free (wc := [(xa, (b11_1 x0 (nI x1) x2 (nI x3) x4 x5 x6 x7 x8 x9 x10))]) hD hS hA [0] rfl
        refine va_calli (va_runV (As := [.int 2]) (rest := []) ⟨hx, hb, hml, hown, hg⟩ (k_refuse l D H_1.size xa x0 (nI x1) x2 (nI x3) x4 x5 x6 x7 x8 x9 x10 2) (cwV 1 hg (gV wd_344 wd_345 wd_346 wd_3 wd_347) rfl rfl rfl (by decide +kernel) ⟨(Nat.le_trans (Nat.le_of_ble_eq_true rfl) hRf), (Nat.le_trans (Nat.le_of_ble_eq_true rfl) hRl)⟩) ⟨Pr.blind, va_recv hK hP (ci := 11) (q0 := 0) rfl rfl, fun U hU hW => ⟨rfl, Pr.at hPc hKc hDc hN hU hW⟩⟩ rfl rfl hl.1 rfl (lv_room (Nat.le_of_ble_eq_true rfl)) dX11_loose_30 ⟨(Nat.le_trans (Nat.le_of_ble_eq_true rfl) hRc), (Nat.le_trans (Nat.le_of_ble_eq_true rfl) hRs)⟩) hS (fun q _ h => hFc q h) hFc (fun r_37 M_38 t H_36 locs ht hvm hw hB hz1 hk1 hS => ?_)
        have hp_39 := hw
        obtain ⟨hP1, hK1, hD1⟩ := hB
        rw [ht] at hP1
        obtain ⟨hP, hD⟩ := va_joinQ (X := [(xa, (b11_1 x0 (nI x1) x2 (nI x3) x4 x5 x6 x7 x8 x9 x10))]) (cx := [(xa, (b11_1 x0 (nI x1) x2 (nI x3) x4 x5 x6 x7 x8 x9 x10))]) (wr := []) (w1 := [(xa, (b11_1 x0 (nI x1) x2 (nI x3) x4 x5 x6 x7 x8 2 (-1)))]) (pl := va_pl L M) hP hD [0] [] rfl rfl (by decide) (by decide) hk1 hFc hP1 hD1
        have hP : va_P D vwCl ([(xa, (b11_1 x0 (nI x1) x2 (nI x3) x4 x5 x6 x7 x8 2 (-1)))] ++ va_pl L M) H_36 := hP
        have hD : va_D A ([(xa, (b11_1 x0 (nI x1) x2 (nI x3) x4 x5 x6 x7 x8 2 (-1)))] ++ va_pl L M) := hD
        have hq := Eq.symm hp_39
        subst hq
        rw [hQ]
        exact W.iret (v := (-1)) hx hb hr (fun t ht hW9 => ⟨⟨(-1), M, rfl, ⟨hW, hF, hT2, trivial⟩, ⟨2, by rw [ht]; exact hP, hD⟩⟩, hS.F ht⟩) hS.2.2 dX11_loose_33
