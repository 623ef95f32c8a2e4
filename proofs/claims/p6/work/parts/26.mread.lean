theorem dX13_letter_0 : decode cX13_letter 0 = .ok (.aload_n 0, 1) := by decide +kernel
theorem dX13_letter_1 : decode cX13_letter 1 = .ok (.iconst 0, 1) := by decide +kernel
theorem dX13_letter_2 : decode cX13_letter 2 = .ok (.putfield 55, 3) := by decide +kernel
theorem dX13_letter_5 : decode cX13_letter 5 = .ok (.aload_n 0, 1) := by decide +kernel
theorem dX13_letter_6 : decode cX13_letter 6 = .ok (.iload_n 1, 1) := by decide +kernel
theorem dX13_letter_7 : decode cX13_letter 7 = .ok (.iload_n 2, 1) := by decide +kernel
theorem dX13_letter_8 : decode cX13_letter 8 = .ok (.invokevirtual 98, 3) := by decide +kernel
theorem dX13_letter_11 : decode cX13_letter 11 = .ok (.ifCond .ne 9, 3) := by decide +kernel
theorem dX13_letter_14 : decode cX13_letter 14 = .ok (.aload_n 0, 1) := by decide +kernel
theorem dX13_letter_15 : decode cX13_letter 15 = .ok (.iconst 1, 1) := by decide +kernel
theorem dX13_letter_16 : decode cX13_letter 16 = .ok (.invokevirtual 73, 3) := by decide +kernel
theorem dX13_letter_19 : decode cX13_letter 19 = .ok (.ireturn, 1) := by decide +kernel
theorem dX13_letter_20 : decode cX13_letter 20 = .ok (.iload_n 3, 1) := by decide +kernel
theorem dX13_letter_21 : decode cX13_letter 21 = .ok (.iconst 1, 1) := by decide +kernel
theorem dX13_letter_22 : decode cX13_letter 22 = .ok (.if_icmp .lt 9, 3) := by decide +kernel
theorem dX13_letter_25 : decode cX13_letter 25 = .ok (.iload_n 3, 1) := by decide +kernel
theorem dX13_letter_26 : decode cX13_letter 26 = .ok (.ldc 102, 2) := by decide +kernel
theorem dX13_letter_28 : decode cX13_letter 28 = .ok (.if_icmp .le 9, 3) := by decide +kernel
theorem dX13_letter_31 : decode cX13_letter 31 = .ok (.aload_n 0, 1) := by decide +kernel
theorem dX13_letter_32 : decode cX13_letter 32 = .ok (.iconst 2, 1) := by decide +kernel
theorem dX13_letter_33 : decode cX13_letter 33 = .ok (.invokevirtual 73, 3) := by decide +kernel
theorem dX13_letter_36 : decode cX13_letter 36 = .ok (.ireturn, 1) := by decide +kernel
theorem dX13_letter_37 : decode cX13_letter 37 = .ok (.aload_n 0, 1) := by decide +kernel
theorem dX13_letter_38 : decode cX13_letter 38 = .ok (.getfield 12, 3) := by decide +kernel
theorem dX13_letter_41 : decode cX13_letter 41 = .ok (.iload_n 1, 1) := by decide +kernel
theorem dX13_letter_42 : decode cX13_letter 42 = .ok (.aaload, 1) := by decide +kernel
theorem dX13_letter_43 : decode cX13_letter 43 = .ok (.astore 4, 2) := by decide +kernel
theorem dX13_letter_45 : decode cX13_letter 45 = .ok (.aload 4, 2) := by decide +kernel
theorem dX13_letter_47 : decode cX13_letter 47 = .ok (.getfield 92, 3) := by decide +kernel
theorem dX13_letter_50 : decode cX13_letter 50 = .ok (.iload_n 2, 1) := by decide +kernel
theorem dX13_letter_51 : decode cX13_letter 51 = .ok (.iaload, 1) := by decide +kernel
theorem dX13_letter_52 : decode cX13_letter 52 = .ok (.ifCond .lt 14, 3) := by decide +kernel
theorem dX13_letter_55 : decode cX13_letter 55 = .ok (.aload_n 0, 1) := by decide +kernel
theorem dX13_letter_56 : decode cX13_letter 56 = .ok (.aload 4, 2) := by decide +kernel
theorem dX13_letter_58 : decode cX13_letter 58 = .ok (.iload_n 2, 1) := by decide +kernel
theorem dX13_letter_59 : decode cX13_letter 59 = .ok (.invokevirtual 103, 3) := by decide +kernel
theorem dX13_letter_62 : decode cX13_letter 62 = .ok (.iconst (-1), 1) := by decide +kernel
theorem dX13_letter_63 : decode cX13_letter 63 = .ok (.if_icmp .eq 9, 3) := by decide +kernel
theorem dX13_letter_66 : decode cX13_letter 66 = .ok (.aload_n 0, 1) := by decide +kernel
theorem dX13_letter_67 : decode cX13_letter 67 = .ok (.iconst 4, 1) := by decide +kernel
theorem dX13_letter_68 : decode cX13_letter 68 = .ok (.invokevirtual 73, 3) := by decide +kernel
theorem dX13_letter_71 : decode cX13_letter 71 = .ok (.ireturn, 1) := by decide +kernel
theorem dX13_letter_72 : decode cX13_letter 72 = .ok (.aload 4, 2) := by decide +kernel
theorem dX13_letter_74 : decode cX13_letter 74 = .ok (.getfield 92, 3) := by decide +kernel
theorem dX13_letter_77 : decode cX13_letter 77 = .ok (.iload_n 2, 1) := by decide +kernel
theorem dX13_letter_78 : decode cX13_letter 78 = .ok (.iload_n 3, 1) := by decide +kernel
theorem dX13_letter_79 : decode cX13_letter 79 = .ok (.ineg, 1) := by decide +kernel
theorem dX13_letter_80 : decode cX13_letter 80 = .ok (.iastore, 1) := by decide +kernel
theorem dX13_letter_81 : decode cX13_letter 81 = .ok (.aload_n 0, 1) := by decide +kernel
theorem dX13_letter_82 : decode cX13_letter 82 = .ok (.iconst 1, 1) := by decide +kernel
theorem dX13_letter_83 : decode cX13_letter 83 = .ok (.invokevirtual 86, 3) := by decide +kernel
theorem dX13_letter_86 : decode cX13_letter 86 = .ok (.ireturn, 1) := by decide +kernel
theorem dX13_unseal_0 : decode cX13_unseal 0 = .ok (.aload_n 0, 1) := by decide +kernel
theorem dX13_unseal_1 : decode cX13_unseal 1 = .ok (.iconst 0, 1) := by decide +kernel
theorem dX13_unseal_2 : decode cX13_unseal 2 = .ok (.putfield 55, 3) := by decide +kernel
theorem dX13_unseal_5 : decode cX13_unseal 5 = .ok (.aload_n 0, 1) := by decide +kernel
theorem dX13_unseal_6 : decode cX13_unseal 6 = .ok (.iload_n 1, 1) := by decide +kernel
theorem dX13_unseal_7 : decode cX13_unseal 7 = .ok (.iload_n 2, 1) := by decide +kernel
theorem dX13_unseal_8 : decode cX13_unseal 8 = .ok (.invokevirtual 98, 3) := by decide +kernel
theorem dX13_unseal_11 : decode cX13_unseal 11 = .ok (.ifCond .ne 9, 3) := by decide +kernel
theorem dX13_unseal_14 : decode cX13_unseal 14 = .ok (.aload_n 0, 1) := by decide +kernel
theorem dX13_unseal_15 : decode cX13_unseal 15 = .ok (.iconst 1, 1) := by decide +kernel
theorem dX13_unseal_16 : decode cX13_unseal 16 = .ok (.invokevirtual 73, 3) := by decide +kernel
theorem dX13_unseal_19 : decode cX13_unseal 19 = .ok (.ireturn, 1) := by decide +kernel
theorem dX13_unseal_20 : decode cX13_unseal 20 = .ok (.aload_n 0, 1) := by decide +kernel
theorem dX13_unseal_21 : decode cX13_unseal 21 = .ok (.getfield 12, 3) := by decide +kernel
theorem dX13_unseal_24 : decode cX13_unseal 24 = .ok (.iload_n 1, 1) := by decide +kernel
theorem dX13_unseal_25 : decode cX13_unseal 25 = .ok (.aaload, 1) := by decide +kernel
theorem dX13_unseal_26 : decode cX13_unseal 26 = .ok (.astore_n 3, 1) := by decide +kernel
theorem dX13_unseal_27 : decode cX13_unseal 27 = .ok (.aload_n 3, 1) := by decide +kernel
theorem dX13_unseal_28 : decode cX13_unseal 28 = .ok (.getfield 92, 3) := by decide +kernel
theorem dX13_unseal_31 : decode cX13_unseal 31 = .ok (.iload_n 2, 1) := by decide +kernel
theorem dX13_unseal_32 : decode cX13_unseal 32 = .ok (.iaload, 1) := by decide +kernel
theorem dX13_unseal_33 : decode cX13_unseal 33 = .ok (.ifCond .lt 9, 3) := by decide +kernel
theorem dX13_unseal_36 : decode cX13_unseal 36 = .ok (.aload_n 0, 1) := by decide +kernel
theorem dX13_unseal_37 : decode cX13_unseal 37 = .ok (.iconst 4, 1) := by decide +kernel
theorem dX13_unseal_38 : decode cX13_unseal 38 = .ok (.invokevirtual 73, 3) := by decide +kernel
theorem dX13_unseal_41 : decode cX13_unseal 41 = .ok (.ireturn, 1) := by decide +kernel
theorem dX13_unseal_42 : decode cX13_unseal 42 = .ok (.aload_n 3, 1) := by decide +kernel
theorem dX13_unseal_43 : decode cX13_unseal 43 = .ok (.getfield 92, 3) := by decide +kernel
theorem dX13_unseal_46 : decode cX13_unseal 46 = .ok (.iload_n 2, 1) := by decide +kernel
theorem dX13_unseal_47 : decode cX13_unseal 47 = .ok (.iaload, 1) := by decide +kernel
theorem dX13_unseal_48 : decode cX13_unseal 48 = .ok (.ineg, 1) := by decide +kernel
theorem dX13_unseal_49 : decode cX13_unseal 49 = .ok (.istore 4, 2) := by decide +kernel
theorem dX13_unseal_51 : decode cX13_unseal 51 = .ok (.aload_n 3, 1) := by decide +kernel
theorem dX13_unseal_52 : decode cX13_unseal 52 = .ok (.getfield 92, 3) := by decide +kernel
theorem dX13_unseal_55 : decode cX13_unseal 55 = .ok (.iload_n 2, 1) := by decide +kernel
theorem dX13_unseal_56 : decode cX13_unseal 56 = .ok (.iconst 0, 1) := by decide +kernel
theorem dX13_unseal_57 : decode cX13_unseal 57 = .ok (.iastore, 1) := by decide +kernel
theorem dX13_unseal_58 : decode cX13_unseal 58 = .ok (.aload_n 0, 1) := by decide +kernel
theorem dX13_unseal_59 : decode cX13_unseal 59 = .ok (.iload 4, 2) := by decide +kernel
theorem dX13_unseal_61 : decode cX13_unseal 61 = .ok (.invokevirtual 86, 3) := by decide +kernel
theorem dX13_unseal_64 : decode cX13_unseal 64 = .ok (.ireturn, 1) := by decide +kernel
theorem dX13_holds_0 : decode cX13_holds 0 = .ok (.aload_n 0, 1) := by decide +kernel
theorem dX13_holds_1 : decode cX13_holds 1 = .ok (.iconst 0, 1) := by decide +kernel
theorem dX13_holds_2 : decode cX13_holds 2 = .ok (.putfield 55, 3) := by decide +kernel
theorem dX13_holds_5 : decode cX13_holds 5 = .ok (.aload_n 0, 1) := by decide +kernel
theorem dX13_holds_6 : decode cX13_holds 6 = .ok (.iload_n 1, 1) := by decide +kernel
theorem dX13_holds_7 : decode cX13_holds 7 = .ok (.iload_n 2, 1) := by decide +kernel
theorem dX13_holds_8 : decode cX13_holds 8 = .ok (.invokevirtual 98, 3) := by decide +kernel
theorem dX13_holds_11 : decode cX13_holds 11 = .ok (.ifCond .ne 9, 3) := by decide +kernel
theorem dX13_holds_14 : decode cX13_holds 14 = .ok (.aload_n 0, 1) := by decide +kernel
theorem dX13_holds_15 : decode cX13_holds 15 = .ok (.iconst 1, 1) := by decide +kernel
theorem dX13_holds_16 : decode cX13_holds 16 = .ok (.invokevirtual 73, 3) := by decide +kernel
theorem dX13_holds_19 : decode cX13_holds 19 = .ok (.ireturn, 1) := by decide +kernel
theorem dX13_holds_20 : decode cX13_holds 20 = .ok (.aload_n 0, 1) := by decide +kernel
theorem dX13_holds_21 : decode cX13_holds 21 = .ok (.getfield 12, 3) := by decide +kernel
theorem dX13_holds_24 : decode cX13_holds 24 = .ok (.iload_n 1, 1) := by decide +kernel
theorem dX13_holds_25 : decode cX13_holds 25 = .ok (.aaload, 1) := by decide +kernel
theorem dX13_holds_26 : decode cX13_holds 26 = .ok (.getfield 92, 3) := by decide +kernel
theorem dX13_holds_29 : decode cX13_holds 29 = .ok (.iload_n 2, 1) := by decide +kernel
theorem dX13_holds_30 : decode cX13_holds 30 = .ok (.iaload, 1) := by decide +kernel
theorem dX13_holds_31 : decode cX13_holds 31 = .ok (.istore_n 3, 1) := by decide +kernel
theorem dX13_holds_32 : decode cX13_holds 32 = .ok (.aload_n 0, 1) := by decide +kernel
theorem dX13_holds_33 : decode cX13_holds 33 = .ok (.iload_n 3, 1) := by decide +kernel
theorem dX13_holds_34 : decode cX13_holds 34 = .ok (.ifCond .ne 7, 3) := by decide +kernel
theorem dX13_holds_37 : decode cX13_holds 37 = .ok (.iconst 0, 1) := by decide +kernel
theorem dX13_holds_38 : decode cX13_holds 38 = .ok (.goto 31, 3) := by decide +kernel
theorem dX13_holds_41 : decode cX13_holds 41 = .ok (.iload_n 3, 1) := by decide +kernel
theorem dX13_holds_42 : decode cX13_holds 42 = .ok (.ifCond .ge 7, 3) := by decide +kernel
theorem dX13_holds_45 : decode cX13_holds 45 = .ok (.iconst 1, 1) := by decide +kernel
theorem dX13_holds_46 : decode cX13_holds 46 = .ok (.goto 23, 3) := by decide +kernel
theorem dX13_holds_49 : decode cX13_holds 49 = .ok (.aload_n 0, 1) := by decide +kernel
theorem dX13_holds_50 : decode cX13_holds 50 = .ok (.aload_n 0, 1) := by decide +kernel
theorem dX13_holds_51 : decode cX13_holds 51 = .ok (.getfield 12, 3) := by decide +kernel
theorem dX13_holds_54 : decode cX13_holds 54 = .ok (.iload_n 1, 1) := by decide +kernel
theorem dX13_holds_55 : decode cX13_holds 55 = .ok (.aaload, 1) := by decide +kernel
theorem dX13_holds_56 : decode cX13_holds 56 = .ok (.iload_n 2, 1) := by decide +kernel
theorem dX13_holds_57 : decode cX13_holds 57 = .ok (.invokevirtual 103, 3) := by decide +kernel
theorem dX13_holds_60 : decode cX13_holds 60 = .ok (.iconst (-1), 1) := by decide +kernel
theorem dX13_holds_61 : decode cX13_holds 61 = .ok (.if_icmp .eq 7, 3) := by decide +kernel
theorem dX13_holds_64 : decode cX13_holds 64 = .ok (.iconst 2, 1) := by decide +kernel
theorem dX13_holds_65 : decode cX13_holds 65 = .ok (.goto 4, 3) := by decide +kernel
theorem dX13_holds_68 : decode cX13_holds 68 = .ok (.iconst 3, 1) := by decide +kernel
theorem dX13_holds_69 : decode cX13_holds 69 = .ok (.invokevirtual 86, 3) := by decide +kernel
theorem dX13_holds_72 : decode cX13_holds 72 = .ok (.ireturn, 1) := by decide +kernel
theorem dX13_owns_0 : decode cX13_owns 0 = .ok (.aload_n 0, 1) := by decide +kernel
theorem dX13_owns_1 : decode cX13_owns 1 = .ok (.getfield 12, 3) := by decide +kernel
theorem dX13_owns_4 : decode cX13_owns 4 = .ok (.iload_n 2, 1) := by decide +kernel
theorem dX13_owns_5 : decode cX13_owns 5 = .ok (.aaload, 1) := by decide +kernel
theorem dX13_owns_6 : decode cX13_owns 6 = .ok (.astore_n 3, 1) := by decide +kernel
theorem dX13_owns_7 : decode cX13_owns 7 = .ok (.iconst 0, 1) := by decide +kernel
theorem dX13_owns_8 : decode cX13_owns 8 = .ok (.istore 4, 2) := by decide +kernel
theorem dX13_owns_10 : decode cX13_owns 10 = .ok (.iconst 0, 1) := by decide +kernel
theorem dX13_owns_11 : decode cX13_owns 11 = .ok (.istore 5, 2) := by decide +kernel
theorem dX13_owns_13 : decode cX13_owns 13 = .ok (.iload 5, 2) := by decide +kernel
theorem dX13_owns_15 : decode cX13_owns 15 = .ok (.aload_n 3, 1) := by decide +kernel
theorem dX13_owns_16 : decode cX13_owns 16 = .ok (.getfield 68, 3) := by decide +kernel
theorem dX13_owns_19 : decode cX13_owns 19 = .ok (.if_icmp .ge 53, 3) := by decide +kernel
theorem dX13_owns_22 : decode cX13_owns 22 = .ok (.iload 4, 2) := by decide +kernel
theorem dX13_owns_24 : decode cX13_owns 24 = .ok (.ifCond .ne 35, 3) := by decide +kernel
theorem dX13_owns_27 : decode cX13_owns 27 = .ok (.aload_n 0, 1) := by decide +kernel
theorem dX13_owns_28 : decode cX13_owns 28 = .ok (.getfield 20, 3) := by decide +kernel
theorem dX13_owns_31 : decode cX13_owns 31 = .ok (.aload_n 3, 1) := by decide +kernel
theorem dX13_owns_32 : decode cX13_owns 32 = .ok (.getfield 72, 3) := by decide +kernel
theorem dX13_owns_35 : decode cX13_owns 35 = .ok (.iload 5, 2) := by decide +kernel
theorem dX13_owns_37 : decode cX13_owns 37 = .ok (.iaload, 1) := by decide +kernel
theorem dX13_owns_38 : decode cX13_owns 38 = .ok (.iaload, 1) := by decide +kernel
theorem dX13_owns_39 : decode cX13_owns 39 = .ok (.iconst 5, 1) := by decide +kernel
theorem dX13_owns_40 : decode cX13_owns 40 = .ok (.if_icmp .ne 23, 3) := by decide +kernel
theorem dX13_owns_43 : decode cX13_owns 43 = .ok (.aload_n 0, 1) := by decide +kernel
theorem dX13_owns_44 : decode cX13_owns 44 = .ok (.getfield 24, 3) := by decide +kernel
theorem dX13_owns_47 : decode cX13_owns 47 = .ok (.aload_n 3, 1) := by decide +kernel
theorem dX13_owns_48 : decode cX13_owns 48 = .ok (.getfield 72, 3) := by decide +kernel
theorem dX13_owns_51 : decode cX13_owns 51 = .ok (.iload 5, 2) := by decide +kernel
theorem dX13_owns_53 : decode cX13_owns 53 = .ok (.iaload, 1) := by decide +kernel
theorem dX13_owns_54 : decode cX13_owns 54 = .ok (.iaload, 1) := by decide +kernel
theorem dX13_owns_55 : decode cX13_owns 55 = .ok (.iload_n 1, 1) := by decide +kernel
theorem dX13_owns_56 : decode cX13_owns 56 = .ok (.if_icmp .ne 7, 3) := by decide +kernel
theorem dX13_owns_59 : decode cX13_owns 59 = .ok (.iconst 1, 1) := by decide +kernel
theorem dX13_owns_60 : decode cX13_owns 60 = .ok (.goto 4, 3) := by decide +kernel
theorem dX13_owns_63 : decode cX13_owns 63 = .ok (.iconst 0, 1) := by decide +kernel
theorem dX13_owns_64 : decode cX13_owns 64 = .ok (.istore 4, 2) := by decide +kernel
theorem dX13_owns_66 : decode cX13_owns 66 = .ok (.iinc 5 1, 3) := by decide +kernel
theorem dX13_owns_69 : decode cX13_owns 69 = .ok (.goto (-56), 3) := by decide +kernel
theorem dX13_owns_72 : decode cX13_owns 72 = .ok (.iload 4, 2) := by decide +kernel
theorem dX13_owns_74 : decode cX13_owns 74 = .ok (.ireturn, 1) := by decide +kernel
theorem dX13_lend_0 : decode cX13_lend 0 = .ok (.aload_n 0, 1) := by decide +kernel
theorem dX13_lend_1 : decode cX13_lend 1 = .ok (.iconst 0, 1) := by decide +kernel
theorem dX13_lend_2 : decode cX13_lend 2 = .ok (.putfield 55, 3) := by decide +kernel
theorem dX13_lend_5 : decode cX13_lend 5 = .ok (.aload_n 0, 1) := by decide +kernel
theorem dX13_lend_6 : decode cX13_lend 6 = .ok (.iload_n 1, 1) := by decide +kernel
theorem dX13_lend_7 : decode cX13_lend 7 = .ok (.iload_n 2, 1) := by decide +kernel
theorem dX13_lend_8 : decode cX13_lend 8 = .ok (.invokevirtual 187, 3) := by decide +kernel
theorem dX13_lend_11 : decode cX13_lend 11 = .ok (.ifCond .ne 9, 3) := by decide +kernel
theorem dX13_lend_14 : decode cX13_lend 14 = .ok (.aload_n 0, 1) := by decide +kernel
theorem dX13_lend_15 : decode cX13_lend 15 = .ok (.iconst 1, 1) := by decide +kernel
theorem dX13_lend_16 : decode cX13_lend 16 = .ok (.invokevirtual 73, 3) := by decide +kernel
theorem dX13_lend_19 : decode cX13_lend 19 = .ok (.ireturn, 1) := by decide +kernel
theorem dX13_lend_20 : decode cX13_lend 20 = .ok (.aload_n 0, 1) := by decide +kernel
theorem dX13_lend_21 : decode cX13_lend 21 = .ok (.getfield 12, 3) := by decide +kernel
theorem dX13_lend_24 : decode cX13_lend 24 = .ok (.iload_n 1, 1) := by decide +kernel
theorem dX13_lend_25 : decode cX13_lend 25 = .ok (.aaload, 1) := by decide +kernel
theorem dX13_lend_26 : decode cX13_lend 26 = .ok (.astore 5, 2) := by decide +kernel
theorem dX13_lend_28 : decode cX13_lend 28 = .ok (.iload_n 3, 1) := by decide +kernel
theorem dX13_lend_29 : decode cX13_lend 29 = .ok (.invokestatic 164, 3) := by decide +kernel
theorem dX13_lend_32 : decode cX13_lend 32 = .ok (.ifCond .eq 21, 3) := by decide +kernel
theorem dX13_lend_35 : decode cX13_lend 35 = .ok (.iload 4, 2) := by decide +kernel
theorem dX13_lend_37 : decode cX13_lend 37 = .ok (.ifCond .eq 22, 3) := by decide +kernel
theorem dX13_lend_40 : decode cX13_lend 40 = .ok (.iload_n 3, 1) := by decide +kernel
theorem dX13_lend_41 : decode cX13_lend 41 = .ok (.i2l, 1) := by decide +kernel
theorem dX13_lend_42 : decode cX13_lend 42 = .ok (.aload 5, 2) := by decide +kernel
theorem dX13_lend_44 : decode cX13_lend 44 = .ok (.getfield 205, 3) := by decide +kernel
theorem dX13_lend_47 : decode cX13_lend 47 = .ok (.iload_n 2, 1) := by decide +kernel
theorem dX13_lend_48 : decode cX13_lend 48 = .ok (.laload, 1) := by decide +kernel
theorem dX13_lend_49 : decode cX13_lend 49 = .ok (.lcmp, 1) := by decide +kernel
theorem dX13_lend_50 : decode cX13_lend 50 = .ok (.ifCond .le 9, 3) := by decide +kernel
theorem dX13_lend_53 : decode cX13_lend 53 = .ok (.aload_n 0, 1) := by decide +kernel
theorem dX13_lend_54 : decode cX13_lend 54 = .ok (.iconst 2, 1) := by decide +kernel
theorem dX13_lend_55 : decode cX13_lend 55 = .ok (.invokevirtual 73, 3) := by decide +kernel
theorem dX13_lend_58 : decode cX13_lend 58 = .ok (.ireturn, 1) := by decide +kernel
theorem dX13_lend_59 : decode cX13_lend 59 = .ok (.iload 4, 2) := by decide +kernel
theorem dX13_lend_61 : decode cX13_lend 61 = .ok (.ifCond .ne 27, 3) := by decide +kernel
theorem dX13_lend_64 : decode cX13_lend 64 = .ok (.aload 5, 2) := by decide +kernel
theorem dX13_lend_66 : decode cX13_lend 66 = .ok (.getfield 205, 3) := by decide +kernel
theorem dX13_lend_69 : decode cX13_lend 69 = .ok (.iload_n 2, 1) := by decide +kernel
theorem dX13_lend_70 : decode cX13_lend 70 = .ok (.laload, 1) := by decide +kernel
theorem dX13_lend_71 : decode cX13_lend 71 = .ok (.iload_n 3, 1) := by decide +kernel
theorem dX13_lend_72 : decode cX13_lend 72 = .ok (.i2l, 1) := by decide +kernel
theorem dX13_lend_73 : decode cX13_lend 73 = .ok (.ladd, 1) := by decide +kernel
theorem dX13_lend_74 : decode cX13_lend 74 = .ok (.ldc2_w 208, 3) := by decide +kernel
theorem dX13_lend_77 : decode cX13_lend 77 = .ok (.lcmp, 1) := by decide +kernel
theorem dX13_lend_78 : decode cX13_lend 78 = .ok (.ifCond .le 10, 3) := by decide +kernel
theorem dX13_lend_81 : decode cX13_lend 81 = .ok (.aload_n 0, 1) := by decide +kernel
theorem dX13_lend_82 : decode cX13_lend 82 = .ok (.bipush 9, 2) := by decide +kernel
theorem dX13_lend_84 : decode cX13_lend 84 = .ok (.invokevirtual 73, 3) := by decide +kernel
theorem dX13_lend_87 : decode cX13_lend 87 = .ok (.ireturn, 1) := by decide +kernel
theorem dX13_lend_88 : decode cX13_lend 88 = .ok (.aload 5, 2) := by decide +kernel
theorem dX13_lend_90 : decode cX13_lend 90 = .ok (.getfield 205, 3) := by decide +kernel
theorem dX13_lend_93 : decode cX13_lend 93 = .ok (.iload_n 2, 1) := by decide +kernel
theorem dX13_lend_94 : decode cX13_lend 94 = .ok (.dup2, 1) := by decide +kernel
theorem dX13_lend_95 : decode cX13_lend 95 = .ok (.laload, 1) := by decide +kernel
theorem dX13_lend_96 : decode cX13_lend 96 = .ok (.iload 4, 2) := by decide +kernel
theorem dX13_lend_98 : decode cX13_lend 98 = .ok (.ifCond .eq 9, 3) := by decide +kernel
theorem dX13_lend_101 : decode cX13_lend 101 = .ok (.iload_n 3, 1) := by decide +kernel
theorem dX13_lend_102 : decode cX13_lend 102 = .ok (.ineg, 1) := by decide +kernel
theorem dX13_lend_103 : decode cX13_lend 103 = .ok (.i2l, 1) := by decide +kernel
theorem dX13_lend_104 : decode cX13_lend 104 = .ok (.goto 5, 3) := by decide +kernel
theorem dX13_lend_107 : decode cX13_lend 107 = .ok (.iload_n 3, 1) := by decide +kernel
theorem dX13_lend_108 : decode cX13_lend 108 = .ok (.i2l, 1) := by decide +kernel
theorem dX13_lend_109 : decode cX13_lend 109 = .ok (.ladd, 1) := by decide +kernel
theorem dX13_lend_110 : decode cX13_lend 110 = .ok (.lastore, 1) := by decide +kernel
theorem dX13_lend_111 : decode cX13_lend 111 = .ok (.aload_n 0, 1) := by decide +kernel
theorem dX13_lend_112 : decode cX13_lend 112 = .ok (.aload 5, 2) := by decide +kernel
theorem dX13_lend_114 : decode cX13_lend 114 = .ok (.getfield 205, 3) := by decide +kernel
theorem dX13_lend_117 : decode cX13_lend 117 = .ok (.iload_n 2, 1) := by decide +kernel
theorem dX13_lend_118 : decode cX13_lend 118 = .ok (.laload, 1) := by decide +kernel
theorem dX13_lend_119 : decode cX13_lend 119 = .ok (.l2i, 1) := by decide +kernel
theorem dX13_lend_120 : decode cX13_lend 120 = .ok (.invokevirtual 86, 3) := by decide +kernel
theorem dX13_lend_123 : decode cX13_lend 123 = .ok (.ireturn, 1) := by decide +kernel
theorem dX13_weighs_0 : decode cX13_weighs 0 = .ok (.iload_n 2, 1) := by decide +kernel
theorem dX13_weighs_1 : decode cX13_weighs 1 = .ok (.ifCond .eq 21, 3) := by decide +kernel
theorem dX13_weighs_4 : decode cX13_weighs 4 = .ok (.aload_n 0, 1) := by decide +kernel
theorem dX13_weighs_5 : decode cX13_weighs 5 = .ok (.aload_n 3, 1) := by decide +kernel
theorem dX13_weighs_6 : decode cX13_weighs 6 = .ok (.aload_n 0, 1) := by decide +kernel
theorem dX13_weighs_7 : decode cX13_weighs 7 = .ok (.getfield 33, 3) := by decide +kernel
theorem dX13_weighs_10 : decode cX13_weighs 10 = .ok (.iload_n 1, 1) := by decide +kernel
theorem dX13_weighs_11 : decode cX13_weighs 11 = .ok (.iaload, 1) := by decide +kernel
theorem dX13_weighs_12 : decode cX13_weighs 12 = .ok (.invokevirtual 222, 3) := by decide +kernel
theorem dX13_weighs_15 : decode cX13_weighs 15 = .ok (.ifCond .eq 7, 3) := by decide +kernel
theorem dX13_weighs_18 : decode cX13_weighs 18 = .ok (.iconst 0, 1) := by decide +kernel
theorem dX13_weighs_19 : decode cX13_weighs 19 = .ok (.goto 9, 3) := by decide +kernel
theorem dX13_weighs_22 : decode cX13_weighs 22 = .ok (.aload_n 0, 1) := by decide +kernel
theorem dX13_weighs_23 : decode cX13_weighs 23 = .ok (.getfield 36, 3) := by decide +kernel
theorem dX13_weighs_26 : decode cX13_weighs 26 = .ok (.iload_n 1, 1) := by decide +kernel
theorem dX13_weighs_27 : decode cX13_weighs 27 = .ok (.iaload, 1) := by decide +kernel
theorem dX13_weighs_28 : decode cX13_weighs 28 = .ok (.ireturn, 1) := by decide +kernel
theorem dX13_weights_0 : decode cX13_weights 0 = .ok (.iconst 0, 1) := by decide +kernel
theorem dX13_weights_1 : decode cX13_weights 1 = .ok (.istore 4, 2) := by decide +kernel
theorem dX13_weights_3 : decode cX13_weights 3 = .ok (.iload 4, 2) := by decide +kernel
theorem dX13_weights_5 : decode cX13_weights 5 = .ok (.aload_n 0, 1) := by decide +kernel
theorem dX13_weights_6 : decode cX13_weights 6 = .ok (.getfield 213, 3) := by decide +kernel
theorem dX13_weights_9 : decode cX13_weights 9 = .ok (.if_icmp .ge 34, 3) := by decide +kernel
theorem dX13_weights_12 : decode cX13_weights 12 = .ok (.aload_n 0, 1) := by decide +kernel
theorem dX13_weights_13 : decode cX13_weights 13 = .ok (.getfield 36, 3) := by decide +kernel
theorem dX13_weights_16 : decode cX13_weights 16 = .ok (.iload 4, 2) := by decide +kernel
theorem dX13_weights_18 : decode cX13_weights 18 = .ok (.aload_n 1, 1) := by decide +kernel
theorem dX13_weights_19 : decode cX13_weights 19 = .ok (.iload_n 2, 1) := by decide +kernel
theorem dX13_weights_20 : decode cX13_weights 20 = .ok (.iload_n 3, 1) := by decide +kernel
theorem dX13_weights_21 : decode cX13_weights 21 = .ok (.aload_n 1, 1) := by decide +kernel
theorem dX13_weights_22 : decode cX13_weights 22 = .ok (.getfield 110, 3) := by decide +kernel
theorem dX13_weights_25 : decode cX13_weights 25 = .ok (.aload_n 0, 1) := by decide +kernel
theorem dX13_weights_26 : decode cX13_weights 26 = .ok (.getfield 33, 3) := by decide +kernel
theorem dX13_weights_29 : decode cX13_weights 29 = .ok (.iload 4, 2) := by decide +kernel
theorem dX13_weights_31 : decode cX13_weights 31 = .ok (.iaload, 1) := by decide +kernel
theorem dX13_weights_32 : decode cX13_weights 32 = .ok (.iaload, 1) := by decide +kernel
theorem dX13_weights_33 : decode cX13_weights 33 = .ok (.invokevirtual 154, 3) := by decide +kernel
theorem dX13_weights_36 : decode cX13_weights 36 = .ok (.iastore, 1) := by decide +kernel
theorem dX13_weights_37 : decode cX13_weights 37 = .ok (.iinc 4 1, 3) := by decide +kernel
theorem dX13_weights_40 : decode cX13_weights 40 = .ok (.goto (-37), 3) := by decide +kernel
theorem dX13_weights_43 : decode cX13_weights 43 = .ok (.return_, 1) := by decide +kernel
theorem dX13_behind_0 : decode cX13_behind 0 = .ok (.iconst 0, 1) := by decide +kernel
theorem dX13_behind_1 : decode cX13_behind 1 = .ok (.istore_n 3, 1) := by decide +kernel
theorem dX13_behind_2 : decode cX13_behind 2 = .ok (.iload_n 3, 1) := by decide +kernel
theorem dX13_behind_3 : decode cX13_behind 3 = .ok (.aload_n 0, 1) := by decide +kernel
theorem dX13_behind_4 : decode cX13_behind 4 = .ok (.getfield 61, 3) := by decide +kernel
theorem dX13_behind_7 : decode cX13_behind 7 = .ok (.if_icmp .ge 129, 3) := by decide +kernel
theorem dX13_behind_10 : decode cX13_behind 10 = .ok (.aload_n 0, 1) := by decide +kernel
theorem dX13_behind_11 : decode cX13_behind 11 = .ok (.getfield 12, 3) := by decide +kernel
theorem dX13_behind_14 : decode cX13_behind 14 = .ok (.iload_n 3, 1) := by decide +kernel
theorem dX13_behind_15 : decode cX13_behind 15 = .ok (.aaload, 1) := by decide +kernel
theorem dX13_behind_16 : decode cX13_behind 16 = .ok (.astore 4, 2) := by decide +kernel
theorem dX13_behind_18 : decode cX13_behind 18 = .ok (.iconst 0, 1) := by decide +kernel
theorem dX13_behind_19 : decode cX13_behind 19 = .ok (.istore 5, 2) := by decide +kernel
theorem dX13_behind_21 : decode cX13_behind 21 = .ok (.iload 5, 2) := by decide +kernel
theorem dX13_behind_23 : decode cX13_behind 23 = .ok (.aload 4, 2) := by decide +kernel
theorem dX13_behind_25 : decode cX13_behind 25 = .ok (.getfield 68, 3) := by decide +kernel
theorem dX13_behind_28 : decode cX13_behind 28 = .ok (.if_icmp .ge 102, 3) := by decide +kernel
theorem dX13_behind_31 : decode cX13_behind 31 = .ok (.aload_n 0, 1) := by decide +kernel
theorem dX13_behind_32 : decode cX13_behind 32 = .ok (.getfield 20, 3) := by decide +kernel
theorem dX13_behind_35 : decode cX13_behind 35 = .ok (.aload 4, 2) := by decide +kernel
theorem dX13_behind_37 : decode cX13_behind 37 = .ok (.getfield 72, 3) := by decide +kernel
theorem dX13_behind_40 : decode cX13_behind 40 = .ok (.iload 5, 2) := by decide +kernel
theorem dX13_behind_42 : decode cX13_behind 42 = .ok (.iaload, 1) := by decide +kernel
theorem dX13_behind_43 : decode cX13_behind 43 = .ok (.iaload, 1) := by decide +kernel
theorem dX13_behind_44 : decode cX13_behind 44 = .ok (.iconst 5, 1) := by decide +kernel
theorem dX13_behind_45 : decode cX13_behind 45 = .ok (.if_icmp .ne 79, 3) := by decide +kernel
theorem dX13_behind_48 : decode cX13_behind 48 = .ok (.aload_n 0, 1) := by decide +kernel
theorem dX13_behind_49 : decode cX13_behind 49 = .ok (.getfield 24, 3) := by decide +kernel
theorem dX13_behind_52 : decode cX13_behind 52 = .ok (.aload 4, 2) := by decide +kernel
theorem dX13_behind_54 : decode cX13_behind 54 = .ok (.getfield 72, 3) := by decide +kernel
theorem dX13_behind_57 : decode cX13_behind 57 = .ok (.iload 5, 2) := by decide +kernel
theorem dX13_behind_59 : decode cX13_behind 59 = .ok (.iaload, 1) := by decide +kernel
theorem dX13_behind_60 : decode cX13_behind 60 = .ok (.iaload, 1) := by decide +kernel
theorem dX13_behind_61 : decode cX13_behind 61 = .ok (.iload_n 1, 1) := by decide +kernel
theorem dX13_behind_62 : decode cX13_behind 62 = .ok (.if_icmp .ne 62, 3) := by decide +kernel
theorem dX13_behind_65 : decode cX13_behind 65 = .ok (.aload 4, 2) := by decide +kernel
theorem dX13_behind_67 : decode cX13_behind 67 = .ok (.getfield 112, 3) := by decide +kernel
theorem dX13_behind_70 : decode cX13_behind 70 = .ok (.iload 5, 2) := by decide +kernel
theorem dX13_behind_72 : decode cX13_behind 72 = .ok (.iaload, 1) := by decide +kernel
theorem dX13_behind_73 : decode cX13_behind 73 = .ok (.iload_n 2, 1) := by decide +kernel
theorem dX13_behind_74 : decode cX13_behind 74 = .ok (.if_icmp .le 6, 3) := by decide +kernel
theorem dX13_behind_77 : decode cX13_behind 77 = .ok (.goto 47, 3) := by decide +kernel
theorem dX13_behind_80 : decode cX13_behind 80 = .ok (.aload 4, 2) := by decide +kernel
theorem dX13_behind_82 : decode cX13_behind 82 = .ok (.getfield 95, 3) := by decide +kernel
theorem dX13_behind_85 : decode cX13_behind 85 = .ok (.iload 5, 2) := by decide +kernel
theorem dX13_behind_87 : decode cX13_behind 87 = .ok (.iaload, 1) := by decide +kernel
theorem dX13_behind_88 : decode cX13_behind 88 = .ok (.iconst (-1), 1) := by decide +kernel
theorem dX13_behind_89 : decode cX13_behind 89 = .ok (.if_icmp .ne 7, 3) := by decide +kernel
theorem dX13_behind_92 : decode cX13_behind 92 = .ok (.iload_n 2, 1) := by decide +kernel
theorem dX13_behind_93 : decode cX13_behind 93 = .ok (.goto 17, 3) := by decide +kernel
theorem dX13_behind_96 : decode cX13_behind 96 = .ok (.iload_n 2, 1) := by decide +kernel
theorem dX13_behind_97 : decode cX13_behind 97 = .ok (.aload 4, 2) := by decide +kernel
theorem dX13_behind_99 : decode cX13_behind 99 = .ok (.getfield 95, 3) := by decide +kernel
theorem dX13_behind_102 : decode cX13_behind 102 = .ok (.iload 5, 2) := by decide +kernel
theorem dX13_behind_104 : decode cX13_behind 104 = .ok (.iaload, 1) := by decide +kernel
theorem dX13_behind_105 : decode cX13_behind 105 = .ok (.iconst 1, 1) := by decide +kernel
theorem dX13_behind_106 : decode cX13_behind 106 = .ok (.isub, 1) := by decide +kernel
theorem dX13_behind_107 : decode cX13_behind 107 = .ok (.invokestatic 239, 3) := by decide +kernel
theorem dX13_behind_110 : decode cX13_behind 110 = .ok (.istore 6, 2) := by decide +kernel
theorem dX13_behind_112 : decode cX13_behind 112 = .ok (.aload 4, 2) := by decide +kernel
theorem dX13_behind_114 : decode cX13_behind 114 = .ok (.getfield 80, 3) := by decide +kernel
theorem dX13_behind_117 : decode cX13_behind 117 = .ok (.iload 6, 2) := by decide +kernel
theorem dX13_behind_119 : decode cX13_behind 119 = .ok (.if_icmp .ge 5, 3) := by decide +kernel
theorem dX13_behind_122 : decode cX13_behind 122 = .ok (.iload_n 3, 1) := by decide +kernel
theorem dX13_behind_123 : decode cX13_behind 123 = .ok (.ireturn, 1) := by decide +kernel
theorem dX13_behind_124 : decode cX13_behind 124 = .ok (.iinc 5 1, 3) := by decide +kernel
theorem dX13_behind_127 : decode cX13_behind 127 = .ok (.goto (-106), 3) := by decide +kernel
theorem dX13_behind_130 : decode cX13_behind 130 = .ok (.iinc 3 1, 3) := by decide +kernel
theorem dX13_behind_133 : decode cX13_behind 133 = .ok (.goto (-131), 3) := by decide +kernel
theorem dX13_behind_136 : decode cX13_behind 136 = .ok (.iconst (-1), 1) := by decide +kernel
theorem dX13_behind_137 : decode cX13_behind 137 = .ok (.ireturn, 1) := by decide +kernel
theorem dX13_interest_0 : decode cX13_interest 0 = .ok (.lconst 0, 1) := by decide +kernel
theorem dX13_interest_1 : decode cX13_interest 1 = .ok (.lstore 6, 2) := by decide +kernel
theorem dX13_interest_3 : decode cX13_interest 3 = .ok (.iload_n 3, 1) := by decide +kernel
theorem dX13_interest_4 : decode cX13_interest 4 = .ok (.istore 8, 2) := by decide +kernel
theorem dX13_interest_6 : decode cX13_interest 6 = .ok (.iload 8, 2) := by decide +kernel
theorem dX13_interest_8 : decode cX13_interest 8 = .ok (.iload_n 3, 1) := by decide +kernel
theorem dX13_interest_9 : decode cX13_interest 9 = .ok (.iload 4, 2) := by decide +kernel
theorem dX13_interest_11 : decode cX13_interest 11 = .ok (.iadd, 1) := by decide +kernel
theorem dX13_interest_12 : decode cX13_interest 12 = .ok (.if_icmp .ge 101, 3) := by decide +kernel
theorem dX13_interest_15 : decode cX13_interest 15 = .ok (.aload_n 0, 1) := by decide +kernel
theorem dX13_interest_16 : decode cX13_interest 16 = .ok (.getfield 307, 3) := by decide +kernel
theorem dX13_interest_19 : decode cX13_interest 19 = .ok (.iload_n 1, 1) := by decide +kernel
theorem dX13_interest_20 : decode cX13_interest 20 = .ok (.laload, 1) := by decide +kernel
theorem dX13_interest_21 : decode cX13_interest 21 = .ok (.lstore 9, 2) := by decide +kernel
theorem dX13_interest_23 : decode cX13_interest 23 = .ok (.iconst 0, 1) := by decide +kernel
theorem dX13_interest_24 : decode cX13_interest 24 = .ok (.istore 11, 2) := by decide +kernel
theorem dX13_interest_26 : decode cX13_interest 26 = .ok (.iload 11, 2) := by decide +kernel
theorem dX13_interest_28 : decode cX13_interest 28 = .ok (.aload_n 0, 1) := by decide +kernel
theorem dX13_interest_29 : decode cX13_interest 29 = .ok (.getfield 193, 3) := by decide +kernel
theorem dX13_interest_32 : decode cX13_interest 32 = .ok (.if_icmp .ge 57, 3) := by decide +kernel
theorem dX13_interest_35 : decode cX13_interest 35 = .ok (.aload_n 0, 1) := by decide +kernel
theorem dX13_interest_36 : decode cX13_interest 36 = .ok (.getfield 196, 3) := by decide +kernel
theorem dX13_interest_39 : decode cX13_interest 39 = .ok (.iload 11, 2) := by decide +kernel
theorem dX13_interest_41 : decode cX13_interest 41 = .ok (.iaload, 1) := by decide +kernel
theorem dX13_interest_42 : decode cX13_interest 42 = .ok (.iload_n 1, 1) := by decide +kernel
theorem dX13_interest_43 : decode cX13_interest 43 = .ok (.if_icmp .ne 40, 3) := by decide +kernel
theorem dX13_interest_46 : decode cX13_interest 46 = .ok (.aload_n 0, 1) := by decide +kernel
theorem dX13_interest_47 : decode cX13_interest 47 = .ok (.getfield 199, 3) := by decide +kernel
theorem dX13_interest_50 : decode cX13_interest 50 = .ok (.iload 11, 2) := by decide +kernel
theorem dX13_interest_52 : decode cX13_interest 52 = .ok (.iaload, 1) := by decide +kernel
theorem dX13_interest_53 : decode cX13_interest 53 = .ok (.iload 5, 2) := by decide +kernel
theorem dX13_interest_55 : decode cX13_interest 55 = .ok (.if_icmp .lt 28, 3) := by decide +kernel
theorem dX13_interest_58 : decode cX13_interest 58 = .ok (.aload_n 0, 1) := by decide +kernel
theorem dX13_interest_59 : decode cX13_interest 59 = .ok (.getfield 199, 3) := by decide +kernel
theorem dX13_interest_62 : decode cX13_interest 62 = .ok (.iload 11, 2) := by decide +kernel
theorem dX13_interest_64 : decode cX13_interest 64 = .ok (.iaload, 1) := by decide +kernel
theorem dX13_interest_65 : decode cX13_interest 65 = .ok (.iload 8, 2) := by decide +kernel
theorem dX13_interest_67 : decode cX13_interest 67 = .ok (.if_icmp .gt 16, 3) := by decide +kernel
theorem dX13_interest_70 : decode cX13_interest 70 = .ok (.lload 9, 2) := by decide +kernel
theorem dX13_interest_72 : decode cX13_interest 72 = .ok (.aload_n 0, 1) := by decide +kernel
theorem dX13_interest_73 : decode cX13_interest 73 = .ok (.getfield 202, 3) := by decide +kernel
theorem dX13_interest_76 : decode cX13_interest 76 = .ok (.iload 11, 2) := by decide +kernel
theorem dX13_interest_78 : decode cX13_interest 78 = .ok (.iaload, 1) := by decide +kernel
theorem dX13_interest_79 : decode cX13_interest 79 = .ok (.i2l, 1) := by decide +kernel
theorem dX13_interest_80 : decode cX13_interest 80 = .ok (.ladd, 1) := by decide +kernel
theorem dX13_interest_81 : decode cX13_interest 81 = .ok (.lstore 9, 2) := by decide +kernel
theorem dX13_interest_83 : decode cX13_interest 83 = .ok (.iinc 11 1, 3) := by decide +kernel
theorem dX13_interest_86 : decode cX13_interest 86 = .ok (.goto (-60), 3) := by decide +kernel
theorem dX13_interest_89 : decode cX13_interest 89 = .ok (.lload 6, 2) := by decide +kernel
theorem dX13_interest_91 : decode cX13_interest 91 = .ok (.lload 9, 2) := by decide +kernel
theorem dX13_interest_93 : decode cX13_interest 93 = .ok (.lconst 0, 1) := by decide +kernel
theorem dX13_interest_94 : decode cX13_interest 94 = .ok (.lcmp, 1) := by decide +kernel
theorem dX13_interest_95 : decode cX13_interest 95 = .ok (.ifCond .le 8, 3) := by decide +kernel
theorem dX13_interest_98 : decode cX13_interest 98 = .ok (.lload 9, 2) := by decide +kernel
theorem dX13_interest_100 : decode cX13_interest 100 = .ok (.goto 4, 3) := by decide +kernel
theorem dX13_interest_103 : decode cX13_interest 103 = .ok (.lconst 0, 1) := by decide +kernel
theorem dX13_interest_104 : decode cX13_interest 104 = .ok (.ladd, 1) := by decide +kernel
theorem dX13_interest_105 : decode cX13_interest 105 = .ok (.lstore 6, 2) := by decide +kernel
theorem dX13_interest_107 : decode cX13_interest 107 = .ok (.iinc 8 1, 3) := by decide +kernel
theorem dX13_interest_110 : decode cX13_interest 110 = .ok (.goto (-104), 3) := by decide +kernel
theorem dX13_interest_113 : decode cX13_interest 113 = .ok (.lload 6, 2) := by decide +kernel
theorem dX13_interest_115 : decode cX13_interest 115 = .ok (.aload_n 0, 1) := by decide +kernel
theorem dX13_interest_116 : decode cX13_interest 116 = .ok (.getfield 151, 3) := by decide +kernel
theorem dX13_interest_119 : decode cX13_interest 119 = .ok (.iload_n 2, 1) := by decide +kernel
theorem dX13_interest_120 : decode cX13_interest 120 = .ok (.iaload, 1) := by decide +kernel
theorem dX13_interest_121 : decode cX13_interest 121 = .ok (.i2l, 1) := by decide +kernel
theorem dX13_interest_122 : decode cX13_interest 122 = .ok (.lmul, 1) := by decide +kernel
theorem dX13_interest_123 : decode cX13_interest 123 = .ok (.ldc2_w 310, 3) := by decide +kernel
theorem dX13_interest_126 : decode cX13_interest 126 = .ok (.ldiv, 1) := by decide +kernel
theorem dX13_interest_127 : decode cX13_interest 127 = .ok (.lreturn, 1) := by decide +kernel
theorem dX13_gives_0 : decode cX13_gives 0 = .ok (.aload_n 1, 1) := by decide +kernel
theorem dX13_gives_1 : decode cX13_gives 1 = .ok (.getfield 312, 3) := by decide +kernel
theorem dX13_gives_4 : decode cX13_gives 4 = .ok (.bipush 24, 2) := by decide +kernel
theorem dX13_gives_6 : decode cX13_gives 6 = .ok (.iload_n 2, 1) := by decide +kernel
theorem dX13_gives_7 : decode cX13_gives 7 = .ok (.imul, 1) := by decide +kernel
theorem dX13_gives_8 : decode cX13_gives 8 = .ok (.iload_n 3, 1) := by decide +kernel
theorem dX13_gives_9 : decode cX13_gives 9 = .ok (.iadd, 1) := by decide +kernel
theorem dX13_gives_10 : decode cX13_gives 10 = .ok (.dup2, 1) := by decide +kernel
theorem dX13_gives_11 : decode cX13_gives 11 = .ok (.laload, 1) := by decide +kernel
theorem dX13_gives_12 : decode cX13_gives 12 = .ok (.lload 4, 2) := by decide +kernel
theorem dX13_gives_14 : decode cX13_gives 14 = .ok (.ladd, 1) := by decide +kernel
theorem dX13_gives_15 : decode cX13_gives 15 = .ok (.lastore, 1) := by decide +kernel
theorem dX13_gives_16 : decode cX13_gives 16 = .ok (.aload_n 1, 1) := by decide +kernel
theorem dX13_gives_17 : decode cX13_gives 17 = .ok (.getfield 315, 3) := by decide +kernel
theorem dX13_gives_20 : decode cX13_gives 20 = .ok (.iload_n 2, 1) := by decide +kernel
theorem dX13_gives_21 : decode cX13_gives 21 = .ok (.dup2, 1) := by decide +kernel
theorem dX13_gives_22 : decode cX13_gives 22 = .ok (.laload, 1) := by decide +kernel
theorem dX13_gives_23 : decode cX13_gives 23 = .ok (.lload 4, 2) := by decide +kernel
theorem dX13_gives_25 : decode cX13_gives 25 = .ok (.ladd, 1) := by decide +kernel
theorem dX13_gives_26 : decode cX13_gives 26 = .ok (.lastore, 1) := by decide +kernel
theorem dX13_gives_27 : decode cX13_gives 27 = .ok (.aload_n 1, 1) := by decide +kernel
theorem dX13_gives_28 : decode cX13_gives 28 = .ok (.getfield 259, 3) := by decide +kernel
theorem dX13_gives_31 : decode cX13_gives 31 = .ok (.iload_n 3, 1) := by decide +kernel
theorem dX13_gives_32 : decode cX13_gives 32 = .ok (.dup2, 1) := by decide +kernel
theorem dX13_gives_33 : decode cX13_gives 33 = .ok (.laload, 1) := by decide +kernel
theorem dX13_gives_34 : decode cX13_gives 34 = .ok (.lload 4, 2) := by decide +kernel
theorem dX13_gives_36 : decode cX13_gives 36 = .ok (.ladd, 1) := by decide +kernel
theorem dX13_gives_37 : decode cX13_gives 37 = .ok (.lastore, 1) := by decide +kernel
theorem dX13_gives_38 : decode cX13_gives 38 = .ok (.return_, 1) := by decide +kernel
theorem dX13_clears_0 : decode cX13_clears 0 = .ok (.aload_n 1, 1) := by decide +kernel
theorem dX13_clears_1 : decode cX13_clears 1 = .ok (.getfield 304, 3) := by decide +kernel
theorem dX13_clears_4 : decode cX13_clears 4 = .ok (.iload_n 2, 1) := by decide +kernel
theorem dX13_clears_5 : decode cX13_clears 5 = .ok (.lconst 0, 1) := by decide +kernel
theorem dX13_clears_6 : decode cX13_clears 6 = .ok (.lastore, 1) := by decide +kernel
theorem dX13_clears_7 : decode cX13_clears 7 = .ok (.aload_n 1, 1) := by decide +kernel
theorem dX13_clears_8 : decode cX13_clears 8 = .ok (.getfield 315, 3) := by decide +kernel
theorem dX13_clears_11 : decode cX13_clears 11 = .ok (.iload_n 2, 1) := by decide +kernel
theorem dX13_clears_12 : decode cX13_clears 12 = .ok (.lconst 0, 1) := by decide +kernel
theorem dX13_clears_13 : decode cX13_clears 13 = .ok (.lastore, 1) := by decide +kernel
theorem dX13_clears_14 : decode cX13_clears 14 = .ok (.aload_n 1, 1) := by decide +kernel
theorem dX13_clears_15 : decode cX13_clears 15 = .ok (.getfield 318, 3) := by decide +kernel
theorem dX13_clears_18 : decode cX13_clears 18 = .ok (.iload_n 2, 1) := by decide +kernel
theorem dX13_clears_19 : decode cX13_clears 19 = .ok (.aload_n 0, 1) := by decide +kernel
theorem dX13_clears_20 : decode cX13_clears 20 = .ok (.getfield 213, 3) := by decide +kernel
theorem dX13_clears_23 : decode cX13_clears 23 = .ok (.iastore, 1) := by decide +kernel
theorem dX13_clears_24 : decode cX13_clears 24 = .ok (.iconst 0, 1) := by decide +kernel
theorem dX13_clears_25 : decode cX13_clears 25 = .ok (.istore_n 3, 1) := by decide +kernel
theorem dX13_clears_26 : decode cX13_clears 26 = .ok (.iload_n 3, 1) := by decide +kernel
theorem dX13_clears_27 : decode cX13_clears 27 = .ok (.bipush 24, 2) := by decide +kernel
theorem dX13_clears_29 : decode cX13_clears 29 = .ok (.if_icmp .ge 21, 3) := by decide +kernel
theorem dX13_clears_32 : decode cX13_clears 32 = .ok (.aload_n 1, 1) := by decide +kernel
theorem dX13_clears_33 : decode cX13_clears 33 = .ok (.getfield 312, 3) := by decide +kernel
theorem dX13_clears_36 : decode cX13_clears 36 = .ok (.bipush 24, 2) := by decide +kernel
theorem dX13_clears_38 : decode cX13_clears 38 = .ok (.iload_n 2, 1) := by decide +kernel
theorem dX13_clears_39 : decode cX13_clears 39 = .ok (.imul, 1) := by decide +kernel
theorem dX13_clears_40 : decode cX13_clears 40 = .ok (.iload_n 3, 1) := by decide +kernel
theorem dX13_clears_41 : decode cX13_clears 41 = .ok (.iadd, 1) := by decide +kernel
theorem dX13_clears_42 : decode cX13_clears 42 = .ok (.lconst 0, 1) := by decide +kernel
theorem dX13_clears_43 : decode cX13_clears 43 = .ok (.lastore, 1) := by decide +kernel
theorem dX13_clears_44 : decode cX13_clears 44 = .ok (.iinc 3 1, 3) := by decide +kernel
theorem dX13_clears_47 : decode cX13_clears 47 = .ok (.goto (-21), 3) := by decide +kernel
theorem dX13_clears_50 : decode cX13_clears 50 = .ok (.return_, 1) := by decide +kernel
theorem dX13_entry_0 : decode cX13_entry 0 = .ok (.aload_n 0, 1) := by decide +kernel
theorem dX13_entry_1 : decode cX13_entry 1 = .ok (.iconst 0, 1) := by decide +kernel
theorem dX13_entry_2 : decode cX13_entry 2 = .ok (.putfield 55, 3) := by decide +kernel
theorem dX13_entry_5 : decode cX13_entry 5 = .ok (.aload_n 0, 1) := by decide +kernel
theorem dX13_entry_6 : decode cX13_entry 6 = .ok (.iload_n 1, 1) := by decide +kernel
theorem dX13_entry_7 : decode cX13_entry 7 = .ok (.invokevirtual 64, 3) := by decide +kernel
theorem dX13_entry_10 : decode cX13_entry 10 = .ok (.ifCond .eq 52, 3) := by decide +kernel
theorem dX13_entry_13 : decode cX13_entry 13 = .ok (.iload_n 2, 1) := by decide +kernel
theorem dX13_entry_14 : decode cX13_entry 14 = .ok (.ifCond .lt 48, 3) := by decide +kernel
theorem dX13_entry_17 : decode cX13_entry 17 = .ok (.iload_n 2, 1) := by decide +kernel
theorem dX13_entry_18 : decode cX13_entry 18 = .ok (.sipush 1000, 3) := by decide +kernel
theorem dX13_entry_21 : decode cX13_entry 21 = .ok (.if_icmp .ge 41, 3) := by decide +kernel
theorem dX13_entry_24 : decode cX13_entry 24 = .ok (.iload_n 3, 1) := by decide +kernel
theorem dX13_entry_25 : decode cX13_entry 25 = .ok (.ifCond .lt 37, 3) := by decide +kernel
theorem dX13_entry_28 : decode cX13_entry 28 = .ok (.iload_n 3, 1) := by decide +kernel
theorem dX13_entry_29 : decode cX13_entry 29 = .ok (.aload_n 0, 1) := by decide +kernel
theorem dX13_entry_30 : decode cX13_entry 30 = .ok (.getfield 12, 3) := by decide +kernel
theorem dX13_entry_33 : decode cX13_entry 33 = .ok (.iload_n 1, 1) := by decide +kernel
theorem dX13_entry_34 : decode cX13_entry 34 = .ok (.aaload, 1) := by decide +kernel
theorem dX13_entry_35 : decode cX13_entry 35 = .ok (.getfield 157, 3) := by decide +kernel
theorem dX13_entry_38 : decode cX13_entry 38 = .ok (.iload_n 2, 1) := by decide +kernel
theorem dX13_entry_39 : decode cX13_entry 39 = .ok (.iaload, 1) := by decide +kernel
theorem dX13_entry_40 : decode cX13_entry 40 = .ok (.if_icmp .ge 22, 3) := by decide +kernel
theorem dX13_entry_43 : decode cX13_entry 43 = .ok (.aload_n 0, 1) := by decide +kernel
theorem dX13_entry_44 : decode cX13_entry 44 = .ok (.getfield 12, 3) := by decide +kernel
theorem dX13_entry_47 : decode cX13_entry 47 = .ok (.iload_n 1, 1) := by decide +kernel
theorem dX13_entry_48 : decode cX13_entry 48 = .ok (.aaload, 1) := by decide +kernel
theorem dX13_entry_49 : decode cX13_entry 49 = .ok (.getfield 167, 3) := by decide +kernel
theorem dX13_entry_52 : decode cX13_entry 52 = .ok (.bipush 6, 2) := by decide +kernel
theorem dX13_entry_54 : decode cX13_entry 54 = .ok (.iload_n 2, 1) := by decide +kernel
theorem dX13_entry_55 : decode cX13_entry 55 = .ok (.imul, 1) := by decide +kernel
theorem dX13_entry_56 : decode cX13_entry 56 = .ok (.iload_n 3, 1) := by decide +kernel
theorem dX13_entry_57 : decode cX13_entry 57 = .ok (.iadd, 1) := by decide +kernel
theorem dX13_entry_58 : decode cX13_entry 58 = .ok (.laload, 1) := by decide +kernel
theorem dX13_entry_59 : decode cX13_entry 59 = .ok (.goto 4, 3) := by decide +kernel
theorem dX13_entry_62 : decode cX13_entry 62 = .ok (.lconst 0, 1) := by decide +kernel
theorem dX13_entry_63 : decode cX13_entry 63 = .ok (.lreturn, 1) := by decide +kernel
theorem dX13_check_0 : decode cX13_check 0 = .ok (.aload_n 0, 1) := by decide +kernel
theorem dX13_check_1 : decode cX13_check 1 = .ok (.iconst 0, 1) := by decide +kernel
theorem dX13_check_2 : decode cX13_check 2 = .ok (.putfield 55, 3) := by decide +kernel
theorem dX13_check_5 : decode cX13_check 5 = .ok (.aload_n 0, 1) := by decide +kernel
theorem dX13_check_6 : decode cX13_check 6 = .ok (.iload_n 1, 1) := by decide +kernel
theorem dX13_check_7 : decode cX13_check 7 = .ok (.invokevirtual 64, 3) := by decide +kernel
theorem dX13_check_10 : decode cX13_check 10 = .ok (.ifCond .eq 15, 3) := by decide +kernel
theorem dX13_check_13 : decode cX13_check 13 = .ok (.aload_n 0, 1) := by decide +kernel
theorem dX13_check_14 : decode cX13_check 14 = .ok (.getfield 12, 3) := by decide +kernel
theorem dX13_check_17 : decode cX13_check 17 = .ok (.iload_n 1, 1) := by decide +kernel
theorem dX13_check_18 : decode cX13_check 18 = .ok (.aaload, 1) := by decide +kernel
theorem dX13_check_19 : decode cX13_check 19 = .ok (.getfield 288, 3) := by decide +kernel
theorem dX13_check_22 : decode cX13_check 22 = .ok (.ifCond .ne 9, 3) := by decide +kernel
theorem dX13_check_25 : decode cX13_check 25 = .ok (.aload_n 0, 1) := by decide +kernel
theorem dX13_check_26 : decode cX13_check 26 = .ok (.iconst 1, 1) := by decide +kernel
theorem dX13_check_27 : decode cX13_check 27 = .ok (.invokevirtual 73, 3) := by decide +kernel
theorem dX13_check_30 : decode cX13_check 30 = .ok (.ireturn, 1) := by decide +kernel
theorem dX13_check_31 : decode cX13_check 31 = .ok (.aload_n 0, 1) := by decide +kernel
theorem dX13_check_32 : decode cX13_check 32 = .ok (.getfield 12, 3) := by decide +kernel
theorem dX13_check_35 : decode cX13_check 35 = .ok (.iload_n 1, 1) := by decide +kernel
theorem dX13_check_36 : decode cX13_check 36 = .ok (.aaload, 1) := by decide +kernel
theorem dX13_check_37 : decode cX13_check 37 = .ok (.astore_n 2, 1) := by decide +kernel
theorem dX13_check_38 : decode cX13_check 38 = .ok (.bipush (-2), 2) := by decide +kernel
theorem dX13_check_40 : decode cX13_check 40 = .ok (.istore_n 3, 1) := by decide +kernel
theorem dX13_check_41 : decode cX13_check 41 = .ok (.bipush 24, 2) := by decide +kernel
theorem dX13_check_43 : decode cX13_check 43 = .ok (.istore 4, 2) := by decide +kernel
theorem dX13_check_45 : decode cX13_check 45 = .ok (.iload 4, 2) := by decide +kernel
theorem dX13_check_47 : decode cX13_check 47 = .ok (.ifCond .lt 81, 3) := by decide +kernel
theorem dX13_check_50 : decode cX13_check 50 = .ok (.lconst 0, 1) := by decide +kernel
theorem dX13_check_51 : decode cX13_check 51 = .ok (.lstore 5, 2) := by decide +kernel
theorem dX13_check_53 : decode cX13_check 53 = .ok (.iload 4, 2) := by decide +kernel
theorem dX13_check_55 : decode cX13_check 55 = .ok (.bipush 24, 2) := by decide +kernel
theorem dX13_check_57 : decode cX13_check 57 = .ok (.if_icmp .ge 12, 3) := by decide +kernel
theorem dX13_check_60 : decode cX13_check 60 = .ok (.aload_n 2, 1) := by decide +kernel
theorem dX13_check_61 : decode cX13_check 61 = .ok (.getfield 259, 3) := by decide +kernel
theorem dX13_check_64 : decode cX13_check 64 = .ok (.iload 4, 2) := by decide +kernel
theorem dX13_check_66 : decode cX13_check 66 = .ok (.laload, 1) := by decide +kernel
theorem dX13_check_67 : decode cX13_check 67 = .ok (.lstore 5, 2) := by decide +kernel
theorem dX13_check_69 : decode cX13_check 69 = .ok (.iconst 0, 1) := by decide +kernel
theorem dX13_check_70 : decode cX13_check 70 = .ok (.istore 7, 2) := by decide +kernel
theorem dX13_check_72 : decode cX13_check 72 = .ok (.iload 7, 2) := by decide +kernel
theorem dX13_check_74 : decode cX13_check 74 = .ok (.aload_n 2, 1) := by decide +kernel
theorem dX13_check_75 : decode cX13_check 75 = .ok (.getfield 256, 3) := by decide +kernel
theorem dX13_check_78 : decode cX13_check 78 = .ok (.if_icmp .ge 28, 3) := by decide +kernel
theorem dX13_check_81 : decode cX13_check 81 = .ok (.iload 4, 2) := by decide +kernel
theorem dX13_check_83 : decode cX13_check 83 = .ok (.bipush 24, 2) := by decide +kernel
theorem dX13_check_85 : decode cX13_check 85 = .ok (.if_icmp .ne 21, 3) := by decide +kernel
theorem dX13_check_88 : decode cX13_check 88 = .ok (.lload 5, 2) := by decide +kernel
theorem dX13_check_90 : decode cX13_check 90 = .ok (.aload_n 2, 1) := by decide +kernel
theorem dX13_check_91 : decode cX13_check 91 = .ok (.getfield 304, 3) := by decide +kernel
theorem dX13_check_94 : decode cX13_check 94 = .ok (.iload 7, 2) := by decide +kernel
theorem dX13_check_96 : decode cX13_check 96 = .ok (.laload, 1) := by decide +kernel
theorem dX13_check_97 : decode cX13_check 97 = .ok (.ladd, 1) := by decide +kernel
theorem dX13_check_98 : decode cX13_check 98 = .ok (.lstore 5, 2) := by decide +kernel
theorem dX13_check_100 : decode cX13_check 100 = .ok (.iinc 7 1, 3) := by decide +kernel
theorem dX13_check_103 : decode cX13_check 103 = .ok (.goto (-31), 3) := by decide +kernel
theorem dX13_check_106 : decode cX13_check 106 = .ok (.lload 5, 2) := by decide +kernel
theorem dX13_check_108 : decode cX13_check 108 = .ok (.aload_n 0, 1) := by decide +kernel
theorem dX13_check_109 : decode cX13_check 109 = .ok (.getfield 52, 3) := by decide +kernel
theorem dX13_check_112 : decode cX13_check 112 = .ok (.iload 4, 2) := by decide +kernel
theorem dX13_check_114 : decode cX13_check 114 = .ok (.laload, 1) := by decide +kernel
theorem dX13_check_115 : decode cX13_check 115 = .ok (.lcmp, 1) := by decide +kernel
theorem dX13_check_116 : decode cX13_check 116 = .ok (.ifCond .eq 6, 3) := by decide +kernel
theorem dX13_check_119 : decode cX13_check 119 = .ok (.iload 4, 2) := by decide +kernel
theorem dX13_check_121 : decode cX13_check 121 = .ok (.istore_n 3, 1) := by decide +kernel
theorem dX13_check_122 : decode cX13_check 122 = .ok (.iinc 4 (-1), 3) := by decide +kernel
theorem dX13_check_125 : decode cX13_check 125 = .ok (.goto (-80), 3) := by decide +kernel
theorem dX13_check_128 : decode cX13_check 128 = .ok (.aload_n 0, 1) := by decide +kernel
theorem dX13_check_129 : decode cX13_check 129 = .ok (.iload_n 3, 1) := by decide +kernel
theorem dX13_check_130 : decode cX13_check 130 = .ok (.invokevirtual 86, 3) := by decide +kernel
theorem dX13_check_133 : decode cX13_check 133 = .ok (.ireturn, 1) := by decide +kernel
theorem wd_760 : Cond.fieldLink RX13 24 RX13 "told" "[I" ∈ lw_good := mem_t6 68 (by decide +kernel) rfl
theorem wd_761 : Cond.methodLink RX13 239 Lib.Math.min.name ∈ lw_good := mem_t7 43 (by decide +kernel) rfl
theorem wd_762 : Cond.constantLong RX13 310 360000 ∈ lw_good := mem_t7 79 (by decide +kernel) rfl
theorem wd_763 : Cond.fieldLink RX13 36 RX13 "weight" "[I" ∈ lw_good := mem_t6 73 (by decide +kernel) rfl
theorem wd_764 : Cond.fieldLink RX13 33 RX13 "who" "[I" ∈ lw_good := mem_t6 72 (by decide +kernel) rfl
theorem wd_765 : Cond.methodLink RX13 222 yX13_isLimited ∈ lw_good := mem_t7 101 (by decide +kernel) rfl
theorem wd_766 : Cond.instanceMethod yX13_isLimited ∈ lw_good := mem_t7 103 (by decide +kernel) rfl
theorem wd_767 : Cond.selects RX13 yX13_isLimited yX13_isLimited ∈ lw_good := mem_p 47 (by decide +kernel) rfl
theorem wd_768 : Cond.code yX13_isLimited cX13_isLimited 4 (some .boolean) ∈ lw_good := mem_t7 104 rfl rfl
theorem wd_769 : Cond.fieldLink RX13 213 RX13 "many" "I" ∈ lw_good := mem_t6 77 (by decide +kernel) rfl
theorem wd_770 : Cond.methodLink RX13 154 yX12_term ∈ lw_good := mem_t6 204 (by decide +kernel) rfl
theorem wd_771 : Cond.instanceMethod yX12_term ∈ lw_good := mem_t6 205 (by decide +kernel) rfl
theorem wd_772 : Cond.selects RX12 yX12_term yX12_term ∈ lw_good := mem_t6 206 (by decide +kernel) rfl
theorem wd_773 : Cond.code yX12_term cX12_term 4 (some .int) ∈ lw_good := mem_t6 207 rfl rfl
theorem wd_774 : Cond.methodLink RX13 164 yX13_isSum ∈ lw_good := mem_t6 224 (by decide +kernel) rfl
theorem wd_775 : Cond.static yX13_isSum ∈ lw_good := mem_t6 225 (by decide +kernel) rfl
theorem wd_776 : Cond.code yX13_isSum cX13_isSum 1 (some .boolean) ∈ lw_good := mem_t6 226 rfl rfl
theorem wd_777 : Cond.constantLong RX13 208 1000000000 ∈ lw_good := mem_t7 18 (by decide +kernel) rfl
theorem wd_778 : Cond.constant RX13 102 1000000 ∈ lw_good := mem_t6 151 (by decide +kernel) rfl
theorem wd_779 : Cond.methodLink RX13 103 yX13_holder ∈ lw_good := mem_t6 152 (by decide +kernel) rfl
theorem wd_780 : Cond.instanceMethod yX13_holder ∈ lw_good := mem_t6 154 (by decide +kernel) rfl
theorem wd_781 : Cond.selects RX13 yX13_holder yX13_holder ∈ lw_good := mem_p 30 (by decide +kernel) rfl
theorem wd_782 : Cond.code yX13_holder cX13_holder 4 (some .int) ∈ lw_good := mem_t6 155 rfl rfl
theorem negL {f x : Int32} (e : f = -x) (h1 : ¬ x < 1) (h2 : x ≤ 1000000) : (-1000000) ≤ f ∧ f ≤ 24 := by
  subst e
  have a1 := Int32.le_iff_toInt_le.mp (Int32.not_lt.mp h1)
  have a2 := Int32.le_iff_toInt_le.mp h2
  rw [show (1 : Int32).toInt = 1 from rfl] at a1
  rw [show (1000000 : Int32).toInt = 1000000 from rfl] at a2
  have e : (-x).toInt = -x.toInt := by
    rw [Int32.toInt_neg]
    apply Int.bmod_eq_of_le <;> omega
  constructor
  · apply Int32.le_iff_toInt_le.mpr
    rw [e, show (-1000000 : Int32).toInt = -1000000 from rfl]
    omega
  · apply Int32.le_iff_toInt_le.mpr
    rw [e, show (24 : Int32).toInt = 24 from rfl]
    omega
set_option maxHeartbeats 4000000 in
set_option maxRecDepth 100000 in
theorem r_X13_check (l : Launch) (D : va_G) (cy : Nat → ClassId) (K : Kp) (L : List Nat) (M : Hp) (sz : Nat) (za : Nat) (z0 : Int32) (z1 : Nat) (z2 : Nat) (z3 : Nat) (z4 : Int32) (z5 : Int32) (z6 : Nat) (z7 : Nat) (z8 : Nat) (z9 : Nat) (z10 : Nat) (z11 : Nat) (z12 : Nat) (z13 : Nat) (z14 : Nat) (z15 : Nat) (z16 : Nat) (z17 : Nat) (z18 : Int32) (z19 : Nat) (k1 : Int32) (hW : WOM cy K L M) (i1 : isk K L z1 23 8) (b2 : z2 ≤ 8) (b3 : z3 ≤ 40) (i6 : isk K L z6 47 40) (i7 : isk K L z7 48 40) (i8 : isk K L z8 49 8) (i9 : isk K L z9 50 8) (b10 : z10 ≤ 8) (i11 : isk K L z11 32 24) (i12 : isk K L z12 14 24) (i13 : isk K L z13 97 24) (i14 : isk K L z14 98 24) (i15 : isk K L z15 99 24) (b16 : z16 ≤ 24) (i17 : isk K L z17 14 24) (i19 : isk K L z19 15 25) : Met l yX13_check (wsM yX13_check cX13_check 8 (some .int)) ({ frames := 1, cells := 0, slots := 0, locals := 21 }) (va_Pc [.ref za, .int k1] (PG D cy [(za, (b13_0 z0 z1 (nI z2) (nI z3) z4 z5 z6 z7 z8 z9 (nI z10) z11 z12 z13 z14 z15 (nI z16) z17 z18 z19))] L M sz)) (va_Qi (fun (r : Int32) (_ : Unit) => True) (fun _ t => ∃ (w4 : Int32), PQ D [(za, (b13_0 0 z1 (nI z2) (nI z3) w4 (-1) z6 z7 z8 z9 (nI z10) z11 z12 z13 z14 z15 (nI z16) z17 z18 z19))] L M (va_A ([(za, (b13_0 z0 z1 (nI z2) (nI z3) z4 z5 z6 z7 z8 z9 (nI z10) z11 z12 z13 z14 z15 (nI z16) z17 z18 z19))] ++ va_pl L M) sz) t) (va_A ([(za, (b13_0 z0 z1 (nI z2) (nI z3) z4 z5 z6 z7 z8 z9 (nI z10) z11 z12 z13 z14 z15 (nI z16) z17 z18 z19))] ++ va_pl L M) sz)) 0 0 (va_A ([(za, (b13_0 z0 z1 (nI z2) (nI z3) z4 z5 z6 z7 z8 z9 (nI z10) z11 z12 z13 z14 z15 (nI z16) z17 z18 z19))] ++ va_pl L M) sz) := by
  refine Met.ofW (cc := cX13_check) (maxL := 8) (ret := (some .int)) (by decide) rfl ?_
  intro p e s m args below meth c s₁ B hml hv
  obtain ⟨rfl, hsz, hP, hK, hD0, hN⟩ := hv
  have hx := B.exec
  have hb := B.bytes
  have hr := B.returns
  have hts := atoms_spec (ws := (wsM yX13_check cX13_check 8 (some .int))) B.pre
  have hg : ∀ w ∈ lw_good, w.before _ s = true := fun w h => hts w (List.mem_cons_of_mem _ h)
  have hown : s.vm.findClass RX13 = some m.cls := findClass_of_methodNamed B.named
  have hlocks := B.notSynchronized
  subst hsz
  have hD := hD0.self (sz := s.heap.size)
  generalize hAe : va_A ([(za, (b13_0 z0 z1 (nI z2) (nI z3) z4 z5 z6 z7 z8 z9 (nI z10) z11 z12 z13 z14 z15 (nI z16) z17 z18 z19))] ++ va_pl L M) s.heap.size = A at hD ⊢
  have hA : ∀ q : Nat, s.heap.size ≤ q → A q := fun q h => by rw [← hAe]; exact Or.inr h
  have hS : va_S A s.heap s.heap [] := va_S.rf
  have hl := lv_entry ([.ref za, .int k1]) (n := 8) (Nat.le_of_ble_eq_true rfl)
  rw [lg_entry_eq]
  generalize (lg_sl ([.ref za, .int k1]) ++ List.replicate (8 - (lg_sl ([.ref za, .int k1])).length) Slot.unset).toArray = ls at hl ⊢
  refine W.nameQ (fun Q hQ => ?_)
  refine W.nameR (fun R hR => ?_)
  have hRf : 1 ≤ R.frames := by rw [hR]; exact Nat.le_of_ble_eq_true rfl
  have hRl : 21 ≤ R.locals := by rw [hR]; exact Nat.le_of_ble_eq_true rfl
  have hRc : 0 ≤ R.cells := by rw [hR]; exact Nat.le_of_ble_eq_true rfl
  have hRs : 0 ≤ R.slots := by rw [hR]; exact Nat.le_of_ble_eq_true rfl
  have hl : lv_has ls 8 [(0, .ref za), (1, .int k1)] := hl
  refine lv_aload_n hx hb dX13_check_0 rfl (lv_at hl 0 rfl) ?_
  refine lv_iconst (v := 0) hx hb dX13_check_1 (by decide) ?_
  refine va_put (D := D) (ci := 13) (v := .int 0) (ty := .int) (C := RX13) (T := TX13) (N := 20) hx hb hg inG13 tyX13 tyX13_ok nmX13 hown hK hP hD hS 0 rfl rfl 0 (by decide) (hg _ wd_720) (fun _ h9 => h9) rfl (by decide +kernel) rfl rfl (Nat.le_of_ble_eq_true rfl) dX13_check_2 (fun H_1 locs hP hD hS => ?_)
  have hP : va_P D vwCl ([(za, (b13_0 0 z1 (nI z2) (nI z3) z4 z5 z6 z7 z8 z9 (nI z10) z11 z12 z13 z14 z15 (nI z16) z17 z18 z19))] ++ va_pl L M) H_1 := hP
  have hD : va_D A ([(za, (b13_0 0 z1 (nI z2) (nI z3) z4 z5 z6 z7 z8 z9 (nI z10) z11 z12 z13 z14 z15 (nI z16) z17 z18 z19))] ++ va_pl L M) := hD
  refine lv_aload_n hx hb dX13_check_5 rfl (lv_at hl 0 rfl) ?_
  refine lv_iload_n hx hb dX13_check_6 rfl (lv_at hl 1 rfl) ?_
  have hPc : va_P D vwCl ([(za, (b13_0 0 z1 (nI z2) (nI z3) z4 z5 z6 z7 z8 z9 (nI z10) z11 z12 z13 z14 z15 (nI z16) z17 z18 z19))] ++ va_pl L M) H_1 := hP
  have hDc : va_D A ([(za, (b13_0 0 z1 (nI z2) (nI z3) z4 z5 z6 z7 z8 z9 (nI z10) z11 z12 z13 z14 z15 (nI z16) z17 z18 z19))] ++ va_pl L M) := hD
  have hFc : ∀ q, va_A ([(za, (b13_0 0 z1 (nI z2) (nI z3) z4 z5 z6 z7 z8 z9 (nI z10) z11 z12 z13 z14 z15 (nI z16) z17 z18 z19))] ++ va_pl L M) H_1.size q → A q := pg_free hDc hS hA
  refine va_calli (va_runV (As := [.int k1]) (rest := []) ⟨hx, hb, hml, hown, hg⟩ (r_X13_isHouse l D cy K L M H_1.size za 0 z1 z2 z3 z4 z5 z6 z7 z8 z9 z10 z11 z12 z13 z14 z15 z16 z17 z18 z19 k1  hW i1 b2 b3 i6 i7 i8 i9 b10 i11 i12 i13 i14 i15 b16 i17 i19) (cwV 1 hg (gV wd_714 wd_715 wd_716 wd_717 wd_718) rfl rfl rfl (by decide +kernel) ⟨(Nat.le_trans (Nat.le_of_ble_eq_true rfl) hRf), (Nat.le_trans (Nat.le_of_ble_eq_true rfl) hRl)⟩) ⟨PG.blind, va_recv hK hP (ci := 13) (q0 := 0) rfl rfl, fun U hU hW => ⟨rfl, PG.at hPc hK hDc hN hU hW⟩⟩ rfl rfl hl.1 rfl (lv_room (Nat.le_of_ble_eq_true rfl)) dX13_check_7 ⟨(Nat.le_trans (Nat.le_of_ble_eq_true rfl) hRc), (Nat.le_trans (Nat.le_of_ble_eq_true rfl) hRs)⟩) hS (fun q _ h => hFc q h) hFc (fun r_3 M_4 t H_2 locs ht hvm hw hB hz1 hk1 hS => ?_)
  have hp_5 := hw
  obtain ⟨hP1, hD1⟩ := hB
  rw [ht] at hP1
  have hP : va_P D vwCl ([(za, (b13_0 0 z1 (nI z2) (nI z3) z4 z5 z6 z7 z8 z9 (nI z10) z11 z12 z13 z14 z15 (nI z16) z17 z18 z19))] ++ va_pl L M) H_2 := hP1
  have hD : va_D A ([(za, (b13_0 0 z1 (nI z2) (nI z3) z4 z5 z6 z7 z8 z9 (nI z10) z11 z12 z13 z14 z15 (nI z16) z17 z18 z19))] ++ va_pl L M) := hD1.mono hFc
  rcases hp_5 with ⟨rfl, c_6, c_7⟩ | rfl
  · have hz := rfl (a := 0)
    refine lv_if_eq (tgt := 25) hx hb dX13_check_10 (by decide) (fun c_8 => absurd c_8 (by decide)) (fun _ => ?_)
    refine lv_aload_n hx hb dX13_check_13 rfl (lv_at hl 0 rfl) ?_
    refine va_get (D := D) (ci := 13) (v := .ref z1) (C := RX13) (T := TX13) (N := 20) hx hb hg inG13 hown hK hP 0 rfl rfl 1 (by decide) (hg _ wd_739) (fun _ h9 => h9) rfl dX13_check_14 ?_
    refine lv_iload_n hx hb dX13_check_17 rfl (lv_at hl 1 rfl) ?_
    obtain ⟨f9, hM9, hf9⟩ := hW.open_23 i1
    have hi_10 : vp_in k1 8 := (inbW (a := z2) (by omega) (inb k1 z2 (by omega) c_6 c_7))
    refine pg_aldq hx hb hK hP i1.1 9 hM9 rfl hi_10 dX13_check_18 ?_
    obtain ⟨b11, eb_12, hb_13⟩ := hf9 _ (vp_lt hi_10)
    rw [eb_12]
    obtain ⟨fs14, hM14, hn14, hl14⟩ := hW.open_12 hb_13
    obtain ⟨v15, hv15, hc15⟩ : ∃ v : Int32, fs14[18]? = some (.int v : Value) ∧ (v = 0 ∨ v = 1) := hl14 18 (by decide)
    refine pg_getN (D := D) (ci := 12) (v := .int v15) (C := RX12) (T := TX12) (N := 51) hx hb hg inG12 hown hK hP hb_13.1 hM14 rfl 18 (by decide) (hN.use (Cond.fieldLinkNest RX13 288 RX12 "hasClosed" "Z" RX13) 27 rfl rfl) (fun _ h9 => h9) hv15 dX13_check_19 ?_
    refine lv_if_ne (tgt := 31) hx hb dX13_check_22 (by decide) (fun c_16 => ?_) (fun c_16 => ?_)
    · have hz := rfl (a := 0)
      refine lv_aload_n hx hb dX13_check_31 rfl (lv_at hl 0 rfl) ?_
      refine va_get (D := D) (ci := 13) (v := .ref z1) (C := RX13) (T := TX13) (N := 20) hx hb hg inG13 hown hK hP 0 rfl rfl 1 (by decide) (hg _ wd_739) (fun _ h9 => h9) rfl dX13_check_32 ?_
      refine lv_iload_n hx hb dX13_check_35 rfl (lv_at hl 1 rfl) ?_
      have hi_17 : vp_in k1 8 := (inbW (a := z2) (by omega) (inb k1 z2 (by omega) c_6 c_7))
      refine pg_aldq hx hb hK hP i1.1 9 hM9 rfl hi_17 dX13_check_36 ?_
      rw [show f9 (k1 : Int32).toNatClampNeg = some b11 from eb_12]
      refine lv_astore_n (lv' := [(2, .ref b11), (0, .ref za), (1, .int k1)]) hx hb dX13_check_37 rfl hl (by decide) rfl (fun ls hl => ?_)
      refine lv_bipush (v := (-2)) hx hb dX13_check_38 (by decide) ?_
      refine lv_istore_n (lv' := [(3, .int (-2)), (2, .ref b11), (0, .ref za), (1, .int k1)]) hx hb dX13_check_40 rfl hl (by decide) rfl (fun ls hl => ?_)
      refine lv_bipush (v := 24) hx hb dX13_check_41 (by decide) ?_
      refine lv_istore (lv' := [(4, .int 24), (3, .int (-2)), (2, .ref b11), (0, .ref za), (1, .int k1)]) hx hb dX13_check_43 hl (by decide) rfl (fun ls hl => ?_)
      have key_18 : ∀ (fu_20 : Nat) (v3w21 : Int32) (v4w21 : Nat) (H_23 : Heap) (locs : List Loc) (ls : Array Slot), v4w21 < fu_20 → v4w21 ≤ 25 → WOM cy K L M → va_P D vwCl ([(za, (b13_0 0 z1 (nI z2) (nI z3) z4 z5 z6 z7 z8 z9 (nI z10) z11 z12 z13 z14 z15 (nI z16) z17 z18 z19))] ++ va_pl L M) H_23 → va_D A ([(za, (b13_0 0 z1 (nI z2) (nI z3) z4 z5 z6 z7 z8 z9 (nI z10) z11 z12 z13 z14 z15 (nI z16) z17 z18 z19))] ++ va_pl L M) → va_S A s.heap H_23 locs → lv_has ls 8 [(4, .int (pm v4w21)), (3, .int v3w21), (2, .ref b11), (0, .ref za), (1, .int k1)] → W p l e R s m ([.ref za, .int k1] : List Value).toArray below meth c H_23 locs 0 0 Q (F0 m 45 ls []) := by
        intro fu_20
        induction fu_20 with
        | zero => intro v3w21 v4w21 H_23 locs ls h; exact absurd h (Nat.not_lt_zero _)
        | succ fu_20 ih_19 =>
          intro v3w21 v4w21 H_23 locs ls hfu hx_22 hW hP hD hS hl
          rcases v4w21 with _ | c_24
          · have hl : lv_has ls 8 [(4, .int (-1)), (3, .int v3w21), (2, .ref b11), (0, .ref za), (1, .int k1)] := hl
            refine lv_iload hx hb dX13_check_45 (lv_at hl 0 rfl) ?_
            refine lv_if_lt (tgt := 128) hx hb dX13_check_47 (by decide) (fun _ => ?_) (fun c_25 => absurd c_25 (by decide))
            refine lv_aload_n hx hb dX13_check_128 rfl (lv_at hl 3 rfl) ?_
            refine lv_iload_n hx hb dX13_check_129 rfl (lv_at hl 1 rfl) ?_
            have hPc := hP.sub (ws' := [(za, (b13_0 0 z1 (nI z2) (nI z3) z4 z5 z6 z7 z8 z9 (nI z10) z11 z12 z13 z14 z15 (nI z16) z17 z18 z19))]) [0] rfl
            have hDc := hD.sub (ws' := [(za, (b13_0 0 z1 (nI z2) (nI z3) z4 z5 z6 z7 z8 z9 (nI z10) z11 z12 z13 z14 z15 (nI z16) z17 z18 z19))]) [0] (by decide) rfl
            have hKc := hK.sub (tys' := []) [] rfl
            have hFc := va_free (wc := [(za, (b13_0 0 z1 (nI z2) (nI z3) z4 z5 z6 z7 z8 z9 (nI z10) z11 z12 z13 z14 z15 (nI z16) z17 z18 z19))]) hD hS hA [0] rfl
            refine va_calli (va_runV (As := [.int v3w21]) (rest := []) ⟨hx, hb, hml, hown, hg⟩ (m_done l D H_23.size za 0 z1 (nI z2) (nI z3) z4 z5 z6 z7 z8 z9 (nI z10) z11 z12 z13 z14 z15 (nI z16) z17 z18 z19 v3w21) (cwV 1 hg (gV wd_730 wd_731 wd_732 wd_717 wd_733) rfl rfl rfl (by decide +kernel) ⟨(Nat.le_trans (Nat.le_of_ble_eq_true rfl) hRf), (Nat.le_trans (Nat.le_of_ble_eq_true rfl) hRl)⟩) ⟨Pr.blind, va_recv hK hP (ci := 13) (q0 := 0) rfl rfl, fun U hU hW => ⟨rfl, Pr.at hPc hKc hDc hN hU hW⟩⟩ rfl rfl hl.1 rfl (lv_room (Nat.le_of_ble_eq_true rfl)) dX13_check_130 ⟨(Nat.le_trans (Nat.le_of_ble_eq_true rfl) hRc), (Nat.le_trans (Nat.le_of_ble_eq_true rfl) hRs)⟩) hS (fun q _ h => hFc q h) hFc (fun r_27 M_28 t H_26 locs ht hvm hw hB hz1 hk1 hS => ?_)
            have hp_29 := hw
            obtain ⟨hP1, hK1, hD1⟩ := hB
            rw [ht] at hP1
            obtain ⟨hP, hD⟩ := va_joinQ (X := [(za, (b13_0 0 z1 (nI z2) (nI z3) z4 z5 z6 z7 z8 z9 (nI z10) z11 z12 z13 z14 z15 (nI z16) z17 z18 z19))]) (cx := [(za, (b13_0 0 z1 (nI z2) (nI z3) z4 z5 z6 z7 z8 z9 (nI z10) z11 z12 z13 z14 z15 (nI z16) z17 z18 z19))]) (wr := []) (w1 := [(za, (b13_0 0 z1 (nI z2) (nI z3) 0 (-1) z6 z7 z8 z9 (nI z10) z11 z12 z13 z14 z15 (nI z16) z17 z18 z19))]) (pl := va_pl L M) hP hD [0] [] rfl rfl (by decide) (by decide) hk1 hFc hP1 hD1
            have hP : va_P D vwCl ([(za, (b13_0 0 z1 (nI z2) (nI z3) 0 (-1) z6 z7 z8 z9 (nI z10) z11 z12 z13 z14 z15 (nI z16) z17 z18 z19))] ++ va_pl L M) H_26 := hP
            have hD : va_D A ([(za, (b13_0 0 z1 (nI z2) (nI z3) 0 (-1) z6 z7 z8 z9 (nI z10) z11 z12 z13 z14 z15 (nI z16) z17 z18 z19))] ++ va_pl L M) := hD
            have hq := Eq.symm hp_29
            subst hq
            rw [hQ]
            exact W.iret (v := v3w21) hx hb hr (fun t ht hW9 => ⟨⟨v3w21, (), rfl, trivial, ⟨0, by rw [ht]; exact hP, hD⟩⟩, hS.F ht⟩) hS.2.2 dX13_check_133
          · have hl : lv_has ls 8 [(4, .int (nI c_24)), (3, .int v3w21), (2, .ref b11), (0, .ref za), (1, .int k1)] := hl
            refine lv_iload hx hb dX13_check_45 (lv_at hl 0 rfl) ?_
            refine lv_if_lt (tgt := 128) hx hb dX13_check_47 (by decide) (fun c_30 => absurd c_30 (nI_pos (by omega))) (fun _ => ?_)
            refine lv_lconst (v := 0) hx hb dX13_check_50 (by decide) ?_
            refine lv_lstore (lv' := [(5, .long 0), (4, .int (nI c_24)), (3, .int v3w21), (2, .ref b11), (0, .ref za), (1, .int k1)]) hx hb dX13_check_51 hl (by decide) rfl (fun ls hl => ?_)
            refine lv_iload hx hb dX13_check_53 (lv_at hl 1 rfl) ?_
            refine lv_bipush (v := 24) hx hb dX13_check_55 (by decide) ?_
            refine lv_icmp_ge (tgt := 69) hx hb dX13_check_57 (by decide) (fun c_31 => ?_) (fun c_31 => ?_)
            · have hz := rfl (a := 0)
              have n_32 : 24 ≤ c_24 := (iLE (a := 24) (b := c_24) (by omega) (by omega)).mp c_31
              refine lv_iconst (v := 0) hx hb dX13_check_69 (by decide) ?_
              refine lv_istore (lv' := [(7, .int 0), (5, .long 0), (4, .int (nI c_24)), (3, .int v3w21), (2, .ref b11), (0, .ref za), (1, .int k1)]) hx hb dX13_check_70 hl (by decide) rfl (fun ls hl => ?_)
              have key_33 : ∀ (fu_35 : Nat) (v5w36 : Int64) (v7w36 : Nat) (H_38 : Heap) (locs : List Loc) (ls : Array Slot), 120 - v7w36 < fu_35 → v7w36 ≤ 120 → WOM cy K L M → va_P D vwCl ([(za, (b13_0 0 z1 (nI z2) (nI z3) z4 z5 z6 z7 z8 z9 (nI z10) z11 z12 z13 z14 z15 (nI z16) z17 z18 z19))] ++ va_pl L M) H_38 → va_D A ([(za, (b13_0 0 z1 (nI z2) (nI z3) z4 z5 z6 z7 z8 z9 (nI z10) z11 z12 z13 z14 z15 (nI z16) z17 z18 z19))] ++ va_pl L M) → va_S A s.heap H_38 locs → lv_has ls 8 [(7, .int (nI v7w36)), (5, .long v5w36), (4, .int (nI c_24)), (3, .int v3w21), (2, .ref b11), (0, .ref za), (1, .int k1)] → W p l e R s m ([.ref za, .int k1] : List Value).toArray below meth c H_38 locs 0 0 Q (F0 m 72 ls []) := by
                intro fu_35
                induction fu_35 with
                | zero => intro v5w36 v7w36 H_38 locs ls h; exact absurd h (Nat.not_lt_zero _)
                | succ fu_35 ih_34 =>
                  intro v5w36 v7w36 H_38 locs ls hfu hx_37 hW hP hD hS hl
                  refine lv_iload hx hb dX13_check_72 (lv_at hl 0 rfl) ?_
                  refine lv_aload_n hx hb dX13_check_74 rfl (lv_at hl 4 rfl) ?_
                  obtain ⟨v39, hv39, hc39⟩ : ∃ v : Nat, fs14[17]? = some (.int (nI v) : Value) ∧ v ≤ 120 := hl14 17 (by decide)
                  refine pg_getN (D := D) (ci := 12) (v := .int (nI v39)) (C := RX12) (T := TX12) (N := 51) hx hb hg inG12 hown hK hP hb_13.1 hM14 rfl 17 (by decide) (hN.use (Cond.fieldLinkNest RX13 256 RX12 "stretches" "I" RX13) 26 rfl rfl) (fun _ h9 => h9) hv39 dX13_check_75 ?_
                  refine lv_icmp_ge (tgt := 106) hx hb dX13_check_78 (by decide) (fun c_40 => ?_) (fun c_40 => ?_)
                  · have hz := rfl (a := 0)
                    have n_41 : v39 ≤ v7w36 := (iLE (a := v39) (b := v7w36) (by omega) (by omega)).mp c_40
                    refine lv_lload hx hb dX13_check_106 (lv_at hl 1 rfl) ?_
                    refine lv_aload_n hx hb dX13_check_108 rfl (lv_at hl 5 rfl) ?_
                    refine va_get (D := D) (ci := 13) (v := .ref z19) (C := RX13) (T := TX13) (N := 20) hx hb hg inG13 hown hK hP 0 rfl rfl 19 (by decide) (hg _ wd_729) (fun _ h9 => h9) rfl dX13_check_109 ?_
                    refine lv_iload hx hb dX13_check_112 (lv_at hl 2 rfl) ?_
                    obtain ⟨f42, hM42⟩ := hW.open_15 i19
                    refine pg_lald hx hb hK hP i19.1 1 hM42 rfl (inbN c_24 25 (by omega) (by omega)) dX13_check_114 ?_
                    refine lv_topl (fun f_43 ef_43 => ?_)
                    refine W.lcmp hx hb dX13_check_115 ?_
                    refine lv_if_eq (tgt := 122) hx hb dX13_check_116 (by decide) (fun c_44 => ?_) (fun c_44 => ?_)
                    · have hz := rfl (a := 0)
                      rcases Nat.eq_zero_or_pos c_24 with hz0 | hz1
                      · refine lv_iinc (v := (-1)) (lv' := [(4, .int (-1)), (7, .int (nI v7w36)), (5, .long v5w36), (3, .int v3w21), (2, .ref b11), (0, .ref za), (1, .int k1)]) hx hb dX13_check_122 hl (k := 2) rfl (by rw [hz0]; decide) (by decide) rfl (fun ls hl => ?_)
                        refine lv_goto (tgt := 45) hx hb dX13_check_125 (by decide) ?_
                        exact ih_19 v3w21 0 H_38 _ _ (by omega) (by omega) hW hP hD hS (lv_sub hl [0, 3, 4, 5, 6] rfl)
                      · refine lv_iinc (v := (nI (c_24 - 1))) (lv' := [(4, .int (nI (c_24 - 1))), (7, .int (nI v7w36)), (5, .long v5w36), (3, .int v3w21), (2, .ref b11), (0, .ref za), (1, .int k1)]) hx hb dX13_check_122 hl (k := 2) rfl (sb_m1 hz1) (by decide) rfl (fun ls hl => ?_)
                        refine lv_goto (tgt := 45) hx hb dX13_check_125 (by decide) ?_
                        exact ih_19 v3w21 ((c_24 - 1) + 1) H_38 _ _ (by omega) (by omega) hW hP hD hS (lv_sub hl [0, 3, 4, 5, 6] rfl)
                    · have hz := rfl (a := 0)
                      refine lv_iload hx hb dX13_check_119 (lv_at hl 2 rfl) ?_
                      refine lv_istore_n (lv' := [(3, .int (nI c_24)), (7, .int (nI v7w36)), (5, .long v5w36), (4, .int (nI c_24)), (2, .ref b11), (0, .ref za), (1, .int k1)]) hx hb dX13_check_121 rfl hl (by decide) rfl (fun ls hl => ?_)
                      rcases Nat.eq_zero_or_pos c_24 with hz0 | hz1
                      · refine lv_iinc (v := (-1)) (lv' := [(4, .int (-1)), (3, .int (nI c_24)), (7, .int (nI v7w36)), (5, .long v5w36), (2, .ref b11), (0, .ref za), (1, .int k1)]) hx hb dX13_check_122 hl (k := 3) rfl (by rw [hz0]; decide) (by decide) rfl (fun ls hl => ?_)
                        refine lv_goto (tgt := 45) hx hb dX13_check_125 (by decide) ?_
                        exact ih_19 (nI c_24) 0 H_38 _ _ (by omega) (by omega) hW hP hD hS (lv_sub hl [0, 1, 4, 5, 6] rfl)
                      · refine lv_iinc (v := (nI (c_24 - 1))) (lv' := [(4, .int (nI (c_24 - 1))), (3, .int (nI c_24)), (7, .int (nI v7w36)), (5, .long v5w36), (2, .ref b11), (0, .ref za), (1, .int k1)]) hx hb dX13_check_122 hl (k := 3) rfl (sb_m1 hz1) (by decide) rfl (fun ls hl => ?_)
                        refine lv_goto (tgt := 45) hx hb dX13_check_125 (by decide) ?_
                        exact ih_19 (nI c_24) ((c_24 - 1) + 1) H_38 _ _ (by omega) (by omega) hW hP hD hS (lv_sub hl [0, 1, 4, 5, 6] rfl)
                  · have hz := rfl (a := 0)
                    have n_46 : ¬ (v39 ≤ v7w36) := fun q => c_40 ((iLE (a := v39) (b := v7w36) (by omega) (by omega)).mpr q)
                    refine lv_iload hx hb dX13_check_81 (lv_at hl 2 rfl) ?_
                    refine lv_bipush (v := 24) hx hb dX13_check_83 (by decide) ?_
                    refine lv_icmp_ne (tgt := 106) hx hb dX13_check_85 (by decide) (fun c_47 => ?_) (fun c_47 => ?_)
                    · have hz := rfl (a := 0)
                      have n_48 : ¬ (c_24 = 24) := fun q => c_47 ((iEQ (a := c_24) (b := 24) (by omega) (by omega)).mpr q)
                      refine lv_lload hx hb dX13_check_106 (lv_at hl 1 rfl) ?_
                      refine lv_aload_n hx hb dX13_check_108 rfl (lv_at hl 5 rfl) ?_
                      refine va_get (D := D) (ci := 13) (v := .ref z19) (C := RX13) (T := TX13) (N := 20) hx hb hg inG13 hown hK hP 0 rfl rfl 19 (by decide) (hg _ wd_729) (fun _ h9 => h9) rfl dX13_check_109 ?_
                      refine lv_iload hx hb dX13_check_112 (lv_at hl 2 rfl) ?_
                      obtain ⟨f49, hM49⟩ := hW.open_15 i19
                      refine pg_lald hx hb hK hP i19.1 1 hM49 rfl (inbN c_24 25 (by omega) (by omega)) dX13_check_114 ?_
                      refine lv_topl (fun f_50 ef_50 => ?_)
                      refine W.lcmp hx hb dX13_check_115 ?_
                      refine lv_if_eq (tgt := 122) hx hb dX13_check_116 (by decide) (fun c_51 => ?_) (fun c_51 => ?_)
                      · have hz := rfl (a := 0)
                        rcases Nat.eq_zero_or_pos c_24 with hz0 | hz1
                        · refine lv_iinc (v := (-1)) (lv' := [(4, .int (-1)), (7, .int (nI v7w36)), (5, .long v5w36), (3, .int v3w21), (2, .ref b11), (0, .ref za), (1, .int k1)]) hx hb dX13_check_122 hl (k := 2) rfl (by rw [hz0]; decide) (by decide) rfl (fun ls hl => ?_)
                          refine lv_goto (tgt := 45) hx hb dX13_check_125 (by decide) ?_
                          exact ih_19 v3w21 0 H_38 _ _ (by omega) (by omega) hW hP hD hS (lv_sub hl [0, 3, 4, 5, 6] rfl)
                        · refine lv_iinc (v := (nI (c_24 - 1))) (lv' := [(4, .int (nI (c_24 - 1))), (7, .int (nI v7w36)), (5, .long v5w36), (3, .int v3w21), (2, .ref b11), (0, .ref za), (1, .int k1)]) hx hb dX13_check_122 hl (k := 2) rfl (sb_m1 hz1) (by decide) rfl (fun ls hl => ?_)
                          refine lv_goto (tgt := 45) hx hb dX13_check_125 (by decide) ?_
                          exact ih_19 v3w21 ((c_24 - 1) + 1) H_38 _ _ (by omega) (by omega) hW hP hD hS (lv_sub hl [0, 3, 4, 5, 6] rfl)
                      · have hz := rfl (a := 0)
                        refine lv_iload hx hb dX13_check_119 (lv_at hl 2 rfl) ?_
                        refine lv_istore_n (lv' := [(3, .int (nI c_24)), (7, .int (nI v7w36)), (5, .long v5w36), (4, .int (nI c_24)), (2, .ref b11), (0, .ref za), (1, .int k1)]) hx hb dX13_check_121 rfl hl (by decide) rfl (fun ls hl => ?_)
                        rcases Nat.eq_zero_or_pos c_24 with hz0 | hz1
                        · refine lv_iinc (v := (-1)) (lv' := [(4, .int (-1)), (3, .int (nI c_24)), (7, .int (nI v7w36)), (5, .long v5w36), (2, .ref b11), (0, .ref za), (1, .int k1)]) hx hb dX13_check_122 hl (k := 3) rfl (by rw [hz0]; decide) (by decide) rfl (fun ls hl => ?_)
                          refine lv_goto (tgt := 45) hx hb dX13_check_125 (by decide) ?_
                          exact ih_19 (nI c_24) 0 H_38 _ _ (by omega) (by omega) hW hP hD hS (lv_sub hl [0, 1, 4, 5, 6] rfl)
                        · refine lv_iinc (v := (nI (c_24 - 1))) (lv' := [(4, .int (nI (c_24 - 1))), (3, .int (nI c_24)), (7, .int (nI v7w36)), (5, .long v5w36), (2, .ref b11), (0, .ref za), (1, .int k1)]) hx hb dX13_check_122 hl (k := 3) rfl (sb_m1 hz1) (by decide) rfl (fun ls hl => ?_)
                          refine lv_goto (tgt := 45) hx hb dX13_check_125 (by decide) ?_
                          exact ih_19 (nI c_24) ((c_24 - 1) + 1) H_38 _ _ (by omega) (by omega) hW hP hD hS (lv_sub hl [0, 1, 4, 5, 6] rfl)
                    · have hz := rfl (a := 0)
                      have n_53 : c_24 = 24 := (iEQ (a := c_24) (b := 24) (by omega) (by omega)).mp c_47
                      refine lv_lload hx hb dX13_check_88 (lv_at hl 1 rfl) ?_
                      refine lv_aload_n hx hb dX13_check_90 rfl (lv_at hl 4 rfl) ?_
                      obtain ⟨v54, hv54, hc54⟩ : ∃ v : Nat, fs14[48]? = some (.ref v : Value) ∧ isk K L v 94 120 := hl14 48 (by decide)
                      refine pg_getN (D := D) (ci := 12) (v := .ref v54) (C := RX12) (T := TX12) (N := 51) hx hb hg inG12 hown hK hP hb_13.1 hM14 rfl 48 (by decide) (hN.use (Cond.fieldLinkNest RX13 304 RX12 "none" "[J" RX13) 57 rfl rfl) (fun _ h9 => h9) hv54 dX13_check_91 ?_
                      refine lv_iload hx hb dX13_check_94 (lv_at hl 0 rfl) ?_
                      obtain ⟨f55, hM55⟩ := hW.open_94 hc54
                      refine pg_lald hx hb hK hP hc54.1 1 hM55 rfl (inbN v7w36 120 (by omega) (by omega)) dX13_check_96 ?_
                      refine lv_topl (fun f_56 ef_56 => ?_)
                      refine lv_ladd hx hb dX13_check_97 ?_
                      refine lv_topl (fun f_57 ef_57 => ?_)
                      refine lv_lstore (lv' := [(5, .long f_57), (7, .int (nI v7w36)), (4, .int (nI c_24)), (3, .int v3w21), (2, .ref b11), (0, .ref za), (1, .int k1)]) hx hb dX13_check_98 hl (by decide) rfl (fun ls hl => ?_)
                      refine lv_iinc (v := (nI (v7w36 + 1))) (lv' := [(7, .int (nI (v7w36 + 1))), (5, .long f_57), (4, .int (nI c_24)), (3, .int v3w21), (2, .ref b11), (0, .ref za), (1, .int k1)]) hx hb dX13_check_100 hl (k := 1) rfl (nI_1 v7w36) (by decide) rfl (fun ls hl => ?_)
                      refine lv_goto (tgt := 72) hx hb dX13_check_103 (by decide) ?_
                      exact ih_34 f_57 (v7w36 + 1) H_38 _ _ (by omega) (by omega) hW hP hD hS (lv_sub hl [0, 1, 2, 3, 4, 5, 6] rfl)
              exact key_33 (120 - 0 + 1) 0 0 H_23 _ _ (by omega) (by omega) hW hP hD hS (lv_sub hl [0, 1, 2, 3, 4, 5, 6] rfl)
            · have hz := rfl (a := 0)
              have n_58 : ¬ (24 ≤ c_24) := fun q => c_31 ((iLE (a := 24) (b := c_24) (by omega) (by omega)).mpr q)
              refine lv_aload_n hx hb dX13_check_60 rfl (lv_at hl 3 rfl) ?_
              obtain ⟨v59, hv59, hc59⟩ : ∃ v : Nat, fs14[33]? = some (.ref v : Value) ∧ isk K L v 92 24 := hl14 33 (by decide)
              refine pg_getN (D := D) (ci := 12) (v := .ref v59) (C := RX12) (T := TX12) (N := 51) hx hb hg inG12 hown hK hP hb_13.1 hM14 rfl 33 (by decide) (hN.use (Cond.fieldLinkNest RX13 259 RX12 "dues" "[J" RX13) 42 rfl rfl) (fun _ h9 => h9) hv59 dX13_check_61 ?_
              refine lv_iload hx hb dX13_check_64 (lv_at hl 1 rfl) ?_
              obtain ⟨f60, hM60⟩ := hW.open_92 hc59
              refine pg_lald hx hb hK hP hc59.1 1 hM60 rfl (inbN c_24 24 (by omega) (by omega)) dX13_check_66 ?_
              refine lv_topl (fun f_61 ef_61 => ?_)
              refine lv_lstore (lv' := [(5, .long f_61), (4, .int (nI c_24)), (3, .int v3w21), (2, .ref b11), (0, .ref za), (1, .int k1)]) hx hb dX13_check_67 hl (by decide) rfl (fun ls hl => ?_)
              refine lv_iconst (v := 0) hx hb dX13_check_69 (by decide) ?_
              refine lv_istore (lv' := [(7, .int 0), (5, .long f_61), (4, .int (nI c_24)), (3, .int v3w21), (2, .ref b11), (0, .ref za), (1, .int k1)]) hx hb dX13_check_70 hl (by decide) rfl (fun ls hl => ?_)
              have key_62 : ∀ (fu_64 : Nat) (v5w65 : Int64) (v7w65 : Nat) (H_67 : Heap) (locs : List Loc) (ls : Array Slot), 120 - v7w65 < fu_64 → v7w65 ≤ 120 → WOM cy K L M → va_P D vwCl ([(za, (b13_0 0 z1 (nI z2) (nI z3) z4 z5 z6 z7 z8 z9 (nI z10) z11 z12 z13 z14 z15 (nI z16) z17 z18 z19))] ++ va_pl L M) H_67 → va_D A ([(za, (b13_0 0 z1 (nI z2) (nI z3) z4 z5 z6 z7 z8 z9 (nI z10) z11 z12 z13 z14 z15 (nI z16) z17 z18 z19))] ++ va_pl L M) → va_S A s.heap H_67 locs → lv_has ls 8 [(7, .int (nI v7w65)), (5, .long v5w65), (4, .int (nI c_24)), (3, .int v3w21), (2, .ref b11), (0, .ref za), (1, .int k1)] → W p l e R s m ([.ref za, .int k1] : List Value).toArray below meth c H_67 locs 0 0 Q (F0 m 72 ls []) := by
                intro fu_64
                induction fu_64 with
                | zero => intro v5w65 v7w65 H_67 locs ls h; exact absurd h (Nat.not_lt_zero _)
                | succ fu_64 ih_63 =>
                  intro v5w65 v7w65 H_67 locs ls hfu hx_66 hW hP hD hS hl
                  refine lv_iload hx hb dX13_check_72 (lv_at hl 0 rfl) ?_
                  refine lv_aload_n hx hb dX13_check_74 rfl (lv_at hl 4 rfl) ?_
                  obtain ⟨v68, hv68, hc68⟩ : ∃ v : Nat, fs14[17]? = some (.int (nI v) : Value) ∧ v ≤ 120 := hl14 17 (by decide)
                  refine pg_getN (D := D) (ci := 12) (v := .int (nI v68)) (C := RX12) (T := TX12) (N := 51) hx hb hg inG12 hown hK hP hb_13.1 hM14 rfl 17 (by decide) (hN.use (Cond.fieldLinkNest RX13 256 RX12 "stretches" "I" RX13) 26 rfl rfl) (fun _ h9 => h9) hv68 dX13_check_75 ?_
                  refine lv_icmp_ge (tgt := 106) hx hb dX13_check_78 (by decide) (fun c_69 => ?_) (fun c_69 => ?_)
                  · have hz := rfl (a := 0)
                    have n_70 : v68 ≤ v7w65 := (iLE (a := v68) (b := v7w65) (by omega) (by omega)).mp c_69
                    refine lv_lload hx hb dX13_check_106 (lv_at hl 1 rfl) ?_
                    refine lv_aload_n hx hb dX13_check_108 rfl (lv_at hl 5 rfl) ?_
                    refine va_get (D := D) (ci := 13) (v := .ref z19) (C := RX13) (T := TX13) (N := 20) hx hb hg inG13 hown hK hP 0 rfl rfl 19 (by decide) (hg _ wd_729) (fun _ h9 => h9) rfl dX13_check_109 ?_
                    refine lv_iload hx hb dX13_check_112 (lv_at hl 2 rfl) ?_
                    obtain ⟨f71, hM71⟩ := hW.open_15 i19
                    refine pg_lald hx hb hK hP i19.1 1 hM71 rfl (inbN c_24 25 (by omega) (by omega)) dX13_check_114 ?_
                    refine lv_topl (fun f_72 ef_72 => ?_)
                    refine W.lcmp hx hb dX13_check_115 ?_
                    refine lv_if_eq (tgt := 122) hx hb dX13_check_116 (by decide) (fun c_73 => ?_) (fun c_73 => ?_)
                    · have hz := rfl (a := 0)
                      rcases Nat.eq_zero_or_pos c_24 with hz0 | hz1
                      · refine lv_iinc (v := (-1)) (lv' := [(4, .int (-1)), (7, .int (nI v7w65)), (5, .long v5w65), (3, .int v3w21), (2, .ref b11), (0, .ref za), (1, .int k1)]) hx hb dX13_check_122 hl (k := 2) rfl (by rw [hz0]; decide) (by decide) rfl (fun ls hl => ?_)
                        refine lv_goto (tgt := 45) hx hb dX13_check_125 (by decide) ?_
                        exact ih_19 v3w21 0 H_67 _ _ (by omega) (by omega) hW hP hD hS (lv_sub hl [0, 3, 4, 5, 6] rfl)
                      · refine lv_iinc (v := (nI (c_24 - 1))) (lv' := [(4, .int (nI (c_24 - 1))), (7, .int (nI v7w65)), (5, .long v5w65), (3, .int v3w21), (2, .ref b11), (0, .ref za), (1, .int k1)]) hx hb dX13_check_122 hl (k := 2) rfl (sb_m1 hz1) (by decide) rfl (fun ls hl => ?_)
                        refine lv_goto (tgt := 45) hx hb dX13_check_125 (by decide) ?_
                        exact ih_19 v3w21 ((c_24 - 1) + 1) H_67 _ _ (by omega) (by omega) hW hP hD hS (lv_sub hl [0, 3, 4, 5, 6] rfl)
                    · have hz := rfl (a := 0)
                      refine lv_iload hx hb dX13_check_119 (lv_at hl 2 rfl) ?_
                      refine lv_istore_n (lv' := [(3, .int (nI c_24)), (7, .int (nI v7w65)), (5, .long v5w65), (4, .int (nI c_24)), (2, .ref b11), (0, .ref za), (1, .int k1)]) hx hb dX13_check_121 rfl hl (by decide) rfl (fun ls hl => ?_)
                      rcases Nat.eq_zero_or_pos c_24 with hz0 | hz1
                      · refine lv_iinc (v := (-1)) (lv' := [(4, .int (-1)), (3, .int (nI c_24)), (7, .int (nI v7w65)), (5, .long v5w65), (2, .ref b11), (0, .ref za), (1, .int k1)]) hx hb dX13_check_122 hl (k := 3) rfl (by rw [hz0]; decide) (by decide) rfl (fun ls hl => ?_)
                        refine lv_goto (tgt := 45) hx hb dX13_check_125 (by decide) ?_
                        exact ih_19 (nI c_24) 0 H_67 _ _ (by omega) (by omega) hW hP hD hS (lv_sub hl [0, 1, 4, 5, 6] rfl)
                      · refine lv_iinc (v := (nI (c_24 - 1))) (lv' := [(4, .int (nI (c_24 - 1))), (3, .int (nI c_24)), (7, .int (nI v7w65)), (5, .long v5w65), (2, .ref b11), (0, .ref za), (1, .int k1)]) hx hb dX13_check_122 hl (k := 3) rfl (sb_m1 hz1) (by decide) rfl (fun ls hl => ?_)
                        refine lv_goto (tgt := 45) hx hb dX13_check_125 (by decide) ?_
                        exact ih_19 (nI c_24) ((c_24 - 1) + 1) H_67 _ _ (by omega) (by omega) hW hP hD hS (lv_sub hl [0, 1, 4, 5, 6] rfl)
                  · have hz := rfl (a := 0)
                    have n_75 : ¬ (v68 ≤ v7w65) := fun q => c_69 ((iLE (a := v68) (b := v7w65) (by omega) (by omega)).mpr q)
                    refine lv_iload hx hb dX13_check_81 (lv_at hl 2 rfl) ?_
                    refine lv_bipush (v := 24) hx hb dX13_check_83 (by decide) ?_
                    refine lv_icmp_ne (tgt := 106) hx hb dX13_check_85 (by decide) (fun c_76 => ?_) (fun c_76 => ?_)
                    · have hz := rfl (a := 0)
                      have n_77 : ¬ (c_24 = 24) := fun q => c_76 ((iEQ (a := c_24) (b := 24) (by omega) (by omega)).mpr q)
                      refine lv_lload hx hb dX13_check_106 (lv_at hl 1 rfl) ?_
                      refine lv_aload_n hx hb dX13_check_108 rfl (lv_at hl 5 rfl) ?_
                      refine va_get (D := D) (ci := 13) (v := .ref z19) (C := RX13) (T := TX13) (N := 20) hx hb hg inG13 hown hK hP 0 rfl rfl 19 (by decide) (hg _ wd_729) (fun _ h9 => h9) rfl dX13_check_109 ?_
                      refine lv_iload hx hb dX13_check_112 (lv_at hl 2 rfl) ?_
                      obtain ⟨f78, hM78⟩ := hW.open_15 i19
                      refine pg_lald hx hb hK hP i19.1 1 hM78 rfl (inbN c_24 25 (by omega) (by omega)) dX13_check_114 ?_
                      refine lv_topl (fun f_79 ef_79 => ?_)
                      refine W.lcmp hx hb dX13_check_115 ?_
                      refine lv_if_eq (tgt := 122) hx hb dX13_check_116 (by decide) (fun c_80 => ?_) (fun c_80 => ?_)
                      · have hz := rfl (a := 0)
                        rcases Nat.eq_zero_or_pos c_24 with hz0 | hz1
                        · refine lv_iinc (v := (-1)) (lv' := [(4, .int (-1)), (7, .int (nI v7w65)), (5, .long v5w65), (3, .int v3w21), (2, .ref b11), (0, .ref za), (1, .int k1)]) hx hb dX13_check_122 hl (k := 2) rfl (by rw [hz0]; decide) (by decide) rfl (fun ls hl => ?_)
                          refine lv_goto (tgt := 45) hx hb dX13_check_125 (by decide) ?_
                          exact ih_19 v3w21 0 H_67 _ _ (by omega) (by omega) hW hP hD hS (lv_sub hl [0, 3, 4, 5, 6] rfl)
                        · refine lv_iinc (v := (nI (c_24 - 1))) (lv' := [(4, .int (nI (c_24 - 1))), (7, .int (nI v7w65)), (5, .long v5w65), (3, .int v3w21), (2, .ref b11), (0, .ref za), (1, .int k1)]) hx hb dX13_check_122 hl (k := 2) rfl (sb_m1 hz1) (by decide) rfl (fun ls hl => ?_)
                          refine lv_goto (tgt := 45) hx hb dX13_check_125 (by decide) ?_
                          exact ih_19 v3w21 ((c_24 - 1) + 1) H_67 _ _ (by omega) (by omega) hW hP hD hS (lv_sub hl [0, 3, 4, 5, 6] rfl)
                      · have hz := rfl (a := 0)
                        refine lv_iload hx hb dX13_check_119 (lv_at hl 2 rfl) ?_
                        refine lv_istore_n (lv' := [(3, .int (nI c_24)), (7, .int (nI v7w65)), (5, .long v5w65), (4, .int (nI c_24)), (2, .ref b11), (0, .ref za), (1, .int k1)]) hx hb dX13_check_121 rfl hl (by decide) rfl (fun ls hl => ?_)
                        rcases Nat.eq_zero_or_pos c_24 with hz0 | hz1
                        · refine lv_iinc (v := (-1)) (lv' := [(4, .int (-1)), (3, .int (nI c_24)), (7, .int (nI v7w65)), (5, .long v5w65), (2, .ref b11), (0, .ref za), (1, .int k1)]) hx hb dX13_check_122 hl (k := 3) rfl (by rw [hz0]; decide) (by decide) rfl (fun ls hl => ?_)
                          refine lv_goto (tgt := 45) hx hb dX13_check_125 (by decide) ?_
                          exact ih_19 (nI c_24) 0 H_67 _ _ (by omega) (by omega) hW hP hD hS (lv_sub hl [0, 1, 4, 5, 6] rfl)
                        · refine lv_iinc (v := (nI (c_24 - 1))) (lv' := [(4, .int (nI (c_24 - 1))), (3, .int (nI c_24)), (7, .int (nI v7w65)), (5, .long v5w65), (2, .ref b11), (0, .ref za), (1, .int k1)]) hx hb dX13_check_122 hl (k := 3) rfl (sb_m1 hz1) (by decide) rfl (fun ls hl => ?_)
                          refine lv_goto (tgt := 45) hx hb dX13_check_125 (by decide) ?_
                          exact ih_19 (nI c_24) ((c_24 - 1) + 1) H_67 _ _ (by omega) (by omega) hW hP hD hS (lv_sub hl [0, 1, 4, 5, 6] rfl)
                    · have hz := rfl (a := 0)
                      have n_82 : c_24 = 24 := (iEQ (a := c_24) (b := 24) (by omega) (by omega)).mp c_76
                      refine lv_lload hx hb dX13_check_88 (lv_at hl 1 rfl) ?_
                      refine lv_aload_n hx hb dX13_check_90 rfl (lv_at hl 4 rfl) ?_
                      obtain ⟨v83, hv83, hc83⟩ : ∃ v : Nat, fs14[48]? = some (.ref v : Value) ∧ isk K L v 94 120 := hl14 48 (by decide)
                      refine pg_getN (D := D) (ci := 12) (v := .ref v83) (C := RX12) (T := TX12) (N := 51) hx hb hg inG12 hown hK hP hb_13.1 hM14 rfl 48 (by decide) (hN.use (Cond.fieldLinkNest RX13 304 RX12 "none" "[J" RX13) 57 rfl rfl) (fun _ h9 => h9) hv83 dX13_check_91 ?_
                      refine lv_iload hx hb dX13_check_94 (lv_at hl 0 rfl) ?_
                      obtain ⟨f84, hM84⟩ := hW.open_94 hc83
                      refine pg_lald hx hb hK hP hc83.1 1 hM84 rfl (inbN v7w65 120 (by omega) (by omega)) dX13_check_96 ?_
                      refine lv_topl (fun f_85 ef_85 => ?_)
                      refine lv_ladd hx hb dX13_check_97 ?_
                      refine lv_topl (fun f_86 ef_86 => ?_)
                      refine lv_lstore (lv' := [(5, .long f_86), (7, .int (nI v7w65)), (4, .int (nI c_24)), (3, .int v3w21), (2, .ref b11), (0, .ref za), (1, .int k1)]) hx hb dX13_check_98 hl (by decide) rfl (fun ls hl => ?_)
                      refine lv_iinc (v := (nI (v7w65 + 1))) (lv' := [(7, .int (nI (v7w65 + 1))), (5, .long f_86), (4, .int (nI c_24)), (3, .int v3w21), (2, .ref b11), (0, .ref za), (1, .int k1)]) hx hb dX13_check_100 hl (k := 1) rfl (nI_1 v7w65) (by decide) rfl (fun ls hl => ?_)
                      refine lv_goto (tgt := 72) hx hb dX13_check_103 (by decide) ?_
                      exact ih_63 f_86 (v7w65 + 1) H_67 _ _ (by omega) (by omega) hW hP hD hS (lv_sub hl [0, 1, 2, 3, 4, 5, 6] rfl)
              exact key_62 (120 - 0 + 1) f_61 0 H_23 _ _ (by omega) (by omega) hW hP hD hS (lv_sub hl [0, 1, 2, 3, 4, 5, 6] rfl)
      exact key_18 ((24 + 1) + 1) (-2) (24 + 1) H_2 _ _ (by omega) (by omega) hW hP hD hS (lv_sub hl [0, 1, 2, 3, 4] rfl)
    · have hz := rfl (a := 0)
      refine lv_aload_n hx hb dX13_check_25 rfl (lv_at hl 0 rfl) ?_
      refine lv_iconst (v := 1) hx hb dX13_check_26 (by decide) ?_
      have hPc := hP.sub (ws' := [(za, (b13_0 0 z1 (nI z2) (nI z3) z4 z5 z6 z7 z8 z9 (nI z10) z11 z12 z13 z14 z15 (nI z16) z17 z18 z19))]) [0] rfl
      have hDc := hD.sub (ws' := [(za, (b13_0 0 z1 (nI z2) (nI z3) z4 z5 z6 z7 z8 z9 (nI z10) z11 z12 z13 z14 z15 (nI z16) z17 z18 z19))]) [0] (by decide) rfl
      have hKc := hK.sub (tys' := []) [] rfl
      have hFc := va_free (wc := [(za, (b13_0 0 z1 (nI z2) (nI z3) z4 z5 z6 z7 z8 z9 (nI z10) z11 z12 z13 z14 z15 (nI z16) z17 z18 z19))]) hD hS hA [0] rfl
      refine va_calli (va_runV (As := [.int 1]) (rest := []) ⟨hx, hb, hml, hown, hg⟩ (m_refused l D H_2.size za 0 z1 (nI z2) (nI z3) z4 z5 z6 z7 z8 z9 (nI z10) z11 z12 z13 z14 z15 (nI z16) z17 z18 z19 1) (cwV 1 hg (gV wd_725 wd_726 wd_727 wd_717 wd_728) rfl rfl rfl (by decide +kernel) ⟨(Nat.le_trans (Nat.le_of_ble_eq_true rfl) hRf), (Nat.le_trans (Nat.le_of_ble_eq_true rfl) hRl)⟩) ⟨Pr.blind, va_recv hK hP (ci := 13) (q0 := 0) rfl rfl, fun U hU hW => ⟨rfl, Pr.at hPc hKc hDc hN hU hW⟩⟩ rfl rfl hl.1 rfl (lv_room (Nat.le_of_ble_eq_true rfl)) dX13_check_27 ⟨(Nat.le_trans (Nat.le_of_ble_eq_true rfl) hRc), (Nat.le_trans (Nat.le_of_ble_eq_true rfl) hRs)⟩) hS (fun q _ h => hFc q h) hFc (fun r_88 M_89 t H_87 locs ht hvm hw hB hz1 hk1 hS => ?_)
      have hp_90 := hw
      obtain ⟨hP1, hK1, hD1⟩ := hB
      rw [ht] at hP1
      obtain ⟨hP, hD⟩ := va_joinQ (X := [(za, (b13_0 0 z1 (nI z2) (nI z3) z4 z5 z6 z7 z8 z9 (nI z10) z11 z12 z13 z14 z15 (nI z16) z17 z18 z19))]) (cx := [(za, (b13_0 0 z1 (nI z2) (nI z3) z4 z5 z6 z7 z8 z9 (nI z10) z11 z12 z13 z14 z15 (nI z16) z17 z18 z19))]) (wr := []) (w1 := [(za, (b13_0 0 z1 (nI z2) (nI z3) 1 (-1) z6 z7 z8 z9 (nI z10) z11 z12 z13 z14 z15 (nI z16) z17 z18 z19))]) (pl := va_pl L M) hP hD [0] [] rfl rfl (by decide) (by decide) hk1 hFc hP1 hD1
      have hP : va_P D vwCl ([(za, (b13_0 0 z1 (nI z2) (nI z3) 1 (-1) z6 z7 z8 z9 (nI z10) z11 z12 z13 z14 z15 (nI z16) z17 z18 z19))] ++ va_pl L M) H_87 := hP
      have hD : va_D A ([(za, (b13_0 0 z1 (nI z2) (nI z3) 1 (-1) z6 z7 z8 z9 (nI z10) z11 z12 z13 z14 z15 (nI z16) z17 z18 z19))] ++ va_pl L M) := hD
      have hq := Eq.symm hp_90
      subst hq
      rw [hQ]
      exact W.iret (v := (-1)) hx hb hr (fun t ht hW9 => ⟨⟨(-1), (), rfl, trivial, ⟨1, by rw [ht]; exact hP, hD⟩⟩, hS.F ht⟩) hS.2.2 dX13_check_30
  · have hz := rfl (a := 0)
    refine lv_if_eq (tgt := 25) hx hb dX13_check_10 (by decide) (fun _ => ?_) (fun c_91 => absurd c_91 (by decide))
    refine lv_aload_n hx hb dX13_check_25 rfl (lv_at hl 0 rfl) ?_
    refine lv_iconst (v := 1) hx hb dX13_check_26 (by decide) ?_
    have hPc := hP.sub (ws' := [(za, (b13_0 0 z1 (nI z2) (nI z3) z4 z5 z6 z7 z8 z9 (nI z10) z11 z12 z13 z14 z15 (nI z16) z17 z18 z19))]) [0] rfl
    have hDc := hD.sub (ws' := [(za, (b13_0 0 z1 (nI z2) (nI z3) z4 z5 z6 z7 z8 z9 (nI z10) z11 z12 z13 z14 z15 (nI z16) z17 z18 z19))]) [0] (by decide) rfl
    have hKc := hK.sub (tys' := []) [] rfl
    have hFc := va_free (wc := [(za, (b13_0 0 z1 (nI z2) (nI z3) z4 z5 z6 z7 z8 z9 (nI z10) z11 z12 z13 z14 z15 (nI z16) z17 z18 z19))]) hD hS hA [0] rfl
    refine va_calli (va_runV (As := [.int 1]) (rest := []) ⟨hx, hb, hml, hown, hg⟩ (m_refused l D H_2.size za 0 z1 (nI z2) (nI z3) z4 z5 z6 z7 z8 z9 (nI z10) z11 z12 z13 z14 z15 (nI z16) z17 z18 z19 1) (cwV 1 hg (gV wd_725 wd_726 wd_727 wd_717 wd_728) rfl rfl rfl (by decide +kernel) ⟨(Nat.le_trans (Nat.le_of_ble_eq_true rfl) hRf), (Nat.le_trans (Nat.le_of_ble_eq_true rfl) hRl)⟩) ⟨Pr.blind, va_recv hK hP (ci := 13) (q0 := 0) rfl rfl, fun U hU hW => ⟨rfl, Pr.at hPc hKc hDc hN hU hW⟩⟩ rfl rfl hl.1 rfl (lv_room (Nat.le_of_ble_eq_true rfl)) dX13_check_27 ⟨(Nat.le_trans (Nat.le_of_ble_eq_true rfl) hRc), (Nat.le_trans (Nat.le_of_ble_eq_true rfl) hRs)⟩) hS (fun q _ h => hFc q h) hFc (fun r_93 M_94 t H_92 locs ht hvm hw hB hz1 hk1 hS => ?_)
    have hp_95 := hw
    obtain ⟨hP1, hK1, hD1⟩ := hB
    rw [ht] at hP1
    obtain ⟨hP, hD⟩ := va_joinQ (X := [(za, (b13_0 0 z1 (nI z2) (nI z3) z4 z5 z6 z7 z8 z9 (nI z10) z11 z12 z13 z14 z15 (nI z16) z17 z18 z19))]) (cx := [(za, (b13_0 0 z1 (nI z2) (nI z3) z4 z5 z6 z7 z8 z9 (nI z10) z11 z12 z13 z14 z15 (nI z16) z17 z18 z19))]) (wr := []) (w1 := [(za, (b13_0 0 z1 (nI z2) (nI z3) 1 (-1) z6 z7 z8 z9 (nI z10) z11 z12 z13 z14 z15 (nI z16) z17 z18 z19))]) (pl := va_pl L M) hP hD [0] [] rfl rfl (by decide) (by decide) hk1 hFc hP1 hD1
    have hP : va_P D vwCl ([(za, (b13_0 0 z1 (nI z2) (nI z3) 1 (-1) z6 z7 z8 z9 (nI z10) z11 z12 z13 z14 z15 (nI z16) z17 z18 z19))] ++ va_pl L M) H_92 := hP
    have hD : va_D A ([(za, (b13_0 0 z1 (nI z2) (nI z3) 1 (-1) z6 z7 z8 z9 (nI z10) z11 z12 z13 z14 z15 (nI z16) z17 z18 z19))] ++ va_pl L M) := hD
    have hq := Eq.symm hp_95
    subst hq
    rw [hQ]
    exact W.iret (v := (-1)) hx hb hr (fun t ht hW9 => ⟨⟨(-1), (), rfl, trivial, ⟨1, by rw [ht]; exact hP, hD⟩⟩, hS.F ht⟩) hS.2.2 dX13_check_30
set_option maxHeartbeats 4000000 in
set_option maxRecDepth 100000 in
theorem r_X13_interest (l : Launch) (D : va_G) (cy : Nat → ClassId) (K : Kp) (L : List Nat) (M : Hp) (sz : Nat) (k1 : Nat) (k2 : Nat) (k3 : Nat) (k4 : Nat) (k5 : Nat) (k6 : Int32) (hW : WOM cy K L M) (ik1 : isk K L k1 12 0) (nk2 : k2 < 24) (nk3 : k3 < 16) (nk4 : k4 < 1000) (nk5 : k5 < 1001) : Met l yX13_interest (wsM yX13_interest cX13_interest 12 (some .long)) ({ frames := 0, cells := 0, slots := 0, locals := 0 }) (va_Pc [.ref k1, .int (nI k2), .int (nI k3), .int (nI k4), .int (nI k5), .int k6] (PG D cy [] L M sz)) (va_Ql (fun (r : Int64) (_ : Unit) => True) (fun _ t => PQ D [] L M (va_A ([] ++ va_pl L M) sz) t) (va_A ([] ++ va_pl L M) sz)) 0 0 (va_A ([] ++ va_pl L M) sz) := by
  refine Met.ofW (cc := cX13_interest) (maxL := 12) (ret := (some .long)) (by decide) rfl ?_
  intro p e s m args below meth c s₁ B hml hv
  obtain ⟨rfl, hsz, hP, hK, hD0, hN⟩ := hv
  have hx := B.exec
  have hb := B.bytes
  have hr := B.returns
  have hts := atoms_spec (ws := (wsM yX13_interest cX13_interest 12 (some .long))) B.pre
  have hg : ∀ w ∈ lw_good, w.before _ s = true := fun w h => hts w (List.mem_cons_of_mem _ h)
  have hown : s.vm.findClass RX13 = some m.cls := findClass_of_methodNamed B.named
  have hlocks := B.notSynchronized
  subst hsz
  have hD := hD0.self (sz := s.heap.size)
  generalize hAe : va_A ([] ++ va_pl L M) s.heap.size = A at hD ⊢
  have hA : ∀ q : Nat, s.heap.size ≤ q → A q := fun q h => by rw [← hAe]; exact Or.inr h
  have hS : va_S A s.heap s.heap [] := va_S.rf
  have hl := lv_entry ([.ref k1, .int (nI k2), .int (nI k3), .int (nI k4), .int (nI k5), .int k6]) (n := 12) (Nat.le_of_ble_eq_true rfl)
  rw [lg_entry_eq]
  generalize (lg_sl ([.ref k1, .int (nI k2), .int (nI k3), .int (nI k4), .int (nI k5), .int k6]) ++ List.replicate (12 - (lg_sl ([.ref k1, .int (nI k2), .int (nI k3), .int (nI k4), .int (nI k5), .int k6])).length) Slot.unset).toArray = ls at hl ⊢
  refine W.nameQ (fun Q hQ => ?_)
  refine W.nameR (fun R hR => ?_)
  have hRf : 0 ≤ R.frames := by rw [hR]; exact Nat.le_of_ble_eq_true rfl
  have hRl : 0 ≤ R.locals := by rw [hR]; exact Nat.le_of_ble_eq_true rfl
  have hRc : 0 ≤ R.cells := by rw [hR]; exact Nat.le_of_ble_eq_true rfl
  have hRs : 0 ≤ R.slots := by rw [hR]; exact Nat.le_of_ble_eq_true rfl
  have hl : lv_has ls 12 [(0, .ref k1), (1, .int (nI k2)), (2, .int (nI k3)), (3, .int (nI k4)), (4, .int (nI k5)), (5, .int k6)] := hl
  refine lv_lconst (v := 0) hx hb dX13_interest_0 (by decide) ?_
  refine lv_lstore (lv' := [(6, .long 0), (0, .ref k1), (1, .int (nI k2)), (2, .int (nI k3)), (3, .int (nI k4)), (4, .int (nI k5)), (5, .int k6)]) hx hb dX13_interest_1 hl (by decide) rfl (fun ls hl => ?_)
  refine lv_iload_n hx hb dX13_interest_3 rfl (lv_at hl 4 rfl) ?_
  refine lv_istore (lv' := [(8, .int (nI k4)), (6, .long 0), (0, .ref k1), (1, .int (nI k2)), (2, .int (nI k3)), (3, .int (nI k4)), (4, .int (nI k5)), (5, .int k6)]) hx hb dX13_interest_4 hl (by decide) rfl (fun ls hl => ?_)
  have key_1 : ∀ (fu_3 : Nat) (v6w4 : Int64) (v8w4 : Nat) (H_6 : Heap) (locs : List Loc) (ls : Array Slot), (k4 + k5) - v8w4 < fu_3 → v8w4 ≤ k4 + k5 → WOM cy K L M → va_P D vwCl ([] ++ va_pl L M) H_6 → va_D A ([] ++ va_pl L M) → va_S A s.heap H_6 locs → lv_has ls 12 [(8, .int (nI v8w4)), (6, .long v6w4), (0, .ref k1), (1, .int (nI k2)), (2, .int (nI k3)), (3, .int (nI k4)), (4, .int (nI k5)), (5, .int k6)] → W p l e R s m ([.ref k1, .int (nI k2), .int (nI k3), .int (nI k4), .int (nI k5), .int k6] : List Value).toArray below meth c H_6 locs 0 0 Q (F0 m 6 ls []) := by
    intro fu_3
    induction fu_3 with
    | zero => intro v6w4 v8w4 H_6 locs ls h; exact absurd h (Nat.not_lt_zero _)
    | succ fu_3 ih_2 =>
      intro v6w4 v8w4 H_6 locs ls hfu hx_5 hW hP hD hS hl
      refine lv_iload hx hb dX13_interest_6 (lv_at hl 0 rfl) ?_
      refine lv_iload_n hx hb dX13_interest_8 rfl (lv_at hl 5 rfl) ?_
      refine lv_iload hx hb dX13_interest_9 (lv_at hl 6 rfl) ?_
      refine lv_iadd hx hb dX13_interest_11 ?_
      refine lv_topi (fun f_7 ef_7 => ?_)
      obtain rfl : f_7 = (nI (k4 + k5)) := ef_7.trans (nI_add k4 k5)
      refine lv_icmp_ge (tgt := 113) hx hb dX13_interest_12 (by decide) (fun c_8 => ?_) (fun c_8 => ?_)
      · have hz := rfl (a := 0)
        have n_9 : (k4 + k5) ≤ v8w4 := (iLE (a := (k4 + k5)) (b := v8w4) (by omega) (by omega)).mp c_8
        refine lv_lload hx hb dX13_interest_113 (lv_at hl 1 rfl) ?_
        refine lv_aload_n hx hb dX13_interest_115 rfl (lv_at hl 2 rfl) ?_
        obtain ⟨fs10, hM10, hn10, hl10⟩ := hW.open_12 ik1
        obtain ⟨v11, hv11, hc11⟩ : ∃ v : Nat, fs10[35]? = some (.ref v : Value) ∧ isk K L v 77 16 := hl10 35 (by decide)
        refine pg_getN (D := D) (ci := 12) (v := .ref v11) (C := RX12) (T := TX12) (N := 51) hx hb hg inG12 hown hK hP ik1.1 hM10 rfl 35 (by decide) (hN.use (Cond.fieldLinkNest RX13 151 RX12 "thousandths" "[I" RX13) 44 rfl rfl) (fun _ h9 => h9) hv11 dX13_interest_116 ?_
        refine lv_iload_n hx hb dX13_interest_119 rfl (lv_at hl 4 rfl) ?_
        obtain ⟨f12, hM12⟩ := hW.open_77 hc11
        refine pg_iald hx hb hK hP hc11.1 0 hM12 rfl (inbN k3 16 (by omega) (by omega)) dX13_interest_120 ?_
        refine lv_topi (fun f_13 ef_13 => ?_)
        refine lv_i2l hx hb dX13_interest_121 rfl ?_
        refine lv_topl (fun f_14 ef_14 => ?_)
        refine lv_lmul hx hb dX13_interest_122 ?_
        refine lv_topl (fun f_15 ef_15 => ?_)
        refine lv_ldc2 (v := 360000) hx hb hown (hg _ wd_762) dX13_interest_123 ?_
        refine lv_ldiv hx hb dX13_interest_126 (by decide) ?_
        refine lv_topl (fun f_16 ef_16 => ?_)
        rw [hQ]
        exact W.lret (v := f_16) hx hb hr (fun t ht hW9 => ⟨⟨f_16, (), rfl, trivial, ⟨by rw [ht]; exact hP, hD⟩⟩, hS.F ht⟩) hS.2.2 dX13_interest_127
      · have hz := rfl (a := 0)
        have n_17 : ¬ ((k4 + k5) ≤ v8w4) := fun q => c_8 ((iLE (a := (k4 + k5)) (b := v8w4) (by omega) (by omega)).mpr q)
        refine lv_aload_n hx hb dX13_interest_15 rfl (lv_at hl 2 rfl) ?_
        obtain ⟨fs18, hM18, hn18, hl18⟩ := hW.open_12 ik1
        obtain ⟨v19, hv19, hc19⟩ : ∃ v : Nat, fs18[27]? = some (.ref v : Value) ∧ isk K L v 87 24 := hl18 27 (by decide)
        refine pg_getN (D := D) (ci := 12) (v := .ref v19) (C := RX12) (T := TX12) (N := 51) hx hb hg inG12 hown hK hP ik1.1 hM18 rfl 27 (by decide) (hN.use (Cond.fieldLinkNest RX13 307 RX12 "credit" "[J" RX13) 36 rfl rfl) (fun _ h9 => h9) hv19 dX13_interest_16 ?_
        refine lv_iload_n hx hb dX13_interest_19 rfl (lv_at hl 3 rfl) ?_
        obtain ⟨f20, hM20⟩ := hW.open_87 hc19
        refine pg_lald hx hb hK hP hc19.1 1 hM20 rfl (inbN k2 24 (by omega) (by omega)) dX13_interest_20 ?_
        refine lv_topl (fun f_21 ef_21 => ?_)
        refine lv_lstore (lv' := [(9, .long f_21), (8, .int (nI v8w4)), (6, .long v6w4), (0, .ref k1), (1, .int (nI k2)), (2, .int (nI k3)), (3, .int (nI k4)), (4, .int (nI k5)), (5, .int k6)]) hx hb dX13_interest_21 hl (by decide) rfl (fun ls hl => ?_)
        refine lv_iconst (v := 0) hx hb dX13_interest_23 (by decide) ?_
        refine lv_istore (lv' := [(11, .int 0), (9, .long f_21), (8, .int (nI v8w4)), (6, .long v6w4), (0, .ref k1), (1, .int (nI k2)), (2, .int (nI k3)), (3, .int (nI k4)), (4, .int (nI k5)), (5, .int k6)]) hx hb dX13_interest_24 hl (by decide) rfl (fun ls hl => ?_)
        have key_22 : ∀ (fu_24 : Nat) (v9w25 : Int64) (v11w25 : Nat) (H_27 : Heap) (locs : List Loc) (ls : Array Slot), 120 - v11w25 < fu_24 → v11w25 ≤ 120 → WOM cy K L M → va_P D vwCl ([] ++ va_pl L M) H_27 → va_D A ([] ++ va_pl L M) → va_S A s.heap H_27 locs → lv_has ls 12 [(11, .int (nI v11w25)), (9, .long v9w25), (8, .int (nI v8w4)), (6, .long v6w4), (0, .ref k1), (1, .int (nI k2)), (2, .int (nI k3)), (3, .int (nI k4)), (4, .int (nI k5)), (5, .int k6)] → W p l e R s m ([.ref k1, .int (nI k2), .int (nI k3), .int (nI k4), .int (nI k5), .int k6] : List Value).toArray below meth c H_27 locs 0 0 Q (F0 m 26 ls []) := by
          intro fu_24
          induction fu_24 with
          | zero => intro v9w25 v11w25 H_27 locs ls h; exact absurd h (Nat.not_lt_zero _)
          | succ fu_24 ih_23 =>
            intro v9w25 v11w25 H_27 locs ls hfu hx_26 hW hP hD hS hl
            refine lv_iload hx hb dX13_interest_26 (lv_at hl 0 rfl) ?_
            refine lv_aload_n hx hb dX13_interest_28 rfl (lv_at hl 4 rfl) ?_
            obtain ⟨v28, hv28, hc28⟩ : ∃ v : Nat, fs18[14]? = some (.int (nI v) : Value) ∧ v ≤ 120 := hl18 14 (by decide)
            refine pg_getN (D := D) (ci := 12) (v := .int (nI v28)) (C := RX12) (T := TX12) (N := 51) hx hb hg inG12 hown hK hP ik1.1 hM18 rfl 14 (by decide) (hN.use (Cond.fieldLinkNest RX13 193 RX12 "moves" "I" RX13) 23 rfl rfl) (fun _ h9 => h9) hv28 dX13_interest_29 ?_
            refine lv_icmp_ge (tgt := 89) hx hb dX13_interest_32 (by decide) (fun c_29 => ?_) (fun c_29 => ?_)
            · have hz := rfl (a := 0)
              have n_30 : v28 ≤ v11w25 := (iLE (a := v28) (b := v11w25) (by omega) (by omega)).mp c_29
              refine lv_lload hx hb dX13_interest_89 (lv_at hl 3 rfl) ?_
              refine lv_lload hx hb dX13_interest_91 (lv_at hl 1 rfl) ?_
              refine lv_lconst (v := 0) hx hb dX13_interest_93 (by decide) ?_
              refine W.lcmp hx hb dX13_interest_94 ?_
              refine lv_if_le (tgt := 103) hx hb dX13_interest_95 (by decide) (fun c_31 => ?_) (fun c_31 => ?_)
              · have hz := rfl (a := 0)
                have d_32 : v9w25 ≤ 0 := lc_let c_31
                refine lv_lconst (v := 0) hx hb dX13_interest_103 (by decide) ?_
                refine lv_ladd hx hb dX13_interest_104 ?_
                refine lv_topl (fun f_33 ef_33 => ?_)
                refine lv_lstore (lv' := [(6, .long f_33), (11, .int (nI v11w25)), (9, .long v9w25), (8, .int (nI v8w4)), (0, .ref k1), (1, .int (nI k2)), (2, .int (nI k3)), (3, .int (nI k4)), (4, .int (nI k5)), (5, .int k6)]) hx hb dX13_interest_105 hl (by decide) rfl (fun ls hl => ?_)
                refine lv_iinc (v := (nI (v8w4 + 1))) (lv' := [(8, .int (nI (v8w4 + 1))), (6, .long f_33), (11, .int (nI v11w25)), (9, .long v9w25), (0, .ref k1), (1, .int (nI k2)), (2, .int (nI k3)), (3, .int (nI k4)), (4, .int (nI k5)), (5, .int k6)]) hx hb dX13_interest_107 hl (k := 3) rfl (nI_1 v8w4) (by decide) rfl (fun ls hl => ?_)
                refine lv_goto (tgt := 6) hx hb dX13_interest_110 (by decide) ?_
                exact ih_2 f_33 (v8w4 + 1) H_27 _ _ (by omega) (by omega) hW hP hD hS (lv_sub hl [0, 1, 4, 5, 6, 7, 8, 9] rfl)
              · have hz := rfl (a := 0)
                have d_32 : ¬ v9w25 ≤ 0 := lc_lef c_31
                refine lv_lload hx hb dX13_interest_98 (lv_at hl 1 rfl) ?_
                refine lv_goto (tgt := 104) hx hb dX13_interest_100 (by decide) ?_
                refine lv_ladd hx hb dX13_interest_104 ?_
                refine lv_topl (fun f_34 ef_34 => ?_)
                refine lv_lstore (lv' := [(6, .long f_34), (11, .int (nI v11w25)), (9, .long v9w25), (8, .int (nI v8w4)), (0, .ref k1), (1, .int (nI k2)), (2, .int (nI k3)), (3, .int (nI k4)), (4, .int (nI k5)), (5, .int k6)]) hx hb dX13_interest_105 hl (by decide) rfl (fun ls hl => ?_)
                refine lv_iinc (v := (nI (v8w4 + 1))) (lv' := [(8, .int (nI (v8w4 + 1))), (6, .long f_34), (11, .int (nI v11w25)), (9, .long v9w25), (0, .ref k1), (1, .int (nI k2)), (2, .int (nI k3)), (3, .int (nI k4)), (4, .int (nI k5)), (5, .int k6)]) hx hb dX13_interest_107 hl (k := 3) rfl (nI_1 v8w4) (by decide) rfl (fun ls hl => ?_)
                refine lv_goto (tgt := 6) hx hb dX13_interest_110 (by decide) ?_
                exact ih_2 f_34 (v8w4 + 1) H_27 _ _ (by omega) (by omega) hW hP hD hS (lv_sub hl [0, 1, 4, 5, 6, 7, 8, 9] rfl)
            · have hz := rfl (a := 0)
              have n_35 : ¬ (v28 ≤ v11w25) := fun q => c_29 ((iLE (a := v28) (b := v11w25) (by omega) (by omega)).mpr q)
              refine lv_aload_n hx hb dX13_interest_35 rfl (lv_at hl 4 rfl) ?_
              obtain ⟨v36, hv36, hc36⟩ : ∃ v : Nat, fs18[38]? = some (.ref v : Value) ∧ isk K L v 79 120 := hl18 38 (by decide)
              refine pg_getN (D := D) (ci := 12) (v := .ref v36) (C := RX12) (T := TX12) (N := 51) hx hb hg inG12 hown hK hP ik1.1 hM18 rfl 38 (by decide) (hN.use (Cond.fieldLinkNest RX13 196 RX12 "moveOf" "[I" RX13) 47 rfl rfl) (fun _ h9 => h9) hv36 dX13_interest_36 ?_
              refine lv_iload hx hb dX13_interest_39 (lv_at hl 0 rfl) ?_
              obtain ⟨f37, hM37, hf37⟩ := hW.open_79 hc36
              have hi_38 : vp_in (nI v11w25) 120 := (inbN v11w25 120 (by omega) (by omega))
              refine pg_iald hx hb hK hP hc36.1 0 hM37 rfl hi_38 dX13_interest_41 ?_
              have hp_39 := hf37 _ (vp_lt hi_38)
              obtain ⟨c_40, hc_41, ec_42⟩ := hp_39
              rw [ec_42]
              refine lv_iload_n hx hb dX13_interest_42 rfl (lv_at hl 5 rfl) ?_
              refine lv_icmp_ne (tgt := 83) hx hb dX13_interest_43 (by decide) (fun c_43 => ?_) (fun c_43 => ?_)
              · have hz := rfl (a := 0)
                have n_44 : ¬ (c_40 = k2) := fun q => c_43 ((iEQ (a := c_40) (b := k2) (by omega) (by omega)).mpr q)
                refine lv_iinc (v := (nI (v11w25 + 1))) (lv' := [(11, .int (nI (v11w25 + 1))), (9, .long v9w25), (8, .int (nI v8w4)), (6, .long v6w4), (0, .ref k1), (1, .int (nI k2)), (2, .int (nI k3)), (3, .int (nI k4)), (4, .int (nI k5)), (5, .int k6)]) hx hb dX13_interest_83 hl (k := 0) rfl (nI_1 v11w25) (by decide) rfl (fun ls hl => ?_)
                refine lv_goto (tgt := 26) hx hb dX13_interest_86 (by decide) ?_
                exact ih_23 v9w25 (v11w25 + 1) H_27 _ _ (by omega) (by omega) hW hP hD hS (lv_sub hl [0, 1, 2, 3, 4, 5, 6, 7, 8, 9] rfl)
              · have hz := rfl (a := 0)
                have n_45 : c_40 = k2 := (iEQ (a := c_40) (b := k2) (by omega) (by omega)).mp c_43
                refine lv_aload_n hx hb dX13_interest_46 rfl (lv_at hl 4 rfl) ?_
                obtain ⟨v46, hv46, hc46⟩ : ∃ v : Nat, fs18[39]? = some (.ref v : Value) ∧ isk K L v 80 120 := hl18 39 (by decide)
                refine pg_getN (D := D) (ci := 12) (v := .ref v46) (C := RX12) (T := TX12) (N := 51) hx hb hg inG12 hown hK hP ik1.1 hM18 rfl 39 (by decide) (hN.use (Cond.fieldLinkNest RX13 199 RX12 "moveDay" "[I" RX13) 48 rfl rfl) (fun _ h9 => h9) hv46 dX13_interest_47 ?_
                refine lv_iload hx hb dX13_interest_50 (lv_at hl 0 rfl) ?_
                obtain ⟨f47, hM47⟩ := hW.open_80 hc46
                refine pg_iald hx hb hK hP hc46.1 0 hM47 rfl (inbN v11w25 120 (by omega) (by omega)) dX13_interest_52 ?_
                refine lv_topi (fun f_48 ef_48 => ?_)
                refine lv_iload hx hb dX13_interest_53 (lv_at hl 9 rfl) ?_
                refine lv_icmp_lt (tgt := 83) hx hb dX13_interest_55 (by decide) (fun c_49 => ?_) (fun c_49 => ?_)
                · have hz := rfl (a := 0)
                  refine lv_iinc (v := (nI (v11w25 + 1))) (lv' := [(11, .int (nI (v11w25 + 1))), (9, .long v9w25), (8, .int (nI v8w4)), (6, .long v6w4), (0, .ref k1), (1, .int (nI k2)), (2, .int (nI k3)), (3, .int (nI k4)), (4, .int (nI k5)), (5, .int k6)]) hx hb dX13_interest_83 hl (k := 0) rfl (nI_1 v11w25) (by decide) rfl (fun ls hl => ?_)
                  refine lv_goto (tgt := 26) hx hb dX13_interest_86 (by decide) ?_
                  exact ih_23 v9w25 (v11w25 + 1) H_27 _ _ (by omega) (by omega) hW hP hD hS (lv_sub hl [0, 1, 2, 3, 4, 5, 6, 7, 8, 9] rfl)
                · have hz := rfl (a := 0)
                  refine lv_aload_n hx hb dX13_interest_58 rfl (lv_at hl 4 rfl) ?_
                  refine pg_getN (D := D) (ci := 12) (v := .ref v46) (C := RX12) (T := TX12) (N := 51) hx hb hg inG12 hown hK hP ik1.1 hM18 rfl 39 (by decide) (hN.use (Cond.fieldLinkNest RX13 199 RX12 "moveDay" "[I" RX13) 48 rfl rfl) (fun _ h9 => h9) hv46 dX13_interest_59 ?_
                  refine lv_iload hx hb dX13_interest_62 (lv_at hl 0 rfl) ?_
                  refine pg_iald hx hb hK hP hc46.1 0 hM47 rfl (inbN v11w25 120 (by omega) (by omega)) dX13_interest_64 ?_
                  refine lv_topi (fun f_50 ef_50 => ?_)
                  refine lv_iload hx hb dX13_interest_65 (lv_at hl 2 rfl) ?_
                  refine lv_icmp_gt (tgt := 83) hx hb dX13_interest_67 (by decide) (fun c_51 => ?_) (fun c_51 => ?_)
                  · have hz := rfl (a := 0)
                    refine lv_iinc (v := (nI (v11w25 + 1))) (lv' := [(11, .int (nI (v11w25 + 1))), (9, .long v9w25), (8, .int (nI v8w4)), (6, .long v6w4), (0, .ref k1), (1, .int (nI k2)), (2, .int (nI k3)), (3, .int (nI k4)), (4, .int (nI k5)), (5, .int k6)]) hx hb dX13_interest_83 hl (k := 0) rfl (nI_1 v11w25) (by decide) rfl (fun ls hl => ?_)
                    refine lv_goto (tgt := 26) hx hb dX13_interest_86 (by decide) ?_
                    exact ih_23 v9w25 (v11w25 + 1) H_27 _ _ (by omega) (by omega) hW hP hD hS (lv_sub hl [0, 1, 2, 3, 4, 5, 6, 7, 8, 9] rfl)
                  · have hz := rfl (a := 0)
                    refine lv_lload hx hb dX13_interest_70 (lv_at hl 1 rfl) ?_
                    refine lv_aload_n hx hb dX13_interest_72 rfl (lv_at hl 4 rfl) ?_
                    obtain ⟨v52, hv52, hc52⟩ : ∃ v : Nat, fs18[40]? = some (.ref v : Value) ∧ isk K L v 81 120 := hl18 40 (by decide)
                    refine pg_getN (D := D) (ci := 12) (v := .ref v52) (C := RX12) (T := TX12) (N := 51) hx hb hg inG12 hown hK hP ik1.1 hM18 rfl 40 (by decide) (hN.use (Cond.fieldLinkNest RX13 202 RX12 "moveSum" "[I" RX13) 49 rfl rfl) (fun _ h9 => h9) hv52 dX13_interest_73 ?_
                    refine lv_iload hx hb dX13_interest_76 (lv_at hl 0 rfl) ?_
                    obtain ⟨f53, hM53⟩ := hW.open_81 hc52
                    refine pg_iald hx hb hK hP hc52.1 0 hM53 rfl (inbN v11w25 120 (by omega) (by omega)) dX13_interest_78 ?_
                    refine lv_topi (fun f_54 ef_54 => ?_)
                    refine lv_i2l hx hb dX13_interest_79 rfl ?_
                    refine lv_topl (fun f_55 ef_55 => ?_)
                    refine lv_ladd hx hb dX13_interest_80 ?_
                    refine lv_topl (fun f_56 ef_56 => ?_)
                    refine lv_lstore (lv' := [(9, .long f_56), (11, .int (nI v11w25)), (8, .int (nI v8w4)), (6, .long v6w4), (0, .ref k1), (1, .int (nI k2)), (2, .int (nI k3)), (3, .int (nI k4)), (4, .int (nI k5)), (5, .int k6)]) hx hb dX13_interest_81 hl (by decide) rfl (fun ls hl => ?_)
                    refine lv_iinc (v := (nI (v11w25 + 1))) (lv' := [(11, .int (nI (v11w25 + 1))), (9, .long f_56), (8, .int (nI v8w4)), (6, .long v6w4), (0, .ref k1), (1, .int (nI k2)), (2, .int (nI k3)), (3, .int (nI k4)), (4, .int (nI k5)), (5, .int k6)]) hx hb dX13_interest_83 hl (k := 1) rfl (nI_1 v11w25) (by decide) rfl (fun ls hl => ?_)
                    refine lv_goto (tgt := 26) hx hb dX13_interest_86 (by decide) ?_
                    exact ih_23 f_56 (v11w25 + 1) H_27 _ _ (by omega) (by omega) hW hP hD hS (lv_sub hl [0, 1, 2, 3, 4, 5, 6, 7, 8, 9] rfl)
        exact key_22 (120 - 0 + 1) f_21 0 H_6 _ _ (by omega) (by omega) hW hP hD hS (lv_sub hl [0, 1, 2, 3, 4, 5, 6, 7, 8, 9] rfl)
  exact key_1 ((k4 + k5) - k4 + 1) 0 k4 s.heap _ _ (by omega) (by omega) hW hP hD hS (lv_sub hl [0, 1, 2, 3, 4, 5, 6, 7] rfl)
set_option maxHeartbeats 4000000 in
set_option maxRecDepth 100000 in
theorem r_X13_weighs (l : Launch) (D : va_G) (cy : Nat → ClassId) (K : Kp) (L : List Nat) (M : Hp) (sz : Nat) (za : Nat) (z0 : Int32) (z1 : Nat) (z2 : Nat) (z3 : Nat) (z4 : Int32) (z5 : Int32) (z6 : Nat) (z7 : Nat) (z8 : Nat) (z9 : Nat) (z10 : Nat) (z11 : Nat) (z12 : Nat) (z13 : Nat) (z14 : Nat) (z15 : Nat) (z16 : Nat) (z17 : Nat) (z18 : Int32) (z19 : Nat) (k1 : Nat) (k2 : Int32) (k3 : Nat) (hW : WOM cy K L M) (i1 : isk K L z1 23 8) (b2 : z2 ≤ 8) (b3 : z3 ≤ 40) (i6 : isk K L z6 47 40) (i7 : isk K L z7 48 40) (i8 : isk K L z8 49 8) (i9 : isk K L z9 50 8) (b10 : z10 ≤ 8) (i11 : isk K L z11 32 24) (i12 : isk K L z12 14 24) (i13 : isk K L z13 97 24) (i14 : isk K L z14 98 24) (i15 : isk K L z15 99 24) (b16 : z16 ≤ 24) (i17 : isk K L z17 14 24) (i19 : isk K L z19 15 25) (nk1 : k1 < 24) (ik3 : isk K L k3 12 0) : Met l yX13_weighs (wsM yX13_weighs cX13_weighs 4 (some .int)) ({ frames := 1, cells := 0, slots := 0, locals := 23 }) (va_Pc [.ref za, .int (nI k1), .int k2, .ref k3] (PG D cy [(za, (b13_0 z0 z1 (nI z2) (nI z3) z4 z5 z6 z7 z8 z9 (nI z10) z11 z12 z13 z14 z15 (nI z16) z17 z18 z19))] L M sz)) (va_Qi (fun (r : Int32) (_ : Unit) => True) (fun _ t => PQ D [(za, (b13_0 z0 z1 (nI z2) (nI z3) z4 z5 z6 z7 z8 z9 (nI z10) z11 z12 z13 z14 z15 (nI z16) z17 z18 z19))] L M (va_A ([(za, (b13_0 z0 z1 (nI z2) (nI z3) z4 z5 z6 z7 z8 z9 (nI z10) z11 z12 z13 z14 z15 (nI z16) z17 z18 z19))] ++ va_pl L M) sz) t) (va_A ([(za, (b13_0 z0 z1 (nI z2) (nI z3) z4 z5 z6 z7 z8 z9 (nI z10) z11 z12 z13 z14 z15 (nI z16) z17 z18 z19))] ++ va_pl L M) sz)) 0 0 (va_A ([(za, (b13_0 z0 z1 (nI z2) (nI z3) z4 z5 z6 z7 z8 z9 (nI z10) z11 z12 z13 z14 z15 (nI z16) z17 z18 z19))] ++ va_pl L M) sz) := by
  refine Met.ofW (cc := cX13_weighs) (maxL := 4) (ret := (some .int)) (by decide) rfl ?_
  intro p e s m args below meth c s₁ B hml hv
  obtain ⟨rfl, hsz, hP, hK, hD0, hN⟩ := hv
  have hx := B.exec
  have hb := B.bytes
  have hr := B.returns
  have hts := atoms_spec (ws := (wsM yX13_weighs cX13_weighs 4 (some .int))) B.pre
  have hg : ∀ w ∈ lw_good, w.before _ s = true := fun w h => hts w (List.mem_cons_of_mem _ h)
  have hown : s.vm.findClass RX13 = some m.cls := findClass_of_methodNamed B.named
  have hlocks := B.notSynchronized
  subst hsz
  have hD := hD0.self (sz := s.heap.size)
  generalize hAe : va_A ([(za, (b13_0 z0 z1 (nI z2) (nI z3) z4 z5 z6 z7 z8 z9 (nI z10) z11 z12 z13 z14 z15 (nI z16) z17 z18 z19))] ++ va_pl L M) s.heap.size = A at hD ⊢
  have hA : ∀ q : Nat, s.heap.size ≤ q → A q := fun q h => by rw [← hAe]; exact Or.inr h
  have hS : va_S A s.heap s.heap [] := va_S.rf
  have hl := lv_entry ([.ref za, .int (nI k1), .int k2, .ref k3]) (n := 4) (Nat.le_of_ble_eq_true rfl)
  rw [lg_entry_eq]
  generalize (lg_sl ([.ref za, .int (nI k1), .int k2, .ref k3]) ++ List.replicate (4 - (lg_sl ([.ref za, .int (nI k1), .int k2, .ref k3])).length) Slot.unset).toArray = ls at hl ⊢
  refine W.nameQ (fun Q hQ => ?_)
  refine W.nameR (fun R hR => ?_)
  have hRf : 1 ≤ R.frames := by rw [hR]; exact Nat.le_of_ble_eq_true rfl
  have hRl : 23 ≤ R.locals := by rw [hR]; exact Nat.le_of_ble_eq_true rfl
  have hRc : 0 ≤ R.cells := by rw [hR]; exact Nat.le_of_ble_eq_true rfl
  have hRs : 0 ≤ R.slots := by rw [hR]; exact Nat.le_of_ble_eq_true rfl
  have hl : lv_has ls 4 [(0, .ref za), (1, .int (nI k1)), (2, .int k2), (3, .ref k3)] := hl
  refine lv_iload_n hx hb dX13_weighs_0 rfl (lv_at hl 2 rfl) ?_
  refine lv_if_eq (tgt := 22) hx hb dX13_weighs_1 (by decide) (fun c_1 => ?_) (fun c_1 => ?_)
  · have hz := rfl (a := 0)
    refine lv_aload_n hx hb dX13_weighs_22 rfl (lv_at hl 0 rfl) ?_
    refine va_get (D := D) (ci := 13) (v := .ref z12) (C := RX13) (T := TX13) (N := 20) hx hb hg inG13 hown hK hP 0 rfl rfl 12 (by decide) (hg _ wd_763) (fun _ h9 => h9) rfl dX13_weighs_23 ?_
    refine lv_iload_n hx hb dX13_weighs_26 rfl (lv_at hl 1 rfl) ?_
    obtain ⟨f2, hM2⟩ := hW.open_14 i12
    refine pg_iald hx hb hK hP i12.1 0 hM2 rfl (inbN k1 24 (by omega) (by omega)) dX13_weighs_27 ?_
    refine lv_topi (fun f_3 ef_3 => ?_)
    rw [hQ]
    exact W.iret (v := f_3) hx hb hr (fun t ht hW9 => ⟨⟨f_3, (), rfl, trivial, ⟨by rw [ht]; exact hP, hD⟩⟩, hS.F ht⟩) hS.2.2 dX13_weighs_28
  · have hz := rfl (a := 0)
    refine lv_aload_n hx hb dX13_weighs_4 rfl (lv_at hl 0 rfl) ?_
    refine lv_aload_n hx hb dX13_weighs_5 rfl (lv_at hl 3 rfl) ?_
    refine lv_aload_n hx hb dX13_weighs_6 rfl (lv_at hl 0 rfl) ?_
    refine va_get (D := D) (ci := 13) (v := .ref z11) (C := RX13) (T := TX13) (N := 20) hx hb hg inG13 hown hK hP 0 rfl rfl 11 (by decide) (hg _ wd_764) (fun _ h9 => h9) rfl dX13_weighs_7 ?_
    refine lv_iload_n hx hb dX13_weighs_10 rfl (lv_at hl 1 rfl) ?_
    obtain ⟨f4, hM4, hf4⟩ := hW.open_32 i11
    have hi_5 : vp_in (nI k1) 24 := (inbN k1 24 (by omega) (by omega))
    refine pg_iald hx hb hK hP i11.1 0 hM4 rfl hi_5 dX13_weighs_11 ?_
    have hp_6 := hf4 _ (vp_lt hi_5)
    obtain ⟨c_7, hc_8, ec_9⟩ := hp_6
    rw [ec_9]
    have hPc : va_P D vwCl ([(za, (b13_0 z0 z1 (nI z2) (nI z3) z4 z5 z6 z7 z8 z9 (nI z10) z11 z12 z13 z14 z15 (nI z16) z17 z18 z19))] ++ va_pl L M) s.heap := hP
    have hDc : va_D A ([(za, (b13_0 z0 z1 (nI z2) (nI z3) z4 z5 z6 z7 z8 z9 (nI z10) z11 z12 z13 z14 z15 (nI z16) z17 z18 z19))] ++ va_pl L M) := hD
    have hFc : ∀ q, va_A ([(za, (b13_0 z0 z1 (nI z2) (nI z3) z4 z5 z6 z7 z8 z9 (nI z10) z11 z12 z13 z14 z15 (nI z16) z17 z18 z19))] ++ va_pl L M) s.heap.size q → A q := pg_free hDc hS hA
    refine va_calli (va_runV (As := [.ref k3, .int (nI c_7)]) (rest := []) ⟨hx, hb, hml, hown, hg⟩ (r_X13_isLimited l D cy K L M s.heap.size za z0 z1 z2 z3 z4 z5 z6 z7 z8 z9 z10 z11 z12 z13 z14 z15 z16 z17 z18 z19 k3 c_7  hW i1 b2 b3 i6 i7 i8 i9 b10 i11 i12 i13 i14 i15 b16 i17 i19 ik3 hc_8) (cwV 2 hg (gV wd_765 wd_766 wd_767 wd_717 wd_768) rfl rfl rfl (by decide +kernel) ⟨(Nat.le_trans (Nat.le_of_ble_eq_true rfl) hRf), (Nat.le_trans (Nat.le_of_ble_eq_true rfl) hRl)⟩) ⟨PG.blind, va_recv hK hP (ci := 13) (q0 := 0) rfl rfl, fun U hU hW => ⟨rfl, PG.at hPc hK hDc hN hU hW⟩⟩ rfl rfl hl.1 rfl (lv_room (Nat.le_of_ble_eq_true rfl)) dX13_weighs_12 ⟨(Nat.le_trans (Nat.le_of_ble_eq_true rfl) hRc), (Nat.le_trans (Nat.le_of_ble_eq_true rfl) hRs)⟩) hS (fun q _ h => hFc q h) hFc (fun r_11 M_12 t H_10 locs ht hvm hw hB hz1 hk1 hS => ?_)
    have hp_13 := hw
    obtain ⟨hP1, hD1⟩ := hB
    rw [ht] at hP1
    have hP : va_P D vwCl ([(za, (b13_0 z0 z1 (nI z2) (nI z3) z4 z5 z6 z7 z8 z9 (nI z10) z11 z12 z13 z14 z15 (nI z16) z17 z18 z19))] ++ va_pl L M) H_10 := hP1
    have hD : va_D A ([(za, (b13_0 z0 z1 (nI z2) (nI z3) z4 z5 z6 z7 z8 z9 (nI z10) z11 z12 z13 z14 z15 (nI z16) z17 z18 z19))] ++ va_pl L M) := hD1.mono hFc
    rcases hp_13 with rfl | rfl
    · have hz := rfl (a := 0)
      refine lv_if_eq (tgt := 22) hx hb dX13_weighs_15 (by decide) (fun c_14 => absurd c_14 (by decide)) (fun _ => ?_)
      refine lv_iconst (v := 0) hx hb dX13_weighs_18 (by decide) ?_
      refine lv_goto (tgt := 28) hx hb dX13_weighs_19 (by decide) ?_
      rw [hQ]
      exact W.iret (v := 0) hx hb hr (fun t ht hW9 => ⟨⟨0, (), rfl, trivial, ⟨by rw [ht]; exact hP, hD⟩⟩, hS.F ht⟩) hS.2.2 dX13_weighs_28
    · have hz := rfl (a := 0)
      refine lv_if_eq (tgt := 22) hx hb dX13_weighs_15 (by decide) (fun _ => ?_) (fun c_15 => absurd c_15 (by decide))
      refine lv_aload_n hx hb dX13_weighs_22 rfl (lv_at hl 0 rfl) ?_
      refine va_get (D := D) (ci := 13) (v := .ref z12) (C := RX13) (T := TX13) (N := 20) hx hb hg inG13 hown hK hP 0 rfl rfl 12 (by decide) (hg _ wd_763) (fun _ h9 => h9) rfl dX13_weighs_23 ?_
      refine lv_iload_n hx hb dX13_weighs_26 rfl (lv_at hl 1 rfl) ?_
      obtain ⟨f16, hM16⟩ := hW.open_14 i12
      refine pg_iald hx hb hK hP i12.1 0 hM16 rfl (inbN k1 24 (by omega) (by omega)) dX13_weighs_27 ?_
      refine lv_topi (fun f_17 ef_17 => ?_)
      rw [hQ]
      exact W.iret (v := f_17) hx hb hr (fun t ht hW9 => ⟨⟨f_17, (), rfl, trivial, ⟨by rw [ht]; exact hP, hD⟩⟩, hS.F ht⟩) hS.2.2 dX13_weighs_28
set_option maxHeartbeats 4000000 in
set_option maxRecDepth 100000 in
theorem r_X13_weights (l : Launch) (D : va_G) (cy : Nat → ClassId) (K : Kp) (L : List Nat) (M : Hp) (sz : Nat) (za : Nat) (z0 : Int32) (z1 : Nat) (z2 : Nat) (z3 : Nat) (z4 : Int32) (z5 : Int32) (z6 : Nat) (z7 : Nat) (z8 : Nat) (z9 : Nat) (z10 : Nat) (z11 : Nat) (z12 : Nat) (z13 : Nat) (z14 : Nat) (z15 : Nat) (z16 : Nat) (z17 : Nat) (z18 : Int32) (z19 : Nat) (k1 : Nat) (k2 : Nat) (k3 : Nat) (hW : WOM cy K L M) (i1 : isk K L z1 23 8) (b2 : z2 ≤ 8) (b3 : z3 ≤ 40) (i6 : isk K L z6 47 40) (i7 : isk K L z7 48 40) (i8 : isk K L z8 49 8) (i9 : isk K L z9 50 8) (b10 : z10 ≤ 8) (i11 : isk K L z11 32 24) (i12 : isk K L z12 14 24) (i13 : isk K L z13 97 24) (i14 : isk K L z14 98 24) (i15 : isk K L z15 99 24) (b16 : z16 ≤ 24) (i17 : isk K L z17 14 24) (i19 : isk K L z19 15 25) (ik1 : isk K L k1 12 0) (nk2 : k2 < 16) (nk3 : k3 < 4) : Met l yX13_weights (wsM yX13_weights cX13_weights 5 none) ({ frames := 1, cells := 0, slots := 0, locals := 23 }) (va_Pc [.ref za, .ref k1, .int (nI k2), .int (nI k3)] (PG D cy [(za, (b13_0 z0 z1 (nI z2) (nI z3) z4 z5 z6 z7 z8 z9 (nI z10) z11 z12 z13 z14 z15 (nI z16) z17 z18 z19))] L M sz)) (va_Qv (fun (M9 : Hp) => WOM cy K L M9 ∧ fr K L [14] M M9 ∧ (True)) (fun M9 t => PQ D [(za, (b13_0 z0 z1 (nI z2) (nI z3) z4 z5 z6 z7 z8 z9 (nI z10) z11 z12 z13 z14 z15 (nI z16) z17 z18 z19))] L M9 (va_A ([(za, (b13_0 z0 z1 (nI z2) (nI z3) z4 z5 z6 z7 z8 z9 (nI z10) z11 z12 z13 z14 z15 (nI z16) z17 z18 z19))] ++ va_pl L M) sz) t) (va_A ([(za, (b13_0 z0 z1 (nI z2) (nI z3) z4 z5 z6 z7 z8 z9 (nI z10) z11 z12 z13 z14 z15 (nI z16) z17 z18 z19))] ++ va_pl L M) sz)) 0 0 (va_A ([(za, (b13_0 z0 z1 (nI z2) (nI z3) z4 z5 z6 z7 z8 z9 (nI z10) z11 z12 z13 z14 z15 (nI z16) z17 z18 z19))] ++ va_pl L M) sz) := by
  refine Met.ofW (cc := cX13_weights) (maxL := 5) (ret := none) (by decide) rfl ?_
  intro p e s m args below meth c s₁ B hml hv
  obtain ⟨rfl, hsz, hP, hK, hD0, hN⟩ := hv
  have hx := B.exec
  have hb := B.bytes
  have hr := B.returns
  have hts := atoms_spec (ws := (wsM yX13_weights cX13_weights 5 none)) B.pre
  have hg : ∀ w ∈ lw_good, w.before _ s = true := fun w h => hts w (List.mem_cons_of_mem _ h)
  have hown : s.vm.findClass RX13 = some m.cls := findClass_of_methodNamed B.named
  have hlocks := B.notSynchronized
  subst hsz
  have hD := hD0.self (sz := s.heap.size)
  generalize hAe : va_A ([(za, (b13_0 z0 z1 (nI z2) (nI z3) z4 z5 z6 z7 z8 z9 (nI z10) z11 z12 z13 z14 z15 (nI z16) z17 z18 z19))] ++ va_pl L M) s.heap.size = A at hD ⊢
  have hA : ∀ q : Nat, s.heap.size ≤ q → A q := fun q h => by rw [← hAe]; exact Or.inr h
  have hS : va_S A s.heap s.heap [] := va_S.rf
  have hl := lv_entry ([.ref za, .ref k1, .int (nI k2), .int (nI k3)]) (n := 5) (Nat.le_of_ble_eq_true rfl)
  rw [lg_entry_eq]
  generalize (lg_sl ([.ref za, .ref k1, .int (nI k2), .int (nI k3)]) ++ List.replicate (5 - (lg_sl ([.ref za, .ref k1, .int (nI k2), .int (nI k3)])).length) Slot.unset).toArray = ls at hl ⊢
  refine W.nameQ (fun Q hQ => ?_)
  refine W.nameR (fun R hR => ?_)
  have hRf : 1 ≤ R.frames := by rw [hR]; exact Nat.le_of_ble_eq_true rfl
  have hRl : 23 ≤ R.locals := by rw [hR]; exact Nat.le_of_ble_eq_true rfl
  have hRc : 0 ≤ R.cells := by rw [hR]; exact Nat.le_of_ble_eq_true rfl
  have hRs : 0 ≤ R.slots := by rw [hR]; exact Nat.le_of_ble_eq_true rfl
  have hF : fr K L [14] M M := fr.rf
  have hl : lv_has ls 5 [(0, .ref za), (1, .ref k1), (2, .int (nI k2)), (3, .int (nI k3))] := hl
  refine lv_iconst (v := 0) hx hb dX13_weights_0 (by decide) ?_
  refine lv_istore (lv' := [(4, .int 0), (0, .ref za), (1, .ref k1), (2, .int (nI k2)), (3, .int (nI k3))]) hx hb dX13_weights_1 hl (by decide) rfl (fun ls hl => ?_)
  have key_1 : ∀ (fu_3 : Nat) (v4w4 : Nat) (M_6 : Hp) (H_7 : Heap) (locs : List Loc) (ls : Array Slot), 24 - v4w4 < fu_3 → v4w4 ≤ 24 → WOM cy K L M_6 → fr K L [14] M M_6 → va_P D vwCl ([(za, (b13_0 z0 z1 (nI z2) (nI z3) z4 z5 z6 z7 z8 z9 (nI z10) z11 z12 z13 z14 z15 (nI z16) z17 z18 z19))] ++ va_pl L M_6) H_7 → va_D A ([(za, (b13_0 z0 z1 (nI z2) (nI z3) z4 z5 z6 z7 z8 z9 (nI z10) z11 z12 z13 z14 z15 (nI z16) z17 z18 z19))] ++ va_pl L M_6) → va_S A s.heap H_7 locs → lv_has ls 5 [(4, .int (nI v4w4)), (0, .ref za), (1, .ref k1), (2, .int (nI k2)), (3, .int (nI k3))] → W p l e R s m ([.ref za, .ref k1, .int (nI k2), .int (nI k3)] : List Value).toArray below meth c H_7 locs 0 0 Q (F0 m 3 ls []) := by
    intro fu_3
    induction fu_3 with
    | zero => intro v4w4 M_6 H_7 locs ls h; exact absurd h (Nat.not_lt_zero _)
    | succ fu_3 ih_2 =>
      intro v4w4 M_6 H_7 locs ls hfu hx_5 hW hF hP hD hS hl
      refine lv_iload hx hb dX13_weights_3 (lv_at hl 0 rfl) ?_
      refine lv_aload_n hx hb dX13_weights_5 rfl (lv_at hl 1 rfl) ?_
      refine va_get (D := D) (ci := 13) (v := .int (nI z16)) (C := RX13) (T := TX13) (N := 20) hx hb hg inG13 hown hK hP 0 rfl rfl 16 (by decide) (hg _ wd_769) (fun _ h9 => h9) rfl dX13_weights_6 ?_
      refine lv_icmp_ge (tgt := 43) hx hb dX13_weights_9 (by decide) (fun c_8 => ?_) (fun c_8 => ?_)
      · have hz := rfl (a := 0)
        have n_9 : z16 ≤ v4w4 := (iLE (a := z16) (b := v4w4) (by omega) (by omega)).mp c_8
        rw [hQ]
        exact W.vret hx hb hr (fun t ht hW9 => ⟨⟨M_6, rfl, ⟨hW, hF, trivial⟩, ⟨by rw [ht]; exact hP, hD⟩⟩, hS.F ht⟩) hS.2.2 dX13_weights_43
      · have hz := rfl (a := 0)
        have n_10 : ¬ (z16 ≤ v4w4) := fun q => c_8 ((iLE (a := z16) (b := v4w4) (by omega) (by omega)).mpr q)
        refine lv_aload_n hx hb dX13_weights_12 rfl (lv_at hl 1 rfl) ?_
        refine va_get (D := D) (ci := 13) (v := .ref z12) (C := RX13) (T := TX13) (N := 20) hx hb hg inG13 hown hK hP 0 rfl rfl 12 (by decide) (hg _ wd_763) (fun _ h9 => h9) rfl dX13_weights_13 ?_
        refine lv_iload hx hb dX13_weights_16 (lv_at hl 0 rfl) ?_
        refine lv_aload_n hx hb dX13_weights_18 rfl (lv_at hl 2 rfl) ?_
        refine lv_iload_n hx hb dX13_weights_19 rfl (lv_at hl 3 rfl) ?_
        refine lv_iload_n hx hb dX13_weights_20 rfl (lv_at hl 4 rfl) ?_
        refine lv_aload_n hx hb dX13_weights_21 rfl (lv_at hl 2 rfl) ?_
        obtain ⟨fs11, hM11, hn11, hl11⟩ := hW.open_12 ik1
        obtain ⟨v12, hv12, hc12⟩ : ∃ v : Nat, fs11[20]? = some (.ref v : Value) ∧ isk K L v 31 24 := hl11 20 (by decide)
        refine pg_getN (D := D) (ci := 12) (v := .ref v12) (C := RX12) (T := TX12) (N := 51) hx hb hg inG12 hown hK hP ik1.1 hM11 rfl 20 (by decide) (hN.use (Cond.fieldLinkNest RX13 110 RX12 "where" "[I" RX13) 29 rfl rfl) (fun _ h9 => h9) hv12 dX13_weights_22 ?_
        refine lv_aload_n hx hb dX13_weights_25 rfl (lv_at hl 1 rfl) ?_
        refine va_get (D := D) (ci := 13) (v := .ref z11) (C := RX13) (T := TX13) (N := 20) hx hb hg inG13 hown hK hP 0 rfl rfl 11 (by decide) (hg _ wd_764) (fun _ h9 => h9) rfl dX13_weights_26 ?_
        refine lv_iload hx hb dX13_weights_29 (lv_at hl 0 rfl) ?_
        obtain ⟨f13, hM13, hf13⟩ := hW.open_32 i11
        have hi_14 : vp_in (nI v4w4) 24 := (inbN v4w4 24 (by omega) (by omega))
        refine pg_iald hx hb hK hP i11.1 0 hM13 rfl hi_14 dX13_weights_31 ?_
        have hp_15 := hf13 _ (vp_lt hi_14)
        obtain ⟨c_16, hc_17, ec_18⟩ := hp_15
        rw [ec_18]
        obtain ⟨f19, hM19, hf19⟩ := hW.open_31 hc12
        have hi_20 : vp_in (nI c_16) 24 := (inbN c_16 24 (by omega) (by omega))
        refine pg_iald hx hb hK hP hc12.1 0 hM19 rfl hi_20 dX13_weights_32 ?_
        have hp_21 := hf19 _ (vp_lt hi_20)
        obtain ⟨c_22, hc_23, ec_24⟩ := hp_21
        rw [ec_24]
        have hPc : va_P D vwCl ([] ++ va_pl L M_6) H_7 := hP.part (cx := []) [] rfl
        have hDc : va_D A ([] ++ va_pl L M_6) := hD.part (cx := []) [] (by decide) rfl
        have hFc : ∀ q, va_A ([] ++ va_pl L M_6) H_7.size q → A q := pg_free hDc hS hA
        refine va_calli (va_runV (As := [.int (nI k2), .int (nI k3), .int (nI c_22)]) (rest := [.int (nI v4w4), .ref z12]) ⟨hx, hb, hml, hown, hg⟩ (r_X12_term l D cy K L M_6 H_7.size k1 k2 k3 c_22  hW ik1 nk2 nk3 hc_23) (cwV 3 hg (gV wd_770 wd_771 wd_772 wd_737 wd_773) rfl rfl rfl (by decide +kernel) ⟨(Nat.le_trans (Nat.le_of_ble_eq_true rfl) hRf), (Nat.le_trans (Nat.le_of_ble_eq_true rfl) hRl)⟩) ⟨PG.blind, pg_recv hK hP ik1.1 hM11 rfl, fun U hU hW => ⟨rfl, PG.at hPc hK hDc hN hU hW⟩⟩ rfl rfl hl.1 rfl (lv_room (Nat.le_of_ble_eq_true rfl)) dX13_weights_33 ⟨(Nat.le_trans (Nat.le_of_ble_eq_true rfl) hRc), (Nat.le_trans (Nat.le_of_ble_eq_true rfl) hRs)⟩) hS (fun q _ h => hFc q h) hFc (fun r_26 M_27 t H_25 locs ht hvm hw hB hz1 hk1 hS => ?_)
        have hp_28 := hw
        obtain ⟨hP1, hD1⟩ := hB
        rw [ht] at hP1
        obtain ⟨hP, hD⟩ := va_joinP (X := [(za, (b13_0 z0 z1 (nI z2) (nI z3) z4 z5 z6 z7 z8 z9 (nI z10) z11 z12 z13 z14 z15 (nI z16) z17 z18 z19))]) (cx := []) (wr := [(za, (b13_0 z0 z1 (nI z2) (nI z3) z4 z5 z6 z7 z8 z9 (nI z10) z11 z12 z13 z14 z15 (nI z16) z17 z18 z19))]) (rx := []) (pl := va_pl L M_6) (pl1 := va_pl L M_6) hP hD [] [0] rfl rfl (by decide) (by decide) hk1 hFc hP1 hD1
        have hP : va_P D vwCl ([(za, (b13_0 z0 z1 (nI z2) (nI z3) z4 z5 z6 z7 z8 z9 (nI z10) z11 z12 z13 z14 z15 (nI z16) z17 z18 z19))] ++ va_pl L M_6) H_25 := hP
        have hD : va_D A ([(za, (b13_0 z0 z1 (nI z2) (nI z3) z4 z5 z6 z7 z8 z9 (nI z10) z11 z12 z13 z14 z15 (nI z16) z17 z18 z19))] ++ va_pl L M_6) := hD
        obtain ⟨f29, hM29⟩ := hW.open_14 i12
        refine pg_iast hx hb hK hP hD hS i12.1 0 hM29 rfl (inbN v4w4 24 (by omega) (by omega)) dX13_weights_36 (fun H_30 locs hP hD hS => ?_)
        obtain ⟨M_31, eM_31⟩ : ∃ M1 : Hp, M1 = va_up M_6 z12 (.inl (cy 14, 24, .inl (upd f29 ((nI v4w4) : Int32).toNatClampNeg r_26))) := ⟨_, rfl⟩
        have hP : va_P D vwCl ([(za, (b13_0 z0 z1 (nI z2) (nI z3) z4 z5 z6 z7 z8 z9 (nI z10) z11 z12 z13 z14 z15 (nI z16) z17 z18 z19))] ++ va_pl L M_31) H_30 := by rw [eM_31]; exact hP
        have hD : va_D A ([(za, (b13_0 z0 z1 (nI z2) (nI z3) z4 z5 z6 z7 z8 z9 (nI z10) z11 z12 z13 z14 z15 (nI z16) z17 z18 z19))] ++ va_pl L M_31) := by rw [eM_31]; exact hD
        have hW : WOM cy K L M_31 := by rw [eM_31]; exact hW.up_14 i12 ⟨_, rfl⟩
        have hF : fr K L [14] M M_31 := by rw [eM_31]; exact hF.up i12 (by decide)
        have hM_32 : M_31 z12 = .inl (cy 14, 24, .inl (upd f29 ((nI v4w4) : Int32).toNatClampNeg r_26)) := by rw [eM_31]; exact va_up_self _ _ _
        have hM_33 : M_31 k1 = .inr (12, fs11) := by rw [eM_31, va_up_ne _ _ (ik1.neT i12 (by decide))]; exact hM11
        have hM_34 : M_31 z11 = .inl (cy 14, 24, .inl (f13)) := by rw [eM_31, va_up_ne _ _ (i11.neT i12 (by decide))]; exact hM13
        have hM_35 : M_31 v12 = .inl (cy 14, 24, .inl (f19)) := by rw [eM_31, va_up_ne _ _ (hc12.neT i12 (by decide))]; exact hM19
        obtain ⟨f_36, ef_36⟩ : ∃ f : Nat → Int32, f = upd f29 ((nI v4w4) : Int32).toNatClampNeg r_26 := ⟨_, rfl⟩
        rw [← ef_36] at hM_32
        clear ef_36
        refine lv_iinc (v := (nI (v4w4 + 1))) (lv' := [(4, .int (nI (v4w4 + 1))), (0, .ref za), (1, .ref k1), (2, .int (nI k2)), (3, .int (nI k3))]) hx hb dX13_weights_37 hl (k := 0) rfl (nI_1 v4w4) (by decide) rfl (fun ls hl => ?_)
        refine lv_goto (tgt := 3) hx hb dX13_weights_40 (by decide) ?_
        exact ih_2 (v4w4 + 1) M_31 H_30 _ _ (by omega) (by omega) hW hF hP hD hS (lv_sub hl [0, 1, 2, 3, 4] rfl)
  exact key_1 (24 - 0 + 1) 0 M s.heap _ _ (by omega) (by omega) hW hF hP hD hS (lv_sub hl [0, 1, 2, 3, 4] rfl)
set_option maxHeartbeats 4000000 in
set_option maxRecDepth 100000 in
theorem r_X13_clears (l : Launch) (D : va_G) (cy : Nat → ClassId) (K : Kp) (L : List Nat) (M : Hp) (sz : Nat) (za : Nat) (z0 : Int32) (z1 : Nat) (z2 : Nat) (z3 : Nat) (z4 : Int32) (z5 : Int32) (z6 : Nat) (z7 : Nat) (z8 : Nat) (z9 : Nat) (z10 : Nat) (z11 : Nat) (z12 : Nat) (z13 : Nat) (z14 : Nat) (z15 : Nat) (z16 : Nat) (z17 : Nat) (z18 : Int32) (z19 : Nat) (k1 : Nat) (k2 : Nat) (hW : WOM cy K L M) (i1 : isk K L z1 23 8) (b2 : z2 ≤ 8) (b3 : z3 ≤ 40) (i6 : isk K L z6 47 40) (i7 : isk K L z7 48 40) (i8 : isk K L z8 49 8) (i9 : isk K L z9 50 8) (b10 : z10 ≤ 8) (i11 : isk K L z11 32 24) (i12 : isk K L z12 14 24) (i13 : isk K L z13 97 24) (i14 : isk K L z14 98 24) (i15 : isk K L z15 99 24) (b16 : z16 ≤ 24) (i17 : isk K L z17 14 24) (i19 : isk K L z19 15 25) (ik1 : isk K L k1 12 0) (nk2 : k2 < 120) : Met l yX13_clears (wsM yX13_clears cX13_clears 4 none) ({ frames := 0, cells := 0, slots := 0, locals := 0 }) (va_Pc [.ref za, .ref k1, .int (nI k2)] (PG D cy [(za, (b13_0 z0 z1 (nI z2) (nI z3) z4 z5 z6 z7 z8 z9 (nI z10) z11 z12 z13 z14 z15 (nI z16) z17 z18 z19))] L M sz)) (va_Qv (fun (M9 : Hp) => WOM cy K L M9 ∧ fr K L [14, 15, 83, 94, 95, 96] M M9 ∧ (True)) (fun M9 t => PQ D [(za, (b13_0 z0 z1 (nI z2) (nI z3) z4 z5 z6 z7 z8 z9 (nI z10) z11 z12 z13 z14 z15 (nI z16) z17 z18 z19))] L M9 (va_A ([(za, (b13_0 z0 z1 (nI z2) (nI z3) z4 z5 z6 z7 z8 z9 (nI z10) z11 z12 z13 z14 z15 (nI z16) z17 z18 z19))] ++ va_pl L M) sz) t) (va_A ([(za, (b13_0 z0 z1 (nI z2) (nI z3) z4 z5 z6 z7 z8 z9 (nI z10) z11 z12 z13 z14 z15 (nI z16) z17 z18 z19))] ++ va_pl L M) sz)) 0 0 (va_A ([(za, (b13_0 z0 z1 (nI z2) (nI z3) z4 z5 z6 z7 z8 z9 (nI z10) z11 z12 z13 z14 z15 (nI z16) z17 z18 z19))] ++ va_pl L M) sz) := by
  refine Met.ofW (cc := cX13_clears) (maxL := 4) (ret := none) (by decide) rfl ?_
  intro p e s m args below meth c s₁ B hml hv
  obtain ⟨rfl, hsz, hP, hK, hD0, hN⟩ := hv
  have hx := B.exec
  have hb := B.bytes
  have hr := B.returns
  have hts := atoms_spec (ws := (wsM yX13_clears cX13_clears 4 none)) B.pre
  have hg : ∀ w ∈ lw_good, w.before _ s = true := fun w h => hts w (List.mem_cons_of_mem _ h)
  have hown : s.vm.findClass RX13 = some m.cls := findClass_of_methodNamed B.named
  have hlocks := B.notSynchronized
  subst hsz
  have hD := hD0.self (sz := s.heap.size)
  generalize hAe : va_A ([(za, (b13_0 z0 z1 (nI z2) (nI z3) z4 z5 z6 z7 z8 z9 (nI z10) z11 z12 z13 z14 z15 (nI z16) z17 z18 z19))] ++ va_pl L M) s.heap.size = A at hD ⊢
  have hA : ∀ q : Nat, s.heap.size ≤ q → A q := fun q h => by rw [← hAe]; exact Or.inr h
  have hS : va_S A s.heap s.heap [] := va_S.rf
  have hl := lv_entry ([.ref za, .ref k1, .int (nI k2)]) (n := 4) (Nat.le_of_ble_eq_true rfl)
  rw [lg_entry_eq]
  generalize (lg_sl ([.ref za, .ref k1, .int (nI k2)]) ++ List.replicate (4 - (lg_sl ([.ref za, .ref k1, .int (nI k2)])).length) Slot.unset).toArray = ls at hl ⊢
  refine W.nameQ (fun Q hQ => ?_)
  refine W.nameR (fun R hR => ?_)
  have hRf : 0 ≤ R.frames := by rw [hR]; exact Nat.le_of_ble_eq_true rfl
  have hRl : 0 ≤ R.locals := by rw [hR]; exact Nat.le_of_ble_eq_true rfl
  have hRc : 0 ≤ R.cells := by rw [hR]; exact Nat.le_of_ble_eq_true rfl
  have hRs : 0 ≤ R.slots := by rw [hR]; exact Nat.le_of_ble_eq_true rfl
  have hF : fr K L [14, 15, 83, 94, 95, 96] M M := fr.rf
  have hl : lv_has ls 4 [(0, .ref za), (1, .ref k1), (2, .int (nI k2))] := hl
  refine lv_aload_n hx hb dX13_clears_0 rfl (lv_at hl 1 rfl) ?_
  obtain ⟨fs1, hM1, hn1, hl1⟩ := hW.open_12 ik1
  obtain ⟨v2, hv2, hc2⟩ : ∃ v : Nat, fs1[48]? = some (.ref v : Value) ∧ isk K L v 94 120 := hl1 48 (by decide)
  refine pg_getN (D := D) (ci := 12) (v := .ref v2) (C := RX12) (T := TX12) (N := 51) hx hb hg inG12 hown hK hP ik1.1 hM1 rfl 48 (by decide) (hN.use (Cond.fieldLinkNest RX13 304 RX12 "none" "[J" RX13) 57 rfl rfl) (fun _ h9 => h9) hv2 dX13_clears_1 ?_
  refine lv_iload_n hx hb dX13_clears_4 rfl (lv_at hl 2 rfl) ?_
  refine lv_lconst (v := 0) hx hb dX13_clears_5 (by decide) ?_
  obtain ⟨f3, hM3⟩ := hW.open_94 hc2
  refine pg_last hx hb hK hP hD hS hc2.1 1 hM3 rfl (inbN k2 120 (by omega) (by omega)) dX13_clears_6 (fun H_4 locs hP hD hS => ?_)
  obtain ⟨M_5, eM_5⟩ : ∃ M1 : Hp, M1 = va_up M v2 (.inl (cy 15, 120, .inr (.inl (vp_updL f3 ((nI k2) : Int32).toNatClampNeg 0)))) := ⟨_, rfl⟩
  have hP : va_P D vwCl ([(za, (b13_0 z0 z1 (nI z2) (nI z3) z4 z5 z6 z7 z8 z9 (nI z10) z11 z12 z13 z14 z15 (nI z16) z17 z18 z19))] ++ va_pl L M_5) H_4 := by rw [eM_5]; exact hP
  have hD : va_D A ([(za, (b13_0 z0 z1 (nI z2) (nI z3) z4 z5 z6 z7 z8 z9 (nI z10) z11 z12 z13 z14 z15 (nI z16) z17 z18 z19))] ++ va_pl L M_5) := by rw [eM_5]; exact hD
  have hW : WOM cy K L M_5 := by rw [eM_5]; exact hW.up_94 hc2 ⟨_, rfl⟩
  have hF : fr K L [14, 15, 83, 94, 95, 96] M M_5 := by rw [eM_5]; exact hF.up hc2 (by decide)
  have hM_6 : M_5 v2 = .inl (cy 15, 120, .inr (.inl (vp_updL f3 ((nI k2) : Int32).toNatClampNeg 0))) := by rw [eM_5]; exact va_up_self _ _ _
  have hM_7 : M_5 k1 = .inr (12, fs1) := by rw [eM_5, va_up_ne _ _ (ik1.neT hc2 (by decide))]; exact hM1
  obtain ⟨f_8, ef_8⟩ : ∃ f : Nat → Int64, f = vp_updL f3 ((nI k2) : Int32).toNatClampNeg 0 := ⟨_, rfl⟩
  rw [← ef_8] at hM_6
  clear ef_8
  refine lv_aload_n hx hb dX13_clears_7 rfl (lv_at hl 1 rfl) ?_
  obtain ⟨v9, hv9, hc9⟩ : ∃ v : Nat, fs1[49]? = some (.ref v : Value) ∧ isk K L v 95 120 := hl1 49 (by decide)
  refine pg_getN (D := D) (ci := 12) (v := .ref v9) (C := RX12) (T := TX12) (N := 51) hx hb hg inG12 hown hK hP ik1.1 hM_7 rfl 49 (by decide) (hN.use (Cond.fieldLinkNest RX13 315 RX12 "all" "[J" RX13) 58 rfl rfl) (fun _ h9 => h9) hv9 dX13_clears_8 ?_
  refine lv_iload_n hx hb dX13_clears_11 rfl (lv_at hl 2 rfl) ?_
  refine lv_lconst (v := 0) hx hb dX13_clears_12 (by decide) ?_
  obtain ⟨f10, hM10⟩ := hW.open_95 hc9
  refine pg_last hx hb hK hP hD hS hc9.1 1 hM10 rfl (inbN k2 120 (by omega) (by omega)) dX13_clears_13 (fun H_11 locs hP hD hS => ?_)
  obtain ⟨M_12, eM_12⟩ : ∃ M1 : Hp, M1 = va_up M_5 v9 (.inl (cy 15, 120, .inr (.inl (vp_updL f10 ((nI k2) : Int32).toNatClampNeg 0)))) := ⟨_, rfl⟩
  have hP : va_P D vwCl ([(za, (b13_0 z0 z1 (nI z2) (nI z3) z4 z5 z6 z7 z8 z9 (nI z10) z11 z12 z13 z14 z15 (nI z16) z17 z18 z19))] ++ va_pl L M_12) H_11 := by rw [eM_12]; exact hP
  have hD : va_D A ([(za, (b13_0 z0 z1 (nI z2) (nI z3) z4 z5 z6 z7 z8 z9 (nI z10) z11 z12 z13 z14 z15 (nI z16) z17 z18 z19))] ++ va_pl L M_12) := by rw [eM_12]; exact hD
  have hW : WOM cy K L M_12 := by rw [eM_12]; exact hW.up_95 hc9 ⟨_, rfl⟩
  have hF : fr K L [14, 15, 83, 94, 95, 96] M M_12 := by rw [eM_12]; exact hF.up hc9 (by decide)
  have hM_13 : M_12 v9 = .inl (cy 15, 120, .inr (.inl (vp_updL f10 ((nI k2) : Int32).toNatClampNeg 0))) := by rw [eM_12]; exact va_up_self _ _ _
  have hM_14 : M_12 v2 = .inl (cy 15, 120, .inr (.inl (f_8))) := by rw [eM_12, va_up_ne _ _ (hc2.neT hc9 (by decide))]; exact hM_6
  have hM_15 : M_12 k1 = .inr (12, fs1) := by rw [eM_12, va_up_ne _ _ (ik1.neT hc9 (by decide))]; exact hM_7
  obtain ⟨f_16, ef_16⟩ : ∃ f : Nat → Int64, f = vp_updL f10 ((nI k2) : Int32).toNatClampNeg 0 := ⟨_, rfl⟩
  rw [← ef_16] at hM_13
  clear ef_16
  refine lv_aload_n hx hb dX13_clears_14 rfl (lv_at hl 1 rfl) ?_
  obtain ⟨v17, hv17, hc17⟩ : ∃ v : Nat, fs1[46]? = some (.ref v : Value) ∧ isk K L v 83 120 := hl1 46 (by decide)
  refine pg_getN (D := D) (ci := 12) (v := .ref v17) (C := RX12) (T := TX12) (N := 51) hx hb hg inG12 hown hK hP ik1.1 hM_15 rfl 46 (by decide) (hN.use (Cond.fieldLinkNest RX13 318 RX12 "stretchIn" "[I" RX13) 55 rfl rfl) (fun _ h9 => h9) hv17 dX13_clears_15 ?_
  refine lv_iload_n hx hb dX13_clears_18 rfl (lv_at hl 2 rfl) ?_
  refine lv_aload_n hx hb dX13_clears_19 rfl (lv_at hl 0 rfl) ?_
  refine va_get (D := D) (ci := 13) (v := .int (nI z16)) (C := RX13) (T := TX13) (N := 20) hx hb hg inG13 hown hK hP 0 rfl rfl 16 (by decide) (hg _ wd_769) (fun _ h9 => h9) rfl dX13_clears_20 ?_
  obtain ⟨f18, hM18⟩ := hW.open_83 hc17
  refine pg_iast hx hb hK hP hD hS hc17.1 0 hM18 rfl (inbN k2 120 (by omega) (by omega)) dX13_clears_23 (fun H_19 locs hP hD hS => ?_)
  obtain ⟨M_20, eM_20⟩ : ∃ M1 : Hp, M1 = va_up M_12 v17 (.inl (cy 14, 120, .inl (upd f18 ((nI k2) : Int32).toNatClampNeg (nI z16)))) := ⟨_, rfl⟩
  have hP : va_P D vwCl ([(za, (b13_0 z0 z1 (nI z2) (nI z3) z4 z5 z6 z7 z8 z9 (nI z10) z11 z12 z13 z14 z15 (nI z16) z17 z18 z19))] ++ va_pl L M_20) H_19 := by rw [eM_20]; exact hP
  have hD : va_D A ([(za, (b13_0 z0 z1 (nI z2) (nI z3) z4 z5 z6 z7 z8 z9 (nI z10) z11 z12 z13 z14 z15 (nI z16) z17 z18 z19))] ++ va_pl L M_20) := by rw [eM_20]; exact hD
  have hW : WOM cy K L M_20 := by rw [eM_20]; exact hW.up_83 hc17 ⟨_, rfl⟩
  have hF : fr K L [14, 15, 83, 94, 95, 96] M M_20 := by rw [eM_20]; exact hF.up hc17 (by decide)
  have hM_21 : M_20 v17 = .inl (cy 14, 120, .inl (upd f18 ((nI k2) : Int32).toNatClampNeg (nI z16))) := by rw [eM_20]; exact va_up_self _ _ _
  have hM_22 : M_20 v9 = .inl (cy 15, 120, .inr (.inl (f_16))) := by rw [eM_20, va_up_ne _ _ (hc9.neT hc17 (by decide))]; exact hM_13
  have hM_23 : M_20 v2 = .inl (cy 15, 120, .inr (.inl (f_8))) := by rw [eM_20, va_up_ne _ _ (hc2.neT hc17 (by decide))]; exact hM_14
  have hM_24 : M_20 k1 = .inr (12, fs1) := by rw [eM_20, va_up_ne _ _ (ik1.neT hc17 (by decide))]; exact hM_15
  obtain ⟨f_25, ef_25⟩ : ∃ f : Nat → Int32, f = upd f18 ((nI k2) : Int32).toNatClampNeg (nI z16) := ⟨_, rfl⟩
  rw [← ef_25] at hM_21
  clear ef_25
  refine lv_iconst (v := 0) hx hb dX13_clears_24 (by decide) ?_
  refine lv_istore_n (lv' := [(3, .int 0), (0, .ref za), (1, .ref k1), (2, .int (nI k2))]) hx hb dX13_clears_25 rfl hl (by decide) rfl (fun ls hl => ?_)
  have key_26 : ∀ (fu_28 : Nat) (v3w29 : Nat) (M_31 : Hp) (H_32 : Heap) (locs : List Loc) (ls : Array Slot), 24 - v3w29 < fu_28 → v3w29 ≤ 24 → WOM cy K L M_31 → fr K L [14, 15, 83, 94, 95, 96] M M_31 → va_P D vwCl ([(za, (b13_0 z0 z1 (nI z2) (nI z3) z4 z5 z6 z7 z8 z9 (nI z10) z11 z12 z13 z14 z15 (nI z16) z17 z18 z19))] ++ va_pl L M_31) H_32 → va_D A ([(za, (b13_0 z0 z1 (nI z2) (nI z3) z4 z5 z6 z7 z8 z9 (nI z10) z11 z12 z13 z14 z15 (nI z16) z17 z18 z19))] ++ va_pl L M_31) → va_S A s.heap H_32 locs → lv_has ls 4 [(3, .int (nI v3w29)), (0, .ref za), (1, .ref k1), (2, .int (nI k2))] → W p l e R s m ([.ref za, .ref k1, .int (nI k2)] : List Value).toArray below meth c H_32 locs 0 0 Q (F0 m 26 ls []) := by
    intro fu_28
    induction fu_28 with
    | zero => intro v3w29 M_31 H_32 locs ls h; exact absurd h (Nat.not_lt_zero _)
    | succ fu_28 ih_27 =>
      intro v3w29 M_31 H_32 locs ls hfu hx_30 hW hF hP hD hS hl
      refine lv_iload_n hx hb dX13_clears_26 rfl (lv_at hl 0 rfl) ?_
      refine lv_bipush (v := 24) hx hb dX13_clears_27 (by decide) ?_
      refine lv_icmp_ge (tgt := 50) hx hb dX13_clears_29 (by decide) (fun c_33 => ?_) (fun c_33 => ?_)
      · have hz := rfl (a := 0)
        have n_34 : 24 ≤ v3w29 := (iLE (a := 24) (b := v3w29) (by omega) (by omega)).mp c_33
        rw [hQ]
        exact W.vret hx hb hr (fun t ht hW9 => ⟨⟨M_31, rfl, ⟨hW, hF, trivial⟩, ⟨by rw [ht]; exact hP, hD⟩⟩, hS.F ht⟩) hS.2.2 dX13_clears_50
      · have hz := rfl (a := 0)
        have n_35 : ¬ (24 ≤ v3w29) := fun q => c_33 ((iLE (a := 24) (b := v3w29) (by omega) (by omega)).mpr q)
        refine lv_aload_n hx hb dX13_clears_32 rfl (lv_at hl 2 rfl) ?_
        obtain ⟨fs36, hM36, hn36, hl36⟩ := hW.open_12 ik1
        obtain ⟨v37, hv37, hc37⟩ : ∃ v : Nat, fs36[50]? = some (.ref v : Value) ∧ isk K L v 96 2880 := hl36 50 (by decide)
        refine pg_getN (D := D) (ci := 12) (v := .ref v37) (C := RX12) (T := TX12) (N := 51) hx hb hg inG12 hown hK hP ik1.1 hM36 rfl 50 (by decide) (hN.use (Cond.fieldLinkNest RX13 312 RX12 "due" "[J" RX13) 59 rfl rfl) (fun _ h9 => h9) hv37 dX13_clears_33 ?_
        refine lv_bipush (v := 24) hx hb dX13_clears_36 (by decide) ?_
        refine lv_iload_n hx hb dX13_clears_38 rfl (lv_at hl 3 rfl) ?_
        refine lv_imul hx hb dX13_clears_39 ?_
        refine lv_topi (fun f_38 ef_38 => ?_)
        obtain rfl : f_38 = (nI (24 * k2)) := ef_38.trans (nI_mul 24 k2)
        refine lv_iload_n hx hb dX13_clears_40 rfl (lv_at hl 0 rfl) ?_
        refine lv_iadd hx hb dX13_clears_41 ?_
        refine lv_topi (fun f_39 ef_39 => ?_)
        obtain rfl : f_39 = (nI ((24 * k2) + v3w29)) := ef_39.trans (nI_add (24 * k2) v3w29)
        refine lv_lconst (v := 0) hx hb dX13_clears_42 (by decide) ?_
        obtain ⟨f40, hM40⟩ := hW.open_96 hc37
        refine pg_last hx hb hK hP hD hS hc37.1 1 hM40 rfl (inbN ((24 * k2) + v3w29) 2880 (by omega) (by omega)) dX13_clears_43 (fun H_41 locs hP hD hS => ?_)
        obtain ⟨M_42, eM_42⟩ : ∃ M1 : Hp, M1 = va_up M_31 v37 (.inl (cy 15, 2880, .inr (.inl (vp_updL f40 ((nI ((24 * k2) + v3w29)) : Int32).toNatClampNeg 0)))) := ⟨_, rfl⟩
        have hP : va_P D vwCl ([(za, (b13_0 z0 z1 (nI z2) (nI z3) z4 z5 z6 z7 z8 z9 (nI z10) z11 z12 z13 z14 z15 (nI z16) z17 z18 z19))] ++ va_pl L M_42) H_41 := by rw [eM_42]; exact hP
        have hD : va_D A ([(za, (b13_0 z0 z1 (nI z2) (nI z3) z4 z5 z6 z7 z8 z9 (nI z10) z11 z12 z13 z14 z15 (nI z16) z17 z18 z19))] ++ va_pl L M_42) := by rw [eM_42]; exact hD
        have hW : WOM cy K L M_42 := by rw [eM_42]; exact hW.up_96 hc37 ⟨_, rfl⟩
        have hF : fr K L [14, 15, 83, 94, 95, 96] M M_42 := by rw [eM_42]; exact hF.up hc37 (by decide)
        have hM_43 : M_42 v37 = .inl (cy 15, 2880, .inr (.inl (vp_updL f40 ((nI ((24 * k2) + v3w29)) : Int32).toNatClampNeg 0))) := by rw [eM_42]; exact va_up_self _ _ _
        have hM_44 : M_42 k1 = .inr (12, fs36) := by rw [eM_42, va_up_ne _ _ (ik1.neT hc37 (by decide))]; exact hM36
        obtain ⟨f_45, ef_45⟩ : ∃ f : Nat → Int64, f = vp_updL f40 ((nI ((24 * k2) + v3w29)) : Int32).toNatClampNeg 0 := ⟨_, rfl⟩
        rw [← ef_45] at hM_43
        clear ef_45
        refine lv_iinc (v := (nI (v3w29 + 1))) (lv' := [(3, .int (nI (v3w29 + 1))), (0, .ref za), (1, .ref k1), (2, .int (nI k2))]) hx hb dX13_clears_44 hl (k := 0) rfl (nI_1 v3w29) (by decide) rfl (fun ls hl => ?_)
        refine lv_goto (tgt := 26) hx hb dX13_clears_47 (by decide) ?_
        exact ih_27 (v3w29 + 1) M_42 H_41 _ _ (by omega) (by omega) hW hF hP hD hS (lv_sub hl [0, 1, 2, 3] rfl)
  exact key_26 (24 - 0 + 1) 0 M_20 H_19 _ _ (by omega) (by omega) hW hF hP hD hS (lv_sub hl [0, 1, 2, 3] rfl)
set_option maxHeartbeats 4000000 in
set_option maxRecDepth 100000 in
theorem r_X13_gives (l : Launch) (D : va_G) (cy : Nat → ClassId) (K : Kp) (L : List Nat) (M : Hp) (sz : Nat) (za : Nat) (z0 : Int32) (z1 : Nat) (z2 : Nat) (z3 : Nat) (z4 : Int32) (z5 : Int32) (z6 : Nat) (z7 : Nat) (z8 : Nat) (z9 : Nat) (z10 : Nat) (z11 : Nat) (z12 : Nat) (z13 : Nat) (z14 : Nat) (z15 : Nat) (z16 : Nat) (z17 : Nat) (z18 : Int32) (z19 : Nat) (k1 : Nat) (k2 : Nat) (k3 : Nat) (k4 : Int64) (hW : WOM cy K L M) (i1 : isk K L z1 23 8) (b2 : z2 ≤ 8) (b3 : z3 ≤ 40) (i6 : isk K L z6 47 40) (i7 : isk K L z7 48 40) (i8 : isk K L z8 49 8) (i9 : isk K L z9 50 8) (b10 : z10 ≤ 8) (i11 : isk K L z11 32 24) (i12 : isk K L z12 14 24) (i13 : isk K L z13 97 24) (i14 : isk K L z14 98 24) (i15 : isk K L z15 99 24) (b16 : z16 ≤ 24) (i17 : isk K L z17 14 24) (i19 : isk K L z19 15 25) (ik1 : isk K L k1 12 0) (nk2 : k2 < 120) (nk3 : k3 < 24) : Met l yX13_gives (wsM yX13_gives cX13_gives 6 none) ({ frames := 0, cells := 0, slots := 0, locals := 0 }) (va_Pc [.ref za, .ref k1, .int (nI k2), .int (nI k3), .long k4] (PG D cy [(za, (b13_0 z0 z1 (nI z2) (nI z3) z4 z5 z6 z7 z8 z9 (nI z10) z11 z12 z13 z14 z15 (nI z16) z17 z18 z19))] L M sz)) (va_Qv (fun (M9 : Hp) => WOM cy K L M9 ∧ fr K L [15, 92, 95, 96] M M9 ∧ (True)) (fun M9 t => PQ D [(za, (b13_0 z0 z1 (nI z2) (nI z3) z4 z5 z6 z7 z8 z9 (nI z10) z11 z12 z13 z14 z15 (nI z16) z17 z18 z19))] L M9 (va_A ([(za, (b13_0 z0 z1 (nI z2) (nI z3) z4 z5 z6 z7 z8 z9 (nI z10) z11 z12 z13 z14 z15 (nI z16) z17 z18 z19))] ++ va_pl L M) sz) t) (va_A ([(za, (b13_0 z0 z1 (nI z2) (nI z3) z4 z5 z6 z7 z8 z9 (nI z10) z11 z12 z13 z14 z15 (nI z16) z17 z18 z19))] ++ va_pl L M) sz)) 0 0 (va_A ([(za, (b13_0 z0 z1 (nI z2) (nI z3) z4 z5 z6 z7 z8 z9 (nI z10) z11 z12 z13 z14 z15 (nI z16) z17 z18 z19))] ++ va_pl L M) sz) := by
  refine Met.ofW (cc := cX13_gives) (maxL := 6) (ret := none) (by decide) rfl ?_
  intro p e s m args below meth c s₁ B hml hv
  obtain ⟨rfl, hsz, hP, hK, hD0, hN⟩ := hv
  have hx := B.exec
  have hb := B.bytes
  have hr := B.returns
  have hts := atoms_spec (ws := (wsM yX13_gives cX13_gives 6 none)) B.pre
  have hg : ∀ w ∈ lw_good, w.before _ s = true := fun w h => hts w (List.mem_cons_of_mem _ h)
  have hown : s.vm.findClass RX13 = some m.cls := findClass_of_methodNamed B.named
  have hlocks := B.notSynchronized
  subst hsz
  have hD := hD0.self (sz := s.heap.size)
  generalize hAe : va_A ([(za, (b13_0 z0 z1 (nI z2) (nI z3) z4 z5 z6 z7 z8 z9 (nI z10) z11 z12 z13 z14 z15 (nI z16) z17 z18 z19))] ++ va_pl L M) s.heap.size = A at hD ⊢
  have hA : ∀ q : Nat, s.heap.size ≤ q → A q := fun q h => by rw [← hAe]; exact Or.inr h
  have hS : va_S A s.heap s.heap [] := va_S.rf
  have hl := lv_entry ([.ref za, .ref k1, .int (nI k2), .int (nI k3), .long k4]) (n := 6) (Nat.le_of_ble_eq_true rfl)
  rw [lg_entry_eq]
  generalize (lg_sl ([.ref za, .ref k1, .int (nI k2), .int (nI k3), .long k4]) ++ List.replicate (6 - (lg_sl ([.ref za, .ref k1, .int (nI k2), .int (nI k3), .long k4])).length) Slot.unset).toArray = ls at hl ⊢
  refine W.nameQ (fun Q hQ => ?_)
  refine W.nameR (fun R hR => ?_)
  have hRf : 0 ≤ R.frames := by rw [hR]; exact Nat.le_of_ble_eq_true rfl
  have hRl : 0 ≤ R.locals := by rw [hR]; exact Nat.le_of_ble_eq_true rfl
  have hRc : 0 ≤ R.cells := by rw [hR]; exact Nat.le_of_ble_eq_true rfl
  have hRs : 0 ≤ R.slots := by rw [hR]; exact Nat.le_of_ble_eq_true rfl
  have hF : fr K L [15, 92, 95, 96] M M := fr.rf
  have hl : lv_has ls 6 [(0, .ref za), (1, .ref k1), (2, .int (nI k2)), (3, .int (nI k3)), (4, .long k4)] := hl
  refine lv_aload_n hx hb dX13_gives_0 rfl (lv_at hl 1 rfl) ?_
  obtain ⟨fs1, hM1, hn1, hl1⟩ := hW.open_12 ik1
  obtain ⟨v2, hv2, hc2⟩ : ∃ v : Nat, fs1[50]? = some (.ref v : Value) ∧ isk K L v 96 2880 := hl1 50 (by decide)
  refine pg_getN (D := D) (ci := 12) (v := .ref v2) (C := RX12) (T := TX12) (N := 51) hx hb hg inG12 hown hK hP ik1.1 hM1 rfl 50 (by decide) (hN.use (Cond.fieldLinkNest RX13 312 RX12 "due" "[J" RX13) 59 rfl rfl) (fun _ h9 => h9) hv2 dX13_gives_1 ?_
  refine lv_bipush (v := 24) hx hb dX13_gives_4 (by decide) ?_
  refine lv_iload_n hx hb dX13_gives_6 rfl (lv_at hl 2 rfl) ?_
  refine lv_imul hx hb dX13_gives_7 ?_
  refine lv_topi (fun f_3 ef_3 => ?_)
  obtain rfl : f_3 = (nI (24 * k2)) := ef_3.trans (nI_mul 24 k2)
  refine lv_iload_n hx hb dX13_gives_8 rfl (lv_at hl 3 rfl) ?_
  refine lv_iadd hx hb dX13_gives_9 ?_
  refine lv_topi (fun f_4 ef_4 => ?_)
  obtain rfl : f_4 = (nI ((24 * k2) + k3)) := ef_4.trans (nI_add (24 * k2) k3)
  refine lv_dup2_11 hx hb dX13_gives_10 rfl rfl ?_
  obtain ⟨f5, hM5⟩ := hW.open_96 hc2
  refine pg_lald hx hb hK hP hc2.1 1 hM5 rfl (inbN ((24 * k2) + k3) 2880 (by omega) (by omega)) dX13_gives_11 ?_
  refine lv_topl (fun f_6 ef_6 => ?_)
  refine lv_lload hx hb dX13_gives_12 (lv_at hl 4 rfl) ?_
  refine lv_ladd hx hb dX13_gives_14 ?_
  refine lv_topl (fun f_7 ef_7 => ?_)
  refine pg_last hx hb hK hP hD hS hc2.1 1 hM5 rfl (inbN ((24 * k2) + k3) 2880 (by omega) (by omega)) dX13_gives_15 (fun H_8 locs hP hD hS => ?_)
  obtain ⟨M_9, eM_9⟩ : ∃ M1 : Hp, M1 = va_up M v2 (.inl (cy 15, 2880, .inr (.inl (vp_updL f5 ((nI ((24 * k2) + k3)) : Int32).toNatClampNeg f_7)))) := ⟨_, rfl⟩
  have hP : va_P D vwCl ([(za, (b13_0 z0 z1 (nI z2) (nI z3) z4 z5 z6 z7 z8 z9 (nI z10) z11 z12 z13 z14 z15 (nI z16) z17 z18 z19))] ++ va_pl L M_9) H_8 := by rw [eM_9]; exact hP
  have hD : va_D A ([(za, (b13_0 z0 z1 (nI z2) (nI z3) z4 z5 z6 z7 z8 z9 (nI z10) z11 z12 z13 z14 z15 (nI z16) z17 z18 z19))] ++ va_pl L M_9) := by rw [eM_9]; exact hD
  have hW : WOM cy K L M_9 := by rw [eM_9]; exact hW.up_96 hc2 ⟨_, rfl⟩
  have hF : fr K L [15, 92, 95, 96] M M_9 := by rw [eM_9]; exact hF.up hc2 (by decide)
  have hM_10 : M_9 v2 = .inl (cy 15, 2880, .inr (.inl (vp_updL f5 ((nI ((24 * k2) + k3)) : Int32).toNatClampNeg f_7))) := by rw [eM_9]; exact va_up_self _ _ _
  have hM_11 : M_9 k1 = .inr (12, fs1) := by rw [eM_9, va_up_ne _ _ (ik1.neT hc2 (by decide))]; exact hM1
  obtain ⟨f_12, ef_12⟩ : ∃ f : Nat → Int64, f = vp_updL f5 ((nI ((24 * k2) + k3)) : Int32).toNatClampNeg f_7 := ⟨_, rfl⟩
  rw [← ef_12] at hM_10
  clear ef_12
  refine lv_aload_n hx hb dX13_gives_16 rfl (lv_at hl 1 rfl) ?_
  obtain ⟨v13, hv13, hc13⟩ : ∃ v : Nat, fs1[49]? = some (.ref v : Value) ∧ isk K L v 95 120 := hl1 49 (by decide)
  refine pg_getN (D := D) (ci := 12) (v := .ref v13) (C := RX12) (T := TX12) (N := 51) hx hb hg inG12 hown hK hP ik1.1 hM_11 rfl 49 (by decide) (hN.use (Cond.fieldLinkNest RX13 315 RX12 "all" "[J" RX13) 58 rfl rfl) (fun _ h9 => h9) hv13 dX13_gives_17 ?_
  refine lv_iload_n hx hb dX13_gives_20 rfl (lv_at hl 2 rfl) ?_
  refine lv_dup2_11 hx hb dX13_gives_21 rfl rfl ?_
  obtain ⟨f14, hM14⟩ := hW.open_95 hc13
  refine pg_lald hx hb hK hP hc13.1 1 hM14 rfl (inbN k2 120 (by omega) (by omega)) dX13_gives_22 ?_
  refine lv_topl (fun f_15 ef_15 => ?_)
  refine lv_lload hx hb dX13_gives_23 (lv_at hl 4 rfl) ?_
  refine lv_ladd hx hb dX13_gives_25 ?_
  refine lv_topl (fun f_16 ef_16 => ?_)
  refine pg_last hx hb hK hP hD hS hc13.1 1 hM14 rfl (inbN k2 120 (by omega) (by omega)) dX13_gives_26 (fun H_17 locs hP hD hS => ?_)
  obtain ⟨M_18, eM_18⟩ : ∃ M1 : Hp, M1 = va_up M_9 v13 (.inl (cy 15, 120, .inr (.inl (vp_updL f14 ((nI k2) : Int32).toNatClampNeg f_16)))) := ⟨_, rfl⟩
  have hP : va_P D vwCl ([(za, (b13_0 z0 z1 (nI z2) (nI z3) z4 z5 z6 z7 z8 z9 (nI z10) z11 z12 z13 z14 z15 (nI z16) z17 z18 z19))] ++ va_pl L M_18) H_17 := by rw [eM_18]; exact hP
  have hD : va_D A ([(za, (b13_0 z0 z1 (nI z2) (nI z3) z4 z5 z6 z7 z8 z9 (nI z10) z11 z12 z13 z14 z15 (nI z16) z17 z18 z19))] ++ va_pl L M_18) := by rw [eM_18]; exact hD
  have hW : WOM cy K L M_18 := by rw [eM_18]; exact hW.up_95 hc13 ⟨_, rfl⟩
  have hF : fr K L [15, 92, 95, 96] M M_18 := by rw [eM_18]; exact hF.up hc13 (by decide)
  have hM_19 : M_18 v13 = .inl (cy 15, 120, .inr (.inl (vp_updL f14 ((nI k2) : Int32).toNatClampNeg f_16))) := by rw [eM_18]; exact va_up_self _ _ _
  have hM_20 : M_18 v2 = .inl (cy 15, 2880, .inr (.inl (f_12))) := by rw [eM_18, va_up_ne _ _ (hc2.neT hc13 (by decide))]; exact hM_10
  have hM_21 : M_18 k1 = .inr (12, fs1) := by rw [eM_18, va_up_ne _ _ (ik1.neT hc13 (by decide))]; exact hM_11
  obtain ⟨f_22, ef_22⟩ : ∃ f : Nat → Int64, f = vp_updL f14 ((nI k2) : Int32).toNatClampNeg f_16 := ⟨_, rfl⟩
  rw [← ef_22] at hM_19
  clear ef_22
  refine lv_aload_n hx hb dX13_gives_27 rfl (lv_at hl 1 rfl) ?_
  obtain ⟨v23, hv23, hc23⟩ : ∃ v : Nat, fs1[33]? = some (.ref v : Value) ∧ isk K L v 92 24 := hl1 33 (by decide)
  refine pg_getN (D := D) (ci := 12) (v := .ref v23) (C := RX12) (T := TX12) (N := 51) hx hb hg inG12 hown hK hP ik1.1 hM_21 rfl 33 (by decide) (hN.use (Cond.fieldLinkNest RX13 259 RX12 "dues" "[J" RX13) 42 rfl rfl) (fun _ h9 => h9) hv23 dX13_gives_28 ?_
  refine lv_iload_n hx hb dX13_gives_31 rfl (lv_at hl 3 rfl) ?_
  refine lv_dup2_11 hx hb dX13_gives_32 rfl rfl ?_
  obtain ⟨f24, hM24⟩ := hW.open_92 hc23
  refine pg_lald hx hb hK hP hc23.1 1 hM24 rfl (inbN k3 24 (by omega) (by omega)) dX13_gives_33 ?_
  refine lv_topl (fun f_25 ef_25 => ?_)
  refine lv_lload hx hb dX13_gives_34 (lv_at hl 4 rfl) ?_
  refine lv_ladd hx hb dX13_gives_36 ?_
  refine lv_topl (fun f_26 ef_26 => ?_)
  refine pg_last hx hb hK hP hD hS hc23.1 1 hM24 rfl (inbN k3 24 (by omega) (by omega)) dX13_gives_37 (fun H_27 locs hP hD hS => ?_)
  obtain ⟨M_28, eM_28⟩ : ∃ M1 : Hp, M1 = va_up M_18 v23 (.inl (cy 15, 24, .inr (.inl (vp_updL f24 ((nI k3) : Int32).toNatClampNeg f_26)))) := ⟨_, rfl⟩
  have hP : va_P D vwCl ([(za, (b13_0 z0 z1 (nI z2) (nI z3) z4 z5 z6 z7 z8 z9 (nI z10) z11 z12 z13 z14 z15 (nI z16) z17 z18 z19))] ++ va_pl L M_28) H_27 := by rw [eM_28]; exact hP
  have hD : va_D A ([(za, (b13_0 z0 z1 (nI z2) (nI z3) z4 z5 z6 z7 z8 z9 (nI z10) z11 z12 z13 z14 z15 (nI z16) z17 z18 z19))] ++ va_pl L M_28) := by rw [eM_28]; exact hD
  have hW : WOM cy K L M_28 := by rw [eM_28]; exact hW.up_92 hc23 ⟨_, rfl⟩
  have hF : fr K L [15, 92, 95, 96] M M_28 := by rw [eM_28]; exact hF.up hc23 (by decide)
  have hM_29 : M_28 v23 = .inl (cy 15, 24, .inr (.inl (vp_updL f24 ((nI k3) : Int32).toNatClampNeg f_26))) := by rw [eM_28]; exact va_up_self _ _ _
  have hM_30 : M_28 v13 = .inl (cy 15, 120, .inr (.inl (f_22))) := by rw [eM_28, va_up_ne _ _ (hc13.neT hc23 (by decide))]; exact hM_19
  have hM_31 : M_28 v2 = .inl (cy 15, 2880, .inr (.inl (f_12))) := by rw [eM_28, va_up_ne _ _ (hc2.neT hc23 (by decide))]; exact hM_20
  have hM_32 : M_28 k1 = .inr (12, fs1) := by rw [eM_28, va_up_ne _ _ (ik1.neT hc23 (by decide))]; exact hM_21
  obtain ⟨f_33, ef_33⟩ : ∃ f : Nat → Int64, f = vp_updL f24 ((nI k3) : Int32).toNatClampNeg f_26 := ⟨_, rfl⟩
  rw [← ef_33] at hM_29
  clear ef_33
  rw [hQ]
  exact W.vret hx hb hr (fun t ht hW9 => ⟨⟨M_28, rfl, ⟨hW, hF, trivial⟩, ⟨by rw [ht]; exact hP, hD⟩⟩, hS.F ht⟩) hS.2.2 dX13_gives_38
