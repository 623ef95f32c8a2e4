theorem dX13_refused_0 : decode cX13_refused 0 = .ok (.aload_n 0, 1) := by decide +kernel
theorem dX13_refused_1 : decode cX13_refused 1 = .ok (.iload_n 1, 1) := by decide +kernel
theorem dX13_refused_2 : decode cX13_refused 2 = .ok (.putfield 58, 3) := by decide +kernel
theorem dX13_refused_5 : decode cX13_refused 5 = .ok (.aload_n 0, 1) := by decide +kernel
theorem dX13_refused_6 : decode cX13_refused 6 = .ok (.iconst (-1), 1) := by decide +kernel
theorem dX13_refused_7 : decode cX13_refused 7 = .ok (.putfield 16, 3) := by decide +kernel
theorem dX13_refused_10 : decode cX13_refused 10 = .ok (.iconst (-1), 1) := by decide +kernel
theorem dX13_refused_11 : decode cX13_refused 11 = .ok (.ireturn, 1) := by decide +kernel
theorem dX13_done_0 : decode cX13_done 0 = .ok (.aload_n 0, 1) := by decide +kernel
theorem dX13_done_1 : decode cX13_done 1 = .ok (.iconst 0, 1) := by decide +kernel
theorem dX13_done_2 : decode cX13_done 2 = .ok (.putfield 58, 3) := by decide +kernel
theorem dX13_done_5 : decode cX13_done 5 = .ok (.aload_n 0, 1) := by decide +kernel
theorem dX13_done_6 : decode cX13_done 6 = .ok (.iconst (-1), 1) := by decide +kernel
theorem dX13_done_7 : decode cX13_done 7 = .ok (.putfield 16, 3) := by decide +kernel
theorem dX13_done_10 : decode cX13_done 10 = .ok (.iload_n 1, 1) := by decide +kernel
theorem dX13_done_11 : decode cX13_done 11 = .ok (.ireturn, 1) := by decide +kernel
theorem dX13_isHouse_0 : decode cX13_isHouse 0 = .ok (.iload_n 1, 1) := by decide +kernel
theorem dX13_isHouse_1 : decode cX13_isHouse 1 = .ok (.ifCond .lt 15, 3) := by decide +kernel
theorem dX13_isHouse_4 : decode cX13_isHouse 4 = .ok (.iload_n 1, 1) := by decide +kernel
theorem dX13_isHouse_5 : decode cX13_isHouse 5 = .ok (.aload_n 0, 1) := by decide +kernel
theorem dX13_isHouse_6 : decode cX13_isHouse 6 = .ok (.getfield 61, 3) := by decide +kernel
theorem dX13_isHouse_9 : decode cX13_isHouse 9 = .ok (.if_icmp .ge 7, 3) := by decide +kernel
theorem dX13_isHouse_16 : decode cX13_isHouse 16 = .ok (.iconst 0, 1) := by decide +kernel
theorem dX13_isHouse_17 : decode cX13_isHouse 17 = .ok (.ireturn, 1) := by decide +kernel
theorem dX13_isSeat_0 : decode cX13_isSeat 0 = .ok (.aload_n 0, 1) := by decide +kernel
theorem dX13_isSeat_1 : decode cX13_isSeat 1 = .ok (.iload_n 1, 1) := by decide +kernel
theorem dX13_isSeat_2 : decode cX13_isSeat 2 = .ok (.invokevirtual 64, 3) := by decide +kernel
theorem dX13_isSeat_5 : decode cX13_isSeat 5 = .ok (.ifCond .eq 17, 3) := by decide +kernel
theorem dX13_isSeat_22 : decode cX13_isSeat 22 = .ok (.iconst 0, 1) := by decide +kernel
theorem dX13_isSeat_23 : decode cX13_isSeat 23 = .ok (.ireturn, 1) := by decide +kernel
theorem dX13_isTenure_0 : decode cX13_isTenure 0 = .ok (.aload_n 0, 1) := by decide +kernel
theorem dX13_isTenure_1 : decode cX13_isTenure 1 = .ok (.iload_n 1, 1) := by decide +kernel
theorem dX13_isTenure_2 : decode cX13_isTenure 2 = .ok (.invokevirtual 64, 3) := by decide +kernel
theorem dX13_isTenure_5 : decode cX13_isTenure 5 = .ok (.ifCond .eq 24, 3) := by decide +kernel
theorem dX13_isTenure_29 : decode cX13_isTenure 29 = .ok (.iconst 0, 1) := by decide +kernel
theorem dX13_isTenure_30 : decode cX13_isTenure 30 = .ok (.ireturn, 1) := by decide +kernel
theorem dX13_partner_0 : decode cX13_partner 0 = .ok (.aload_n 0, 1) := by decide +kernel
theorem dX13_partner_1 : decode cX13_partner 1 = .ok (.iconst 0, 1) := by decide +kernel
theorem dX13_partner_2 : decode cX13_partner 2 = .ok (.putfield 55, 3) := by decide +kernel
theorem dX13_partner_5 : decode cX13_partner 5 = .ok (.iload_n 1, 1) := by decide +kernel
theorem dX13_partner_6 : decode cX13_partner 6 = .ok (.iconst 1, 1) := by decide +kernel
theorem dX13_partner_7 : decode cX13_partner 7 = .ok (.if_icmp .eq 13, 3) := by decide +kernel
theorem dX13_partner_10 : decode cX13_partner 10 = .ok (.iload_n 1, 1) := by decide +kernel
theorem dX13_partner_11 : decode cX13_partner 11 = .ok (.iconst 2, 1) := by decide +kernel
theorem dX13_partner_12 : decode cX13_partner 12 = .ok (.if_icmp .eq 8, 3) := by decide +kernel
theorem dX13_partner_15 : decode cX13_partner 15 = .ok (.iload_n 1, 1) := by decide +kernel
theorem dX13_partner_16 : decode cX13_partner 16 = .ok (.iconst 4, 1) := by decide +kernel
theorem dX13_partner_17 : decode cX13_partner 17 = .ok (.if_icmp .ne 7, 3) := by decide +kernel
theorem dX13_partner_20 : decode cX13_partner 20 = .ok (.iconst 1, 1) := by decide +kernel
theorem dX13_partner_21 : decode cX13_partner 21 = .ok (.goto 4, 3) := by decide +kernel
theorem dX13_partner_24 : decode cX13_partner 24 = .ok (.iconst 0, 1) := by decide +kernel
theorem dX13_partner_25 : decode cX13_partner 25 = .ok (.istore_n 3, 1) := by decide +kernel
theorem dX13_partner_26 : decode cX13_partner 26 = .ok (.iload_n 1, 1) := by decide +kernel
theorem dX13_partner_27 : decode cX13_partner 27 = .ok (.ifCond .lt 22, 3) := by decide +kernel
theorem dX13_partner_30 : decode cX13_partner 30 = .ok (.iload_n 1, 1) := by decide +kernel
theorem dX13_partner_31 : decode cX13_partner 31 = .ok (.iconst 5, 1) := by decide +kernel
theorem dX13_partner_32 : decode cX13_partner 32 = .ok (.if_icmp .gt 17, 3) := by decide +kernel
theorem dX13_partner_35 : decode cX13_partner 35 = .ok (.iload_n 3, 1) := by decide +kernel
theorem dX13_partner_36 : decode cX13_partner 36 = .ok (.ifCond .eq 19, 3) := by decide +kernel
theorem dX13_partner_39 : decode cX13_partner 39 = .ok (.iload_n 2, 1) := by decide +kernel
theorem dX13_partner_40 : decode cX13_partner 40 = .ok (.ifCond .lt 9, 3) := by decide +kernel
theorem dX13_partner_43 : decode cX13_partner 43 = .ok (.iload_n 2, 1) := by decide +kernel
theorem dX13_partner_44 : decode cX13_partner 44 = .ok (.ldc 71, 2) := by decide +kernel
theorem dX13_partner_46 : decode cX13_partner 46 = .ok (.if_icmp .le 9, 3) := by decide +kernel
theorem dX13_partner_49 : decode cX13_partner 49 = .ok (.aload_n 0, 1) := by decide +kernel
theorem dX13_partner_50 : decode cX13_partner 50 = .ok (.iconst 2, 1) := by decide +kernel
theorem dX13_partner_51 : decode cX13_partner 51 = .ok (.invokevirtual 73, 3) := by decide +kernel
theorem dX13_partner_54 : decode cX13_partner 54 = .ok (.ireturn, 1) := by decide +kernel
theorem dX13_partner_55 : decode cX13_partner 55 = .ok (.iload_n 1, 1) := by decide +kernel
theorem dX13_partner_56 : decode cX13_partner 56 = .ok (.iconst 5, 1) := by decide +kernel
theorem dX13_partner_57 : decode cX13_partner 57 = .ok (.if_icmp .ne 17, 3) := by decide +kernel
theorem dX13_partner_60 : decode cX13_partner 60 = .ok (.aload_n 0, 1) := by decide +kernel
theorem dX13_partner_61 : decode cX13_partner 61 = .ok (.iload_n 2, 1) := by decide +kernel
theorem dX13_partner_62 : decode cX13_partner 62 = .ok (.invokevirtual 64, 3) := by decide +kernel
theorem dX13_partner_65 : decode cX13_partner 65 = .ok (.ifCond .ne 9, 3) := by decide +kernel
theorem dX13_partner_68 : decode cX13_partner 68 = .ok (.aload_n 0, 1) := by decide +kernel
theorem dX13_partner_69 : decode cX13_partner 69 = .ok (.iconst 1, 1) := by decide +kernel
theorem dX13_partner_70 : decode cX13_partner 70 = .ok (.invokevirtual 73, 3) := by decide +kernel
theorem dX13_partner_73 : decode cX13_partner 73 = .ok (.ireturn, 1) := by decide +kernel
theorem dX13_partner_74 : decode cX13_partner 74 = .ok (.aload_n 0, 1) := by decide +kernel
theorem dX13_partner_75 : decode cX13_partner 75 = .ok (.getfield 89, 3) := by decide +kernel
theorem dX13_partner_78 : decode cX13_partner 78 = .ok (.bipush 40, 2) := by decide +kernel
theorem dX13_partner_80 : decode cX13_partner 80 = .ok (.if_icmp .ne 10, 3) := by decide +kernel
theorem dX13_partner_90 : decode cX13_partner 90 = .ok (.aload_n 0, 1) := by decide +kernel
theorem dX13_partner_91 : decode cX13_partner 91 = .ok (.getfield 20, 3) := by decide +kernel
theorem dX13_partner_94 : decode cX13_partner 94 = .ok (.aload_n 0, 1) := by decide +kernel
theorem dX13_partner_95 : decode cX13_partner 95 = .ok (.getfield 89, 3) := by decide +kernel
theorem dX13_partner_98 : decode cX13_partner 98 = .ok (.iload_n 1, 1) := by decide +kernel
theorem dX13_partner_99 : decode cX13_partner 99 = .ok (.iastore, 1) := by decide +kernel
theorem dX13_partner_100 : decode cX13_partner 100 = .ok (.aload_n 0, 1) := by decide +kernel
theorem dX13_partner_101 : decode cX13_partner 101 = .ok (.getfield 24, 3) := by decide +kernel
theorem dX13_partner_104 : decode cX13_partner 104 = .ok (.aload_n 0, 1) := by decide +kernel
theorem dX13_partner_105 : decode cX13_partner 105 = .ok (.getfield 89, 3) := by decide +kernel
theorem dX13_partner_108 : decode cX13_partner 108 = .ok (.iload_n 2, 1) := by decide +kernel
theorem dX13_partner_109 : decode cX13_partner 109 = .ok (.iastore, 1) := by decide +kernel
theorem dX13_partner_110 : decode cX13_partner 110 = .ok (.aload_n 0, 1) := by decide +kernel
theorem dX13_partner_111 : decode cX13_partner 111 = .ok (.dup, 1) := by decide +kernel
theorem dX13_partner_112 : decode cX13_partner 112 = .ok (.getfield 89, 3) := by decide +kernel
theorem dX13_partner_115 : decode cX13_partner 115 = .ok (.iconst 1, 1) := by decide +kernel
theorem dX13_partner_116 : decode cX13_partner 116 = .ok (.iadd, 1) := by decide +kernel
theorem dX13_partner_117 : decode cX13_partner 117 = .ok (.putfield 89, 3) := by decide +kernel
theorem dX13_partner_120 : decode cX13_partner 120 = .ok (.aload_n 0, 1) := by decide +kernel
theorem dX13_partner_121 : decode cX13_partner 121 = .ok (.aload_n 0, 1) := by decide +kernel
theorem dX13_partner_122 : decode cX13_partner 122 = .ok (.getfield 89, 3) := by decide +kernel
theorem dX13_partner_125 : decode cX13_partner 125 = .ok (.iconst 1, 1) := by decide +kernel
theorem dX13_partner_126 : decode cX13_partner 126 = .ok (.isub, 1) := by decide +kernel
theorem dX13_partner_127 : decode cX13_partner 127 = .ok (.invokevirtual 86, 3) := by decide +kernel
theorem dX13_partner_130 : decode cX13_partner 130 = .ok (.ireturn, 1) := by decide +kernel
theorem dX13_letter_0 : decode cX13_letter 0 = .ok (.aload_n 0, 1) := by decide +kernel
theorem dX13_letter_1 : decode cX13_letter 1 = .ok (.iconst 0, 1) := by decide +kernel
theorem dX13_letter_2 : decode cX13_letter 2 = .ok (.putfield 55, 3) := by decide +kernel
theorem dX13_letter_5 : decode cX13_letter 5 = .ok (.aload_n 0, 1) := by decide +kernel
theorem dX13_letter_6 : decode cX13_letter 6 = .ok (.iload_n 1, 1) := by decide +kernel
theorem dX13_letter_7 : decode cX13_letter 7 = .ok (.iload_n 2, 1) := by decide +kernel
theorem dX13_letter_8 : decode cX13_letter 8 = .ok (.invokevirtual 98, 3) := by decide +kernel
theorem dX13_letter_11 : decode cX13_letter 11 = .ok (.ifCond .ne 9, 3) := by decide +kernel
theorem dX13_letter_14 : decode cX13_letter 14 = .ok (.aload_n 0, 1) := by decide +kernel
theorem dX13_letter_15 : decode cX13_letter 15 = .ok (.iconst 1, 1) := by decide +kernel
theorem dX13_letter_16 : decode cX13_letter 16 = .ok (.invokevirtual 73, 3) := by decide +kernel
theorem dX13_letter_19 : decode cX13_letter 19 = .ok (.ireturn, 1) := by decide +kernel
theorem dX13_unseal_0 : decode cX13_unseal 0 = .ok (.aload_n 0, 1) := by decide +kernel
theorem dX13_unseal_1 : decode cX13_unseal 1 = .ok (.iconst 0, 1) := by decide +kernel
theorem dX13_unseal_2 : decode cX13_unseal 2 = .ok (.putfield 55, 3) := by decide +kernel
theorem dX13_unseal_5 : decode cX13_unseal 5 = .ok (.aload_n 0, 1) := by decide +kernel
theorem dX13_unseal_6 : decode cX13_unseal 6 = .ok (.iload_n 1, 1) := by decide +kernel
theorem dX13_unseal_7 : decode cX13_unseal 7 = .ok (.iload_n 2, 1) := by decide +kernel
theorem dX13_unseal_8 : decode cX13_unseal 8 = .ok (.invokevirtual 98, 3) := by decide +kernel
theorem dX13_unseal_11 : decode cX13_unseal 11 = .ok (.ifCond .ne 9, 3) := by decide +kernel
theorem dX13_unseal_14 : decode cX13_unseal 14 = .ok (.aload_n 0, 1) := by decide +kernel
theorem dX13_unseal_15 : decode cX13_unseal 15 = .ok (.iconst 1, 1) := by decide +kernel
theorem dX13_unseal_16 : decode cX13_unseal 16 = .ok (.invokevirtual 73, 3) := by decide +kernel
theorem dX13_unseal_19 : decode cX13_unseal 19 = .ok (.ireturn, 1) := by decide +kernel
theorem dX13_holds_0 : decode cX13_holds 0 = .ok (.aload_n 0, 1) := by decide +kernel
theorem dX13_holds_1 : decode cX13_holds 1 = .ok (.iconst 0, 1) := by decide +kernel
theorem dX13_holds_2 : decode cX13_holds 2 = .ok (.putfield 55, 3) := by decide +kernel
theorem dX13_holds_5 : decode cX13_holds 5 = .ok (.aload_n 0, 1) := by decide +kernel
theorem dX13_holds_6 : decode cX13_holds 6 = .ok (.iload_n 1, 1) := by decide +kernel
theorem dX13_holds_7 : decode cX13_holds 7 = .ok (.iload_n 2, 1) := by decide +kernel
theorem dX13_holds_8 : decode cX13_holds 8 = .ok (.invokevirtual 98, 3) := by decide +kernel
theorem dX13_holds_11 : decode cX13_holds 11 = .ok (.ifCond .ne 9, 3) := by decide +kernel
theorem dX13_holds_14 : decode cX13_holds 14 = .ok (.aload_n 0, 1) := by decide +kernel
theorem dX13_holds_15 : decode cX13_holds 15 = .ok (.iconst 1, 1) := by decide +kernel
theorem dX13_holds_16 : decode cX13_holds 16 = .ok (.invokevirtual 73, 3) := by decide +kernel
theorem dX13_holds_19 : decode cX13_holds 19 = .ok (.ireturn, 1) := by decide +kernel
theorem dX13_join_0 : decode cX13_join 0 = .ok (.aload_n 0, 1) := by decide +kernel
theorem dX13_join_1 : decode cX13_join 1 = .ok (.iconst 0, 1) := by decide +kernel
theorem dX13_join_2 : decode cX13_join 2 = .ok (.putfield 55, 3) := by decide +kernel
theorem dX13_join_5 : decode cX13_join 5 = .ok (.aload_n 0, 1) := by decide +kernel
theorem dX13_join_6 : decode cX13_join 6 = .ok (.iconst 0, 1) := by decide +kernel
theorem dX13_join_7 : decode cX13_join 7 = .ok (.putfield 128, 3) := by decide +kernel
theorem dX13_join_10 : decode cX13_join 10 = .ok (.aload_n 0, 1) := by decide +kernel
theorem dX13_join_11 : decode cX13_join 11 = .ok (.iload_n 1, 1) := by decide +kernel
theorem dX13_join_12 : decode cX13_join 12 = .ok (.iload_n 2, 1) := by decide +kernel
theorem dX13_join_13 : decode cX13_join 13 = .ok (.invokevirtual 98, 3) := by decide +kernel
theorem dX13_join_16 : decode cX13_join 16 = .ok (.ifCond .eq 15, 3) := by decide +kernel
theorem dX13_join_31 : decode cX13_join 31 = .ok (.aload_n 0, 1) := by decide +kernel
theorem dX13_join_32 : decode cX13_join 32 = .ok (.iconst 1, 1) := by decide +kernel
theorem dX13_join_33 : decode cX13_join 33 = .ok (.invokevirtual 73, 3) := by decide +kernel
theorem dX13_join_36 : decode cX13_join 36 = .ok (.ireturn, 1) := by decide +kernel
theorem dX13_leave_0 : decode cX13_leave 0 = .ok (.aload_n 0, 1) := by decide +kernel
theorem dX13_leave_1 : decode cX13_leave 1 = .ok (.iconst 0, 1) := by decide +kernel
theorem dX13_leave_2 : decode cX13_leave 2 = .ok (.putfield 55, 3) := by decide +kernel
theorem dX13_leave_5 : decode cX13_leave 5 = .ok (.aload_n 0, 1) := by decide +kernel
theorem dX13_leave_6 : decode cX13_leave 6 = .ok (.iload_n 1, 1) := by decide +kernel
theorem dX13_leave_7 : decode cX13_leave 7 = .ok (.iload_n 2, 1) := by decide +kernel
theorem dX13_leave_8 : decode cX13_leave 8 = .ok (.invokevirtual 98, 3) := by decide +kernel
theorem dX13_leave_11 : decode cX13_leave 11 = .ok (.ifCond .ne 9, 3) := by decide +kernel
theorem dX13_leave_14 : decode cX13_leave 14 = .ok (.aload_n 0, 1) := by decide +kernel
theorem dX13_leave_15 : decode cX13_leave 15 = .ok (.iconst 1, 1) := by decide +kernel
theorem dX13_leave_16 : decode cX13_leave 16 = .ok (.invokevirtual 73, 3) := by decide +kernel
theorem dX13_leave_19 : decode cX13_leave 19 = .ok (.ireturn, 1) := by decide +kernel
theorem dX13_die_0 : decode cX13_die 0 = .ok (.aload_n 0, 1) := by decide +kernel
theorem dX13_die_1 : decode cX13_die 1 = .ok (.iconst 0, 1) := by decide +kernel
theorem dX13_die_2 : decode cX13_die 2 = .ok (.putfield 55, 3) := by decide +kernel
theorem dX13_die_5 : decode cX13_die 5 = .ok (.aload_n 0, 1) := by decide +kernel
theorem dX13_die_6 : decode cX13_die 6 = .ok (.iload_n 1, 1) := by decide +kernel
theorem dX13_die_7 : decode cX13_die 7 = .ok (.iload_n 2, 1) := by decide +kernel
theorem dX13_die_8 : decode cX13_die 8 = .ok (.invokevirtual 98, 3) := by decide +kernel
theorem dX13_die_11 : decode cX13_die 11 = .ok (.ifCond .eq 17, 3) := by decide +kernel
theorem dX13_die_28 : decode cX13_die 28 = .ok (.aload_n 0, 1) := by decide +kernel
theorem dX13_die_29 : decode cX13_die 29 = .ok (.iconst 1, 1) := by decide +kernel
theorem dX13_die_30 : decode cX13_die 30 = .ok (.invokevirtual 73, 3) := by decide +kernel
theorem dX13_die_33 : decode cX13_die 33 = .ok (.ireturn, 1) := by decide +kernel
theorem dX13_circle_0 : decode cX13_circle 0 = .ok (.aload_n 0, 1) := by decide +kernel
theorem dX13_circle_1 : decode cX13_circle 1 = .ok (.iconst 0, 1) := by decide +kernel
theorem dX13_circle_2 : decode cX13_circle 2 = .ok (.putfield 55, 3) := by decide +kernel
theorem dX13_circle_5 : decode cX13_circle 5 = .ok (.iload_n 1, 1) := by decide +kernel
theorem dX13_circle_6 : decode cX13_circle 6 = .ok (.ifCond .lt 20, 3) := by decide +kernel
theorem dX13_circle_9 : decode cX13_circle 9 = .ok (.iload_n 1, 1) := by decide +kernel
theorem dX13_circle_10 : decode cX13_circle 10 = .ok (.aload_n 0, 1) := by decide +kernel
theorem dX13_circle_11 : decode cX13_circle 11 = .ok (.getfield 128, 3) := by decide +kernel
theorem dX13_circle_14 : decode cX13_circle 14 = .ok (.if_icmp .ge 12, 3) := by decide +kernel
theorem dX13_circle_26 : decode cX13_circle 26 = .ok (.iconst (-1), 1) := by decide +kernel
theorem dX13_circle_27 : decode cX13_circle 27 = .ok (.ireturn, 1) := by decide +kernel
theorem dX13_rule_0 : decode cX13_rule 0 = .ok (.aload_n 0, 1) := by decide +kernel
theorem dX13_rule_1 : decode cX13_rule 1 = .ok (.iconst 0, 1) := by decide +kernel
theorem dX13_rule_2 : decode cX13_rule 2 = .ok (.putfield 55, 3) := by decide +kernel
theorem dX13_rule_5 : decode cX13_rule 5 = .ok (.aload_n 0, 1) := by decide +kernel
theorem dX13_rule_6 : decode cX13_rule 6 = .ok (.iload_n 1, 1) := by decide +kernel
theorem dX13_rule_7 : decode cX13_rule 7 = .ok (.invokevirtual 64, 3) := by decide +kernel
theorem dX13_rule_10 : decode cX13_rule 10 = .ok (.ifCond .ne 9, 3) := by decide +kernel
theorem dX13_rule_13 : decode cX13_rule 13 = .ok (.aload_n 0, 1) := by decide +kernel
theorem dX13_rule_14 : decode cX13_rule 14 = .ok (.iconst 1, 1) := by decide +kernel
theorem dX13_rule_15 : decode cX13_rule 15 = .ok (.invokevirtual 73, 3) := by decide +kernel
theorem dX13_rule_18 : decode cX13_rule 18 = .ok (.ireturn, 1) := by decide +kernel
theorem dX13_term_0 : decode cX13_term 0 = .ok (.aload_n 0, 1) := by decide +kernel
theorem dX13_term_1 : decode cX13_term 1 = .ok (.iconst 0, 1) := by decide +kernel
theorem dX13_term_2 : decode cX13_term 2 = .ok (.putfield 55, 3) := by decide +kernel
theorem dX13_term_5 : decode cX13_term 5 = .ok (.aload_n 0, 1) := by decide +kernel
theorem dX13_term_6 : decode cX13_term 6 = .ok (.iload_n 1, 1) := by decide +kernel
theorem dX13_term_7 : decode cX13_term 7 = .ok (.invokevirtual 64, 3) := by decide +kernel
theorem dX13_term_10 : decode cX13_term 10 = .ok (.ifCond .eq 30, 3) := by decide +kernel
theorem dX13_term_40 : decode cX13_term 40 = .ok (.aload_n 0, 1) := by decide +kernel
theorem dX13_term_41 : decode cX13_term 41 = .ok (.iconst 1, 1) := by decide +kernel
theorem dX13_term_42 : decode cX13_term 42 = .ok (.invokevirtual 73, 3) := by decide +kernel
theorem dX13_term_45 : decode cX13_term 45 = .ok (.ireturn, 1) := by decide +kernel
theorem dX13_leaf_0 : decode cX13_leaf 0 = .ok (.aload_n 0, 1) := by decide +kernel
theorem dX13_leaf_1 : decode cX13_leaf 1 = .ok (.iconst 0, 1) := by decide +kernel
theorem dX13_leaf_2 : decode cX13_leaf 2 = .ok (.putfield 55, 3) := by decide +kernel
theorem dX13_leaf_5 : decode cX13_leaf 5 = .ok (.aload_n 0, 1) := by decide +kernel
theorem dX13_leaf_6 : decode cX13_leaf 6 = .ok (.iload_n 1, 1) := by decide +kernel
theorem dX13_leaf_7 : decode cX13_leaf 7 = .ok (.invokevirtual 64, 3) := by decide +kernel
theorem dX13_leaf_10 : decode cX13_leaf 10 = .ok (.ifCond .ne 9, 3) := by decide +kernel
theorem dX13_leaf_13 : decode cX13_leaf 13 = .ok (.aload_n 0, 1) := by decide +kernel
theorem dX13_leaf_14 : decode cX13_leaf 14 = .ok (.iconst 1, 1) := by decide +kernel
theorem dX13_leaf_15 : decode cX13_leaf 15 = .ok (.invokevirtual 73, 3) := by decide +kernel
theorem dX13_leaf_18 : decode cX13_leaf 18 = .ok (.ireturn, 1) := by decide +kernel
theorem dX13_tear_0 : decode cX13_tear 0 = .ok (.aload_n 0, 1) := by decide +kernel
theorem dX13_tear_1 : decode cX13_tear 1 = .ok (.iconst 0, 1) := by decide +kernel
theorem dX13_tear_2 : decode cX13_tear 2 = .ok (.putfield 55, 3) := by decide +kernel
theorem dX13_tear_5 : decode cX13_tear 5 = .ok (.aload_n 0, 1) := by decide +kernel
theorem dX13_tear_6 : decode cX13_tear 6 = .ok (.iload_n 1, 1) := by decide +kernel
theorem dX13_tear_7 : decode cX13_tear 7 = .ok (.invokevirtual 64, 3) := by decide +kernel
theorem dX13_tear_10 : decode cX13_tear 10 = .ok (.ifCond .ne 9, 3) := by decide +kernel
theorem dX13_tear_13 : decode cX13_tear 13 = .ok (.aload_n 0, 1) := by decide +kernel
theorem dX13_tear_14 : decode cX13_tear 14 = .ok (.iconst 1, 1) := by decide +kernel
theorem dX13_tear_15 : decode cX13_tear 15 = .ok (.invokevirtual 73, 3) := by decide +kernel
theorem dX13_tear_18 : decode cX13_tear 18 = .ok (.ireturn, 1) := by decide +kernel
theorem dX13_enters_0 : decode cX13_enters 0 = .ok (.aload_n 0, 1) := by decide +kernel
theorem dX13_enters_1 : decode cX13_enters 1 = .ok (.iconst 0, 1) := by decide +kernel
theorem dX13_enters_2 : decode cX13_enters 2 = .ok (.putfield 55, 3) := by decide +kernel
theorem dX13_enters_5 : decode cX13_enters 5 = .ok (.aload_n 0, 1) := by decide +kernel
theorem dX13_enters_6 : decode cX13_enters 6 = .ok (.iload_n 1, 1) := by decide +kernel
theorem dX13_enters_7 : decode cX13_enters 7 = .ok (.invokevirtual 64, 3) := by decide +kernel
theorem dX13_enters_10 : decode cX13_enters 10 = .ok (.ifCond .ne 9, 3) := by decide +kernel
theorem dX13_enters_13 : decode cX13_enters 13 = .ok (.aload_n 0, 1) := by decide +kernel
theorem dX13_enters_14 : decode cX13_enters 14 = .ok (.iconst 1, 1) := by decide +kernel
theorem dX13_enters_15 : decode cX13_enters 15 = .ok (.invokevirtual 73, 3) := by decide +kernel
theorem dX13_enters_18 : decode cX13_enters 18 = .ok (.ireturn, 1) := by decide +kernel
theorem dX13_earn_0 : decode cX13_earn 0 = .ok (.aload_n 0, 1) := by decide +kernel
theorem dX13_earn_1 : decode cX13_earn 1 = .ok (.iload_n 1, 1) := by decide +kernel
theorem dX13_earn_2 : decode cX13_earn 2 = .ok (.iload_n 2, 1) := by decide +kernel
theorem dX13_earn_3 : decode cX13_earn 3 = .ok (.iload_n 3, 1) := by decide +kernel
theorem dX13_earn_4 : decode cX13_earn 4 = .ok (.iconst 1, 1) := by decide +kernel
theorem dX13_earn_5 : decode cX13_earn 5 = .ok (.invokevirtual 174, 3) := by decide +kernel
theorem dX13_earn_8 : decode cX13_earn 8 = .ok (.ireturn, 1) := by decide +kernel
theorem dX13_spend_0 : decode cX13_spend 0 = .ok (.aload_n 0, 1) := by decide +kernel
theorem dX13_spend_1 : decode cX13_spend 1 = .ok (.iload_n 1, 1) := by decide +kernel
theorem dX13_spend_2 : decode cX13_spend 2 = .ok (.iload_n 2, 1) := by decide +kernel
theorem dX13_spend_3 : decode cX13_spend 3 = .ok (.iload_n 3, 1) := by decide +kernel
theorem dX13_spend_4 : decode cX13_spend 4 = .ok (.iconst (-1), 1) := by decide +kernel
theorem dX13_spend_5 : decode cX13_spend 5 = .ok (.invokevirtual 174, 3) := by decide +kernel
theorem dX13_spend_8 : decode cX13_spend 8 = .ok (.ireturn, 1) := by decide +kernel
theorem dX13_loose_0 : decode cX13_loose 0 = .ok (.aload_n 0, 1) := by decide +kernel
theorem dX13_loose_1 : decode cX13_loose 1 = .ok (.iconst 0, 1) := by decide +kernel
theorem dX13_loose_2 : decode cX13_loose 2 = .ok (.putfield 55, 3) := by decide +kernel
theorem dX13_loose_5 : decode cX13_loose 5 = .ok (.aload_n 0, 1) := by decide +kernel
theorem dX13_loose_6 : decode cX13_loose 6 = .ok (.iload_n 1, 1) := by decide +kernel
theorem dX13_loose_7 : decode cX13_loose 7 = .ok (.invokevirtual 64, 3) := by decide +kernel
theorem dX13_loose_10 : decode cX13_loose 10 = .ok (.ifCond .ne 9, 3) := by decide +kernel
theorem dX13_loose_13 : decode cX13_loose 13 = .ok (.aload_n 0, 1) := by decide +kernel
theorem dX13_loose_14 : decode cX13_loose 14 = .ok (.iconst 1, 1) := by decide +kernel
theorem dX13_loose_15 : decode cX13_loose 15 = .ok (.invokevirtual 73, 3) := by decide +kernel
theorem dX13_loose_18 : decode cX13_loose 18 = .ok (.ireturn, 1) := by decide +kernel
theorem dX13_move_0 : decode cX13_move 0 = .ok (.aload_n 0, 1) := by decide +kernel
theorem dX13_move_1 : decode cX13_move 1 = .ok (.iconst 0, 1) := by decide +kernel
theorem dX13_move_2 : decode cX13_move 2 = .ok (.putfield 55, 3) := by decide +kernel
theorem dX13_move_5 : decode cX13_move 5 = .ok (.aload_n 0, 1) := by decide +kernel
theorem dX13_move_6 : decode cX13_move 6 = .ok (.iload_n 1, 1) := by decide +kernel
theorem dX13_move_7 : decode cX13_move 7 = .ok (.iload_n 2, 1) := by decide +kernel
theorem dX13_move_8 : decode cX13_move 8 = .ok (.invokevirtual 187, 3) := by decide +kernel
theorem dX13_move_11 : decode cX13_move 11 = .ok (.ifCond .ne 9, 3) := by decide +kernel
theorem dX13_move_14 : decode cX13_move 14 = .ok (.aload_n 0, 1) := by decide +kernel
theorem dX13_move_15 : decode cX13_move 15 = .ok (.iconst 1, 1) := by decide +kernel
theorem dX13_move_16 : decode cX13_move 16 = .ok (.invokevirtual 73, 3) := by decide +kernel
theorem dX13_move_19 : decode cX13_move 19 = .ok (.ireturn, 1) := by decide +kernel
theorem dX13_lend_0 : decode cX13_lend 0 = .ok (.aload_n 0, 1) := by decide +kernel
theorem dX13_lend_1 : decode cX13_lend 1 = .ok (.iconst 0, 1) := by decide +kernel
theorem dX13_lend_2 : decode cX13_lend 2 = .ok (.putfield 55, 3) := by decide +kernel
theorem dX13_lend_5 : decode cX13_lend 5 = .ok (.aload_n 0, 1) := by decide +kernel
theorem dX13_lend_6 : decode cX13_lend 6 = .ok (.iload_n 1, 1) := by decide +kernel
theorem dX13_lend_7 : decode cX13_lend 7 = .ok (.iload_n 2, 1) := by decide +kernel
theorem dX13_lend_8 : decode cX13_lend 8 = .ok (.invokevirtual 187, 3) := by decide +kernel
theorem dX13_lend_11 : decode cX13_lend 11 = .ok (.ifCond .ne 9, 3) := by decide +kernel
theorem dX13_lend_14 : decode cX13_lend 14 = .ok (.aload_n 0, 1) := by decide +kernel
theorem dX13_lend_15 : decode cX13_lend 15 = .ok (.iconst 1, 1) := by decide +kernel
theorem dX13_lend_16 : decode cX13_lend 16 = .ok (.invokevirtual 73, 3) := by decide +kernel
theorem dX13_lend_19 : decode cX13_lend 19 = .ok (.ireturn, 1) := by decide +kernel
theorem dX13_undo_0 : decode cX13_undo 0 = .ok (.aload_n 0, 1) := by decide +kernel
theorem dX13_undo_1 : decode cX13_undo 1 = .ok (.iconst 0, 1) := by decide +kernel
theorem dX13_undo_2 : decode cX13_undo 2 = .ok (.putfield 55, 3) := by decide +kernel
theorem dX13_undo_5 : decode cX13_undo 5 = .ok (.aload_n 0, 1) := by decide +kernel
theorem dX13_undo_6 : decode cX13_undo 6 = .ok (.iload_n 1, 1) := by decide +kernel
theorem dX13_undo_7 : decode cX13_undo 7 = .ok (.invokevirtual 64, 3) := by decide +kernel
theorem dX13_undo_10 : decode cX13_undo 10 = .ok (.ifCond .ne 9, 3) := by decide +kernel
theorem dX13_undo_13 : decode cX13_undo 13 = .ok (.aload_n 0, 1) := by decide +kernel
theorem dX13_undo_14 : decode cX13_undo 14 = .ok (.iconst 1, 1) := by decide +kernel
theorem dX13_undo_15 : decode cX13_undo 15 = .ok (.invokevirtual 73, 3) := by decide +kernel
theorem dX13_undo_18 : decode cX13_undo 18 = .ok (.ireturn, 1) := by decide +kernel
theorem dX13_end_0 : decode cX13_end 0 = .ok (.aload_n 0, 1) := by decide +kernel
theorem dX13_end_1 : decode cX13_end 1 = .ok (.iconst 0, 1) := by decide +kernel
theorem dX13_end_2 : decode cX13_end 2 = .ok (.putfield 55, 3) := by decide +kernel
theorem dX13_end_5 : decode cX13_end 5 = .ok (.aload_n 0, 1) := by decide +kernel
theorem dX13_end_6 : decode cX13_end 6 = .ok (.iload_n 1, 1) := by decide +kernel
theorem dX13_end_7 : decode cX13_end 7 = .ok (.invokevirtual 64, 3) := by decide +kernel
theorem dX13_end_10 : decode cX13_end 10 = .ok (.ifCond .ne 9, 3) := by decide +kernel
theorem dX13_end_13 : decode cX13_end 13 = .ok (.aload_n 0, 1) := by decide +kernel
theorem dX13_end_14 : decode cX13_end 14 = .ok (.iconst 1, 1) := by decide +kernel
theorem dX13_end_15 : decode cX13_end 15 = .ok (.invokevirtual 73, 3) := by decide +kernel
theorem dX13_end_18 : decode cX13_end 18 = .ok (.ireturn, 1) := by decide +kernel
theorem dX13_close_0 : decode cX13_close 0 = .ok (.aload_n 0, 1) := by decide +kernel
theorem dX13_close_1 : decode cX13_close 1 = .ok (.iconst 0, 1) := by decide +kernel
theorem dX13_close_2 : decode cX13_close 2 = .ok (.putfield 55, 3) := by decide +kernel
theorem dX13_close_5 : decode cX13_close 5 = .ok (.aload_n 0, 1) := by decide +kernel
theorem dX13_close_6 : decode cX13_close 6 = .ok (.iload_n 1, 1) := by decide +kernel
theorem dX13_close_7 : decode cX13_close 7 = .ok (.invokevirtual 64, 3) := by decide +kernel
theorem dX13_close_10 : decode cX13_close 10 = .ok (.ifCond .ne 9, 3) := by decide +kernel
theorem dX13_close_13 : decode cX13_close 13 = .ok (.aload_n 0, 1) := by decide +kernel
theorem dX13_close_14 : decode cX13_close 14 = .ok (.iconst 1, 1) := by decide +kernel
theorem dX13_close_15 : decode cX13_close 15 = .ok (.invokevirtual 73, 3) := by decide +kernel
theorem dX13_close_18 : decode cX13_close 18 = .ok (.ireturn, 1) := by decide +kernel
theorem dX13_mend_0 : decode cX13_mend 0 = .ok (.aload_n 0, 1) := by decide +kernel
theorem dX13_mend_1 : decode cX13_mend 1 = .ok (.iconst 0, 1) := by decide +kernel
theorem dX13_mend_2 : decode cX13_mend 2 = .ok (.putfield 55, 3) := by decide +kernel
theorem dX13_mend_5 : decode cX13_mend 5 = .ok (.aload_n 0, 1) := by decide +kernel
theorem dX13_mend_6 : decode cX13_mend 6 = .ok (.iload_n 1, 1) := by decide +kernel
theorem dX13_mend_7 : decode cX13_mend 7 = .ok (.invokevirtual 64, 3) := by decide +kernel
theorem dX13_mend_10 : decode cX13_mend 10 = .ok (.ifCond .ne 9, 3) := by decide +kernel
theorem dX13_mend_13 : decode cX13_mend 13 = .ok (.aload_n 0, 1) := by decide +kernel
theorem dX13_mend_14 : decode cX13_mend 14 = .ok (.iconst 1, 1) := by decide +kernel
theorem dX13_mend_15 : decode cX13_mend 15 = .ok (.invokevirtual 73, 3) := by decide +kernel
theorem dX13_mend_18 : decode cX13_mend 18 = .ok (.ireturn, 1) := by decide +kernel
theorem dX13_hidden_0 : decode cX13_hidden 0 = .ok (.aload_n 0, 1) := by decide +kernel
theorem dX13_hidden_1 : decode cX13_hidden 1 = .ok (.iconst 0, 1) := by decide +kernel
theorem dX13_hidden_2 : decode cX13_hidden 2 = .ok (.putfield 55, 3) := by decide +kernel
theorem dX13_hidden_5 : decode cX13_hidden 5 = .ok (.aload_n 0, 1) := by decide +kernel
theorem dX13_hidden_6 : decode cX13_hidden 6 = .ok (.iload_n 1, 1) := by decide +kernel
theorem dX13_hidden_7 : decode cX13_hidden 7 = .ok (.invokevirtual 64, 3) := by decide +kernel
theorem dX13_hidden_10 : decode cX13_hidden 10 = .ok (.ifCond .eq 15, 3) := by decide +kernel
theorem dX13_hidden_25 : decode cX13_hidden 25 = .ok (.aload_n 0, 1) := by decide +kernel
theorem dX13_hidden_26 : decode cX13_hidden 26 = .ok (.iconst 1, 1) := by decide +kernel
theorem dX13_hidden_27 : decode cX13_hidden 27 = .ok (.invokevirtual 73, 3) := by decide +kernel
theorem dX13_hidden_30 : decode cX13_hidden 30 = .ok (.ireturn, 1) := by decide +kernel
theorem dX13_bear_0 : decode cX13_bear 0 = .ok (.aload_n 0, 1) := by decide +kernel
theorem dX13_bear_1 : decode cX13_bear 1 = .ok (.iconst 0, 1) := by decide +kernel
theorem dX13_bear_2 : decode cX13_bear 2 = .ok (.putfield 55, 3) := by decide +kernel
theorem dX13_bear_5 : decode cX13_bear 5 = .ok (.aload_n 0, 1) := by decide +kernel
theorem dX13_bear_6 : decode cX13_bear 6 = .ok (.iload_n 1, 1) := by decide +kernel
theorem dX13_bear_7 : decode cX13_bear 7 = .ok (.invokevirtual 64, 3) := by decide +kernel
theorem dX13_bear_10 : decode cX13_bear 10 = .ok (.ifCond .eq 15, 3) := by decide +kernel
theorem dX13_bear_25 : decode cX13_bear 25 = .ok (.aload_n 0, 1) := by decide +kernel
theorem dX13_bear_26 : decode cX13_bear 26 = .ok (.iconst 1, 1) := by decide +kernel
theorem dX13_bear_27 : decode cX13_bear 27 = .ok (.invokevirtual 73, 3) := by decide +kernel
theorem dX13_bear_30 : decode cX13_bear 30 = .ok (.ireturn, 1) := by decide +kernel
theorem dX13_borne_0 : decode cX13_borne 0 = .ok (.aload_n 0, 1) := by decide +kernel
theorem dX13_borne_1 : decode cX13_borne 1 = .ok (.iconst 0, 1) := by decide +kernel
theorem dX13_borne_2 : decode cX13_borne 2 = .ok (.putfield 55, 3) := by decide +kernel
theorem dX13_borne_5 : decode cX13_borne 5 = .ok (.iload_n 1, 1) := by decide +kernel
theorem dX13_borne_6 : decode cX13_borne 6 = .ok (.iconst (-1), 1) := by decide +kernel
theorem dX13_borne_7 : decode cX13_borne 7 = .ok (.if_icmp .ne 10, 3) := by decide +kernel
theorem dX13_borne_10 : decode cX13_borne 10 = .ok (.aload_n 0, 1) := by decide +kernel
theorem dX13_borne_11 : decode cX13_borne 11 = .ok (.getfield 382, 3) := by decide +kernel
theorem dX13_borne_14 : decode cX13_borne 14 = .ok (.goto 23, 3) := by decide +kernel
theorem dX13_borne_17 : decode cX13_borne 17 = .ok (.iload_n 1, 1) := by decide +kernel
theorem dX13_borne_18 : decode cX13_borne 18 = .ok (.ifCond .lt 18, 3) := by decide +kernel
theorem dX13_borne_21 : decode cX13_borne 21 = .ok (.iload_n 1, 1) := by decide +kernel
theorem dX13_borne_22 : decode cX13_borne 22 = .ok (.bipush 24, 2) := by decide +kernel
theorem dX13_borne_24 : decode cX13_borne 24 = .ok (.if_icmp .ge 12, 3) := by decide +kernel
theorem dX13_borne_27 : decode cX13_borne 27 = .ok (.aload_n 0, 1) := by decide +kernel
theorem dX13_borne_28 : decode cX13_borne 28 = .ok (.getfield 49, 3) := by decide +kernel
theorem dX13_borne_31 : decode cX13_borne 31 = .ok (.iload_n 1, 1) := by decide +kernel
theorem dX13_borne_32 : decode cX13_borne 32 = .ok (.iaload, 1) := by decide +kernel
theorem dX13_borne_33 : decode cX13_borne 33 = .ok (.goto 4, 3) := by decide +kernel
theorem dX13_borne_36 : decode cX13_borne 36 = .ok (.iconst 0, 1) := by decide +kernel
theorem dX13_borne_37 : decode cX13_borne 37 = .ok (.ireturn, 1) := by decide +kernel
theorem dX13_account_0 : decode cX13_account 0 = .ok (.aload_n 0, 1) := by decide +kernel
theorem dX13_account_1 : decode cX13_account 1 = .ok (.iconst 0, 1) := by decide +kernel
theorem dX13_account_2 : decode cX13_account 2 = .ok (.putfield 55, 3) := by decide +kernel
theorem dX13_account_5 : decode cX13_account 5 = .ok (.aload_n 0, 1) := by decide +kernel
theorem dX13_account_6 : decode cX13_account 6 = .ok (.iload_n 1, 1) := by decide +kernel
theorem dX13_account_7 : decode cX13_account 7 = .ok (.iload_n 2, 1) := by decide +kernel
theorem dX13_account_8 : decode cX13_account 8 = .ok (.invokevirtual 187, 3) := by decide +kernel
theorem dX13_account_11 : decode cX13_account 11 = .ok (.ifCond .ne 5, 3) := by decide +kernel
theorem dX13_account_14 : decode cX13_account 14 = .ok (.lconst 0, 1) := by decide +kernel
theorem dX13_account_15 : decode cX13_account 15 = .ok (.lreturn, 1) := by decide +kernel
theorem dX13_tenure_0 : decode cX13_tenure 0 = .ok (.aload_n 0, 1) := by decide +kernel
theorem dX13_tenure_1 : decode cX13_tenure 1 = .ok (.iconst 0, 1) := by decide +kernel
theorem dX13_tenure_2 : decode cX13_tenure 2 = .ok (.putfield 55, 3) := by decide +kernel
theorem dX13_tenure_5 : decode cX13_tenure 5 = .ok (.aload_n 0, 1) := by decide +kernel
theorem dX13_tenure_6 : decode cX13_tenure 6 = .ok (.iload_n 1, 1) := by decide +kernel
theorem dX13_tenure_7 : decode cX13_tenure 7 = .ok (.iload_n 2, 1) := by decide +kernel
theorem dX13_tenure_8 : decode cX13_tenure 8 = .ok (.invokevirtual 187, 3) := by decide +kernel
theorem dX13_tenure_11 : decode cX13_tenure 11 = .ok (.ifCond .ne 5, 3) := by decide +kernel
theorem dX13_tenure_14 : decode cX13_tenure 14 = .ok (.iconst (-1), 1) := by decide +kernel
theorem dX13_tenure_15 : decode cX13_tenure 15 = .ok (.ireturn, 1) := by decide +kernel
theorem dX13_who_0 : decode cX13_who 0 = .ok (.aload_n 0, 1) := by decide +kernel
theorem dX13_who_1 : decode cX13_who 1 = .ok (.iconst 0, 1) := by decide +kernel
theorem dX13_who_2 : decode cX13_who 2 = .ok (.putfield 55, 3) := by decide +kernel
theorem dX13_who_5 : decode cX13_who 5 = .ok (.aload_n 0, 1) := by decide +kernel
theorem dX13_who_6 : decode cX13_who 6 = .ok (.iload_n 1, 1) := by decide +kernel
theorem dX13_who_7 : decode cX13_who 7 = .ok (.iload_n 2, 1) := by decide +kernel
theorem dX13_who_8 : decode cX13_who 8 = .ok (.invokevirtual 98, 3) := by decide +kernel
theorem dX13_who_11 : decode cX13_who 11 = .ok (.ifCond .ne 5, 3) := by decide +kernel
theorem dX13_who_14 : decode cX13_who 14 = .ok (.iconst (-1), 1) := by decide +kernel
theorem dX13_who_15 : decode cX13_who 15 = .ok (.ireturn, 1) := by decide +kernel
theorem dX13_stretch__0 : decode cX13_stretch_ 0 = .ok (.aload_n 0, 1) := by decide +kernel
theorem dX13_stretch__1 : decode cX13_stretch_ 1 = .ok (.iconst 0, 1) := by decide +kernel
theorem dX13_stretch__2 : decode cX13_stretch_ 2 = .ok (.putfield 55, 3) := by decide +kernel
theorem dX13_stretch__5 : decode cX13_stretch_ 5 = .ok (.aload_n 0, 1) := by decide +kernel
theorem dX13_stretch__6 : decode cX13_stretch_ 6 = .ok (.iload_n 1, 1) := by decide +kernel
theorem dX13_stretch__7 : decode cX13_stretch_ 7 = .ok (.invokevirtual 64, 3) := by decide +kernel
theorem dX13_stretch__10 : decode cX13_stretch_ 10 = .ok (.ifCond .eq 20, 3) := by decide +kernel
theorem dX13_stretch__30 : decode cX13_stretch_ 30 = .ok (.lconst 0, 1) := by decide +kernel
theorem dX13_stretch__31 : decode cX13_stretch_ 31 = .ok (.lreturn, 1) := by decide +kernel
theorem dX13_due_0 : decode cX13_due 0 = .ok (.aload_n 0, 1) := by decide +kernel
theorem dX13_due_1 : decode cX13_due 1 = .ok (.iconst 0, 1) := by decide +kernel
theorem dX13_due_2 : decode cX13_due 2 = .ok (.putfield 55, 3) := by decide +kernel
theorem dX13_due_5 : decode cX13_due 5 = .ok (.aload_n 0, 1) := by decide +kernel
theorem dX13_due_6 : decode cX13_due 6 = .ok (.iload_n 1, 1) := by decide +kernel
theorem dX13_due_7 : decode cX13_due 7 = .ok (.iload_n 3, 1) := by decide +kernel
theorem dX13_due_8 : decode cX13_due 8 = .ok (.invokevirtual 187, 3) := by decide +kernel
theorem dX13_due_11 : decode cX13_due 11 = .ok (.ifCond .eq 39, 3) := by decide +kernel
theorem dX13_due_50 : decode cX13_due 50 = .ok (.lconst 0, 1) := by decide +kernel
theorem dX13_due_51 : decode cX13_due 51 = .ok (.lreturn, 1) := by decide +kernel
theorem dX13_told_0 : decode cX13_told 0 = .ok (.aload_n 0, 1) := by decide +kernel
theorem dX13_told_1 : decode cX13_told 1 = .ok (.iconst 0, 1) := by decide +kernel
theorem dX13_told_2 : decode cX13_told 2 = .ok (.putfield 55, 3) := by decide +kernel
theorem dX13_told_5 : decode cX13_told 5 = .ok (.aload_n 0, 1) := by decide +kernel
theorem dX13_told_6 : decode cX13_told 6 = .ok (.iload_n 1, 1) := by decide +kernel
theorem dX13_told_7 : decode cX13_told 7 = .ok (.invokevirtual 64, 3) := by decide +kernel
theorem dX13_told_10 : decode cX13_told 10 = .ok (.ifCond .ne 5, 3) := by decide +kernel
theorem dX13_told_13 : decode cX13_told 13 = .ok (.iconst (-1), 1) := by decide +kernel
theorem dX13_told_14 : decode cX13_told 14 = .ok (.ireturn, 1) := by decide +kernel
theorem dX13_sum_0 : decode cX13_sum 0 = .ok (.aload_n 0, 1) := by decide +kernel
theorem dX13_sum_1 : decode cX13_sum 1 = .ok (.iconst 0, 1) := by decide +kernel
theorem dX13_sum_2 : decode cX13_sum 2 = .ok (.putfield 55, 3) := by decide +kernel
theorem dX13_sum_5 : decode cX13_sum 5 = .ok (.aload_n 0, 1) := by decide +kernel
theorem dX13_sum_6 : decode cX13_sum 6 = .ok (.iload_n 1, 1) := by decide +kernel
theorem dX13_sum_7 : decode cX13_sum 7 = .ok (.invokevirtual 64, 3) := by decide +kernel
theorem dX13_sum_10 : decode cX13_sum 10 = .ok (.ifCond .ne 5, 3) := by decide +kernel
theorem dX13_sum_13 : decode cX13_sum 13 = .ok (.lconst 0, 1) := by decide +kernel
theorem dX13_sum_14 : decode cX13_sum 14 = .ok (.lreturn, 1) := by decide +kernel
theorem dX13_entry_0 : decode cX13_entry 0 = .ok (.aload_n 0, 1) := by decide +kernel
theorem dX13_entry_1 : decode cX13_entry 1 = .ok (.iconst 0, 1) := by decide +kernel
theorem dX13_entry_2 : decode cX13_entry 2 = .ok (.putfield 55, 3) := by decide +kernel
theorem dX13_entry_5 : decode cX13_entry 5 = .ok (.aload_n 0, 1) := by decide +kernel
theorem dX13_entry_6 : decode cX13_entry 6 = .ok (.iload_n 1, 1) := by decide +kernel
theorem dX13_entry_7 : decode cX13_entry 7 = .ok (.invokevirtual 64, 3) := by decide +kernel
theorem dX13_entry_10 : decode cX13_entry 10 = .ok (.ifCond .eq 52, 3) := by decide +kernel
theorem dX13_entry_62 : decode cX13_entry 62 = .ok (.lconst 0, 1) := by decide +kernel
theorem dX13_entry_63 : decode cX13_entry 63 = .ok (.lreturn, 1) := by decide +kernel
theorem dX13_sheet_0 : decode cX13_sheet 0 = .ok (.aload_n 0, 1) := by decide +kernel
theorem dX13_sheet_1 : decode cX13_sheet 1 = .ok (.iconst 0, 1) := by decide +kernel
theorem dX13_sheet_2 : decode cX13_sheet 2 = .ok (.putfield 55, 3) := by decide +kernel
theorem dX13_sheet_5 : decode cX13_sheet 5 = .ok (.iload_n 1, 1) := by decide +kernel
theorem dX13_sheet_6 : decode cX13_sheet 6 = .ok (.ifCond .lt 9, 3) := by decide +kernel
theorem dX13_sheet_9 : decode cX13_sheet 9 = .ok (.iload_n 1, 1) := by decide +kernel
theorem dX13_sheet_10 : decode cX13_sheet 10 = .ok (.bipush 24, 2) := by decide +kernel
theorem dX13_sheet_12 : decode cX13_sheet 12 = .ok (.if_icmp .le 9, 3) := by decide +kernel
theorem dX13_sheet_15 : decode cX13_sheet 15 = .ok (.aload_n 0, 1) := by decide +kernel
theorem dX13_sheet_16 : decode cX13_sheet 16 = .ok (.iconst 2, 1) := by decide +kernel
theorem dX13_sheet_17 : decode cX13_sheet 17 = .ok (.invokevirtual 73, 3) := by decide +kernel
theorem dX13_sheet_20 : decode cX13_sheet 20 = .ok (.ireturn, 1) := by decide +kernel
theorem dX13_sheet_21 : decode cX13_sheet 21 = .ok (.aload_n 0, 1) := by decide +kernel
theorem dX13_sheet_22 : decode cX13_sheet 22 = .ok (.getfield 52, 3) := by decide +kernel
theorem dX13_sheet_25 : decode cX13_sheet 25 = .ok (.iload_n 1, 1) := by decide +kernel
theorem dX13_sheet_26 : decode cX13_sheet 26 = .ok (.lload_n 2, 1) := by decide +kernel
theorem dX13_sheet_27 : decode cX13_sheet 27 = .ok (.lastore, 1) := by decide +kernel
theorem dX13_sheet_28 : decode cX13_sheet 28 = .ok (.aload_n 0, 1) := by decide +kernel
theorem dX13_sheet_29 : decode cX13_sheet 29 = .ok (.iconst 1, 1) := by decide +kernel
theorem dX13_sheet_30 : decode cX13_sheet 30 = .ok (.invokevirtual 86, 3) := by decide +kernel
theorem dX13_sheet_33 : decode cX13_sheet 33 = .ok (.ireturn, 1) := by decide +kernel
theorem dX13_check_0 : decode cX13_check 0 = .ok (.aload_n 0, 1) := by decide +kernel
theorem dX13_check_1 : decode cX13_check 1 = .ok (.iconst 0, 1) := by decide +kernel
theorem dX13_check_2 : decode cX13_check 2 = .ok (.putfield 55, 3) := by decide +kernel
theorem dX13_check_5 : decode cX13_check 5 = .ok (.aload_n 0, 1) := by decide +kernel
theorem dX13_check_6 : decode cX13_check 6 = .ok (.iload_n 1, 1) := by decide +kernel
theorem dX13_check_7 : decode cX13_check 7 = .ok (.invokevirtual 64, 3) := by decide +kernel
theorem dX13_check_10 : decode cX13_check 10 = .ok (.ifCond .eq 15, 3) := by decide +kernel
theorem dX13_check_25 : decode cX13_check 25 = .ok (.aload_n 0, 1) := by decide +kernel
theorem dX13_check_26 : decode cX13_check 26 = .ok (.iconst 1, 1) := by decide +kernel
theorem dX13_check_27 : decode cX13_check 27 = .ok (.invokevirtual 73, 3) := by decide +kernel
theorem dX13_check_30 : decode cX13_check 30 = .ok (.ireturn, 1) := by decide +kernel
theorem dX13_status_0 : decode cX13_status 0 = .ok (.aload_n 0, 1) := by decide +kernel
theorem dX13_status_1 : decode cX13_status 1 = .ok (.iconst 0, 1) := by decide +kernel
theorem dX13_status_2 : decode cX13_status 2 = .ok (.putfield 55, 3) := by decide +kernel
theorem dX13_status_5 : decode cX13_status 5 = .ok (.aload_n 0, 1) := by decide +kernel
theorem dX13_status_6 : decode cX13_status 6 = .ok (.getfield 58, 3) := by decide +kernel
theorem dX13_status_9 : decode cX13_status 9 = .ok (.ireturn, 1) := by decide +kernel
theorem dX13_where_0 : decode cX13_where 0 = .ok (.aload_n 0, 1) := by decide +kernel
theorem dX13_where_1 : decode cX13_where 1 = .ok (.iconst 0, 1) := by decide +kernel
theorem dX13_where_2 : decode cX13_where 2 = .ok (.putfield 55, 3) := by decide +kernel
theorem dX13_where_5 : decode cX13_where 5 = .ok (.aload_n 0, 1) := by decide +kernel
theorem dX13_where_6 : decode cX13_where 6 = .ok (.getfield 16, 3) := by decide +kernel
theorem dX13_where_9 : decode cX13_where 9 = .ok (.ireturn, 1) := by decide +kernel
set_option maxHeartbeats 4000000 in
set_option maxRecDepth 100000 in
theorem m_refused (l : Launch) (D : va_G) (sz : Nat) (za : Nat) (z0 : Int32) (z1 : Nat) (z2 : Int32) (z3 : Int32) (z4 : Int32) (z5 : Int32) (z6 : Nat) (z7 : Nat) (z8 : Nat) (z9 : Nat) (z10 : Int32) (z11 : Nat) (z12 : Nat) (z13 : Nat) (z14 : Nat) (z15 : Nat) (z16 : Int32) (z17 : Nat) (z18 : Int32) (z19 : Nat) (k1 : Int32) : Met l yX13_refused (wsM yX13_refused cX13_refused 2 (some .int)) ({ frames := 0, cells := 0, slots := 0, locals := 0 }) (va_Pc [.ref za, .int k1] (Pr D [(za, .inr (13, [.int z0, .ref z1, .int z2, .int z3, .int z4, .int z5, .ref z6, .ref z7, .ref z8, .ref z9, .int z10, .ref z11, .ref z12, .ref z13, .ref z14, .ref z15, .int z16, .ref z17, .int z18, .ref z19]))] [] sz)) (va_Qi (fun (r : Int32) (_ : Unit) => r = (-1)) (fun _ t => Po D [(za, .inr (13, [.int z0, .ref z1, .int z2, .int z3, .int k1, .int (-1), .ref z6, .ref z7, .ref z8, .ref z9, .int z10, .ref z11, .ref z12, .ref z13, .ref z14, .ref z15, .int z16, .ref z17, .int z18, .ref z19]))] [] (va_A [(za, .inr (13, [.int z0, .ref z1, .int z2, .int z3, .int z4, .int z5, .ref z6, .ref z7, .ref z8, .ref z9, .int z10, .ref z11, .ref z12, .ref z13, .ref z14, .ref z15, .int z16, .ref z17, .int z18, .ref z19]))] sz) t) (va_A [(za, .inr (13, [.int z0, .ref z1, .int z2, .int z3, .int z4, .int z5, .ref z6, .ref z7, .ref z8, .ref z9, .int z10, .ref z11, .ref z12, .ref z13, .ref z14, .ref z15, .int z16, .ref z17, .int z18, .ref z19]))] sz)) 0 0 (va_A [(za, .inr (13, [.int z0, .ref z1, .int z2, .int z3, .int z4, .int z5, .ref z6, .ref z7, .ref z8, .ref z9, .int z10, .ref z11, .ref z12, .ref z13, .ref z14, .ref z15, .int z16, .ref z17, .int z18, .ref z19]))] sz) := by
  refine Met.ofW (cc := cX13_refused) (maxL := 2) (ret := (some .int)) (by decide) rfl ?_
  intro p e s m args below meth c s₁ B hml hv
  obtain ⟨rfl, hsz, hP, hK, hD0, hN⟩ := hv
  have hx := B.exec
  have hb := B.bytes
  have hr := B.returns
  have hts := atoms_spec (ws := (wsM yX13_refused cX13_refused 2 (some .int))) B.pre
  have hg : ∀ w ∈ lw_good, w.before _ s = true := fun w h => hts w (List.mem_cons_of_mem _ h)
  have hown : s.vm.findClass RX13 = some m.cls := findClass_of_methodNamed B.named
  have hlocks := B.notSynchronized
  subst hsz
  have hD := hD0.self (sz := s.heap.size)
  generalize hAe : va_A [(za, .inr (13, [.int z0, .ref z1, .int z2, .int z3, .int z4, .int z5, .ref z6, .ref z7, .ref z8, .ref z9, .int z10, .ref z11, .ref z12, .ref z13, .ref z14, .ref z15, .int z16, .ref z17, .int z18, .ref z19]))] s.heap.size = A at hD ⊢
  have hA : ∀ q : Nat, s.heap.size ≤ q → A q := fun q h => by rw [← hAe]; exact Or.inr h
  have hS : va_S A s.heap s.heap [] := va_S.rf
  have hP : va_P D vwCl [(za, .inr (13, [.int z0, .ref z1, .int z2, .int z3, .int z4, .int z5, .ref z6, .ref z7, .ref z8, .ref z9, .int z10, .ref z11, .ref z12, .ref z13, .ref z14, .ref z15, .int z16, .ref z17, .int z18, .ref z19]))] s.heap := hP
  have hl := lv_entry ([.ref za, .int k1]) (n := 2) (Nat.le_of_ble_eq_true rfl)
  rw [lg_entry_eq]
  generalize (lg_sl ([.ref za, .int k1]) ++ List.replicate (2 - (lg_sl ([.ref za, .int k1])).length) Slot.unset).toArray = ls at hl ⊢
  have hl : lv_has ls 2 [(0, .ref za), (1, .int k1)] := hl
  refine lv_aload_n hx hb dX13_refused_0 rfl (lv_at hl 0 rfl) ?_
  refine lv_iload_n hx hb dX13_refused_1 rfl (lv_at hl 1 rfl) ?_
  refine va_put (D := D) (ci := 13) (v := .int k1) (ty := .int) (C := RX13) (T := TX13) (N := 20) hx hb hg inG13 tyX13 tyX13_ok nmX13 hown hK hP hD hS 0 rfl rfl 4 (by decide) (hg _ wd_141) (fun _ h9 => h9) rfl (by decide +kernel) rfl rfl (Nat.le_of_ble_eq_true rfl) dX13_refused_2 (fun H_1 locs hP hD hS => ?_)
  have hP : va_P D vwCl [(za, .inr (13, [.int z0, .ref z1, .int z2, .int z3, .int k1, .int z5, .ref z6, .ref z7, .ref z8, .ref z9, .int z10, .ref z11, .ref z12, .ref z13, .ref z14, .ref z15, .int z16, .ref z17, .int z18, .ref z19]))] H_1 := hP
  have hD : va_D A [(za, .inr (13, [.int z0, .ref z1, .int z2, .int z3, .int k1, .int z5, .ref z6, .ref z7, .ref z8, .ref z9, .int z10, .ref z11, .ref z12, .ref z13, .ref z14, .ref z15, .int z16, .ref z17, .int z18, .ref z19]))] := hD
  refine lv_aload_n hx hb dX13_refused_5 rfl (lv_at hl 0 rfl) ?_
  refine lv_iconst (v := (-1)) hx hb dX13_refused_6 (by decide) ?_
  refine va_put (D := D) (ci := 13) (v := .int (-1)) (ty := .int) (C := RX13) (T := TX13) (N := 20) hx hb hg inG13 tyX13 tyX13_ok nmX13 hown hK hP hD hS 0 rfl rfl 5 (by decide) (hg _ wd_142) (fun _ h9 => h9) rfl (by decide +kernel) rfl rfl (Nat.le_of_ble_eq_true rfl) dX13_refused_7 (fun H_2 locs hP hD hS => ?_)
  have hP : va_P D vwCl [(za, .inr (13, [.int z0, .ref z1, .int z2, .int z3, .int k1, .int (-1), .ref z6, .ref z7, .ref z8, .ref z9, .int z10, .ref z11, .ref z12, .ref z13, .ref z14, .ref z15, .int z16, .ref z17, .int z18, .ref z19]))] H_2 := hP
  have hD : va_D A [(za, .inr (13, [.int z0, .ref z1, .int z2, .int z3, .int k1, .int (-1), .ref z6, .ref z7, .ref z8, .ref z9, .int z10, .ref z11, .ref z12, .ref z13, .ref z14, .ref z15, .int z16, .ref z17, .int z18, .ref z19]))] := hD
  refine lv_iconst (v := (-1)) hx hb dX13_refused_10 (by decide) ?_
  have hP9 := hP.sub (ws' := [(za, .inr (13, [.int z0, .ref z1, .int z2, .int z3, .int k1, .int (-1), .ref z6, .ref z7, .ref z8, .ref z9, .int z10, .ref z11, .ref z12, .ref z13, .ref z14, .ref z15, .int z16, .ref z17, .int z18, .ref z19]))]) [0] rfl
  have hD9 := hD.sub (ws' := [(za, .inr (13, [.int z0, .ref z1, .int z2, .int z3, .int k1, .int (-1), .ref z6, .ref z7, .ref z8, .ref z9, .int z10, .ref z11, .ref z12, .ref z13, .ref z14, .ref z15, .int z16, .ref z17, .int z18, .ref z19]))]) [0] (by decide) rfl
  have hK9 := hK.sub (tys' := []) [] rfl
  exact W.iret (v := (-1)) hx hb hr (fun t ht hW => ⟨⟨(-1), (), rfl, rfl, ⟨by rw [ht]; exact hP9, va_K.moved hW.alike hK9, hD9⟩⟩, hS.F ht⟩) hS.2.2 dX13_refused_11
set_option maxHeartbeats 4000000 in
set_option maxRecDepth 100000 in
theorem m_done (l : Launch) (D : va_G) (sz : Nat) (za : Nat) (z0 : Int32) (z1 : Nat) (z2 : Int32) (z3 : Int32) (z4 : Int32) (z5 : Int32) (z6 : Nat) (z7 : Nat) (z8 : Nat) (z9 : Nat) (z10 : Int32) (z11 : Nat) (z12 : Nat) (z13 : Nat) (z14 : Nat) (z15 : Nat) (z16 : Int32) (z17 : Nat) (z18 : Int32) (z19 : Nat) (k1 : Int32) : Met l yX13_done (wsM yX13_done cX13_done 2 (some .int)) ({ frames := 0, cells := 0, slots := 0, locals := 0 }) (va_Pc [.ref za, .int k1] (Pr D [(za, .inr (13, [.int z0, .ref z1, .int z2, .int z3, .int z4, .int z5, .ref z6, .ref z7, .ref z8, .ref z9, .int z10, .ref z11, .ref z12, .ref z13, .ref z14, .ref z15, .int z16, .ref z17, .int z18, .ref z19]))] [] sz)) (va_Qi (fun (r : Int32) (_ : Unit) => r = k1) (fun _ t => Po D [(za, .inr (13, [.int z0, .ref z1, .int z2, .int z3, .int 0, .int (-1), .ref z6, .ref z7, .ref z8, .ref z9, .int z10, .ref z11, .ref z12, .ref z13, .ref z14, .ref z15, .int z16, .ref z17, .int z18, .ref z19]))] [] (va_A [(za, .inr (13, [.int z0, .ref z1, .int z2, .int z3, .int z4, .int z5, .ref z6, .ref z7, .ref z8, .ref z9, .int z10, .ref z11, .ref z12, .ref z13, .ref z14, .ref z15, .int z16, .ref z17, .int z18, .ref z19]))] sz) t) (va_A [(za, .inr (13, [.int z0, .ref z1, .int z2, .int z3, .int z4, .int z5, .ref z6, .ref z7, .ref z8, .ref z9, .int z10, .ref z11, .ref z12, .ref z13, .ref z14, .ref z15, .int z16, .ref z17, .int z18, .ref z19]))] sz)) 0 0 (va_A [(za, .inr (13, [.int z0, .ref z1, .int z2, .int z3, .int z4, .int z5, .ref z6, .ref z7, .ref z8, .ref z9, .int z10, .ref z11, .ref z12, .ref z13, .ref z14, .ref z15, .int z16, .ref z17, .int z18, .ref z19]))] sz) := by
  refine Met.ofW (cc := cX13_done) (maxL := 2) (ret := (some .int)) (by decide) rfl ?_
  intro p e s m args below meth c s₁ B hml hv
  obtain ⟨rfl, hsz, hP, hK, hD0, hN⟩ := hv
  have hx := B.exec
  have hb := B.bytes
  have hr := B.returns
  have hts := atoms_spec (ws := (wsM yX13_done cX13_done 2 (some .int))) B.pre
  have hg : ∀ w ∈ lw_good, w.before _ s = true := fun w h => hts w (List.mem_cons_of_mem _ h)
  have hown : s.vm.findClass RX13 = some m.cls := findClass_of_methodNamed B.named
  have hlocks := B.notSynchronized
  subst hsz
  have hD := hD0.self (sz := s.heap.size)
  generalize hAe : va_A [(za, .inr (13, [.int z0, .ref z1, .int z2, .int z3, .int z4, .int z5, .ref z6, .ref z7, .ref z8, .ref z9, .int z10, .ref z11, .ref z12, .ref z13, .ref z14, .ref z15, .int z16, .ref z17, .int z18, .ref z19]))] s.heap.size = A at hD ⊢
  have hA : ∀ q : Nat, s.heap.size ≤ q → A q := fun q h => by rw [← hAe]; exact Or.inr h
  have hS : va_S A s.heap s.heap [] := va_S.rf
  have hP : va_P D vwCl [(za, .inr (13, [.int z0, .ref z1, .int z2, .int z3, .int z4, .int z5, .ref z6, .ref z7, .ref z8, .ref z9, .int z10, .ref z11, .ref z12, .ref z13, .ref z14, .ref z15, .int z16, .ref z17, .int z18, .ref z19]))] s.heap := hP
  have hl := lv_entry ([.ref za, .int k1]) (n := 2) (Nat.le_of_ble_eq_true rfl)
  rw [lg_entry_eq]
  generalize (lg_sl ([.ref za, .int k1]) ++ List.replicate (2 - (lg_sl ([.ref za, .int k1])).length) Slot.unset).toArray = ls at hl ⊢
  have hl : lv_has ls 2 [(0, .ref za), (1, .int k1)] := hl
  refine lv_aload_n hx hb dX13_done_0 rfl (lv_at hl 0 rfl) ?_
  refine lv_iconst (v := 0) hx hb dX13_done_1 (by decide) ?_
  refine va_put (D := D) (ci := 13) (v := .int 0) (ty := .int) (C := RX13) (T := TX13) (N := 20) hx hb hg inG13 tyX13 tyX13_ok nmX13 hown hK hP hD hS 0 rfl rfl 4 (by decide) (hg _ wd_141) (fun _ h9 => h9) rfl (by decide +kernel) rfl rfl (Nat.le_of_ble_eq_true rfl) dX13_done_2 (fun H_1 locs hP hD hS => ?_)
  have hP : va_P D vwCl [(za, .inr (13, [.int z0, .ref z1, .int z2, .int z3, .int 0, .int z5, .ref z6, .ref z7, .ref z8, .ref z9, .int z10, .ref z11, .ref z12, .ref z13, .ref z14, .ref z15, .int z16, .ref z17, .int z18, .ref z19]))] H_1 := hP
  have hD : va_D A [(za, .inr (13, [.int z0, .ref z1, .int z2, .int z3, .int 0, .int z5, .ref z6, .ref z7, .ref z8, .ref z9, .int z10, .ref z11, .ref z12, .ref z13, .ref z14, .ref z15, .int z16, .ref z17, .int z18, .ref z19]))] := hD
  refine lv_aload_n hx hb dX13_done_5 rfl (lv_at hl 0 rfl) ?_
  refine lv_iconst (v := (-1)) hx hb dX13_done_6 (by decide) ?_
  refine va_put (D := D) (ci := 13) (v := .int (-1)) (ty := .int) (C := RX13) (T := TX13) (N := 20) hx hb hg inG13 tyX13 tyX13_ok nmX13 hown hK hP hD hS 0 rfl rfl 5 (by decide) (hg _ wd_142) (fun _ h9 => h9) rfl (by decide +kernel) rfl rfl (Nat.le_of_ble_eq_true rfl) dX13_done_7 (fun H_2 locs hP hD hS => ?_)
  have hP : va_P D vwCl [(za, .inr (13, [.int z0, .ref z1, .int z2, .int z3, .int 0, .int (-1), .ref z6, .ref z7, .ref z8, .ref z9, .int z10, .ref z11, .ref z12, .ref z13, .ref z14, .ref z15, .int z16, .ref z17, .int z18, .ref z19]))] H_2 := hP
  have hD : va_D A [(za, .inr (13, [.int z0, .ref z1, .int z2, .int z3, .int 0, .int (-1), .ref z6, .ref z7, .ref z8, .ref z9, .int z10, .ref z11, .ref z12, .ref z13, .ref z14, .ref z15, .int z16, .ref z17, .int z18, .ref z19]))] := hD
  refine lv_iload_n hx hb dX13_done_10 rfl (lv_at hl 1 rfl) ?_
  have hP9 := hP.sub (ws' := [(za, .inr (13, [.int z0, .ref z1, .int z2, .int z3, .int 0, .int (-1), .ref z6, .ref z7, .ref z8, .ref z9, .int z10, .ref z11, .ref z12, .ref z13, .ref z14, .ref z15, .int z16, .ref z17, .int z18, .ref z19]))]) [0] rfl
  have hD9 := hD.sub (ws' := [(za, .inr (13, [.int z0, .ref z1, .int z2, .int z3, .int 0, .int (-1), .ref z6, .ref z7, .ref z8, .ref z9, .int z10, .ref z11, .ref z12, .ref z13, .ref z14, .ref z15, .int z16, .ref z17, .int z18, .ref z19]))]) [0] (by decide) rfl
  have hK9 := hK.sub (tys' := []) [] rfl
  exact W.iret (v := k1) hx hb hr (fun t ht hW => ⟨⟨k1, (), rfl, rfl, ⟨by rw [ht]; exact hP9, va_K.moved hW.alike hK9, hD9⟩⟩, hS.F ht⟩) hS.2.2 dX13_done_11
set_option maxHeartbeats 4000000 in
set_option maxRecDepth 100000 in
theorem m_isHouse0 (l : Launch) (D : va_G) (sz : Nat) (za : Nat) (z0 : Int32) (z1 : Nat) (z3 : Int32) (z4 : Int32) (z5 : Int32) (z6 : Nat) (z7 : Nat) (z8 : Nat) (z9 : Nat) (z10 : Int32) (z11 : Nat) (z12 : Nat) (z13 : Nat) (z14 : Nat) (z15 : Nat) (z16 : Int32) (z17 : Nat) (z18 : Int32) (z19 : Nat) (k1 : Int32) : Met l yX13_isHouse (wsM yX13_isHouse cX13_isHouse 2 (some .boolean)) ({ frames := 0, cells := 0, slots := 0, locals := 0 }) (va_Pc [.ref za, .int k1] (Pr D [(za, .inr (13, [.int z0, .ref z1, .int 0, .int z3, .int z4, .int z5, .ref z6, .ref z7, .ref z8, .ref z9, .int z10, .ref z11, .ref z12, .ref z13, .ref z14, .ref z15, .int z16, .ref z17, .int z18, .ref z19]))] [] sz)) (va_Qi (fun (r : Int32) (_ : Unit) => r = 0) (fun _ t => Po D [(za, .inr (13, [.int z0, .ref z1, .int 0, .int z3, .int z4, .int z5, .ref z6, .ref z7, .ref z8, .ref z9, .int z10, .ref z11, .ref z12, .ref z13, .ref z14, .ref z15, .int z16, .ref z17, .int z18, .ref z19]))] [] (va_A [(za, .inr (13, [.int z0, .ref z1, .int 0, .int z3, .int z4, .int z5, .ref z6, .ref z7, .ref z8, .ref z9, .int z10, .ref z11, .ref z12, .ref z13, .ref z14, .ref z15, .int z16, .ref z17, .int z18, .ref z19]))] sz) t) (va_A [(za, .inr (13, [.int z0, .ref z1, .int 0, .int z3, .int z4, .int z5, .ref z6, .ref z7, .ref z8, .ref z9, .int z10, .ref z11, .ref z12, .ref z13, .ref z14, .ref z15, .int z16, .ref z17, .int z18, .ref z19]))] sz)) 0 0 (va_A [(za, .inr (13, [.int z0, .ref z1, .int 0, .int z3, .int z4, .int z5, .ref z6, .ref z7, .ref z8, .ref z9, .int z10, .ref z11, .ref z12, .ref z13, .ref z14, .ref z15, .int z16, .ref z17, .int z18, .ref z19]))] sz) := by
  refine Met.ofW (cc := cX13_isHouse) (maxL := 2) (ret := (some .boolean)) (by decide) rfl ?_
  intro p e s m args below meth c s₁ B hml hv
  obtain ⟨rfl, hsz, hP, hK, hD0, hN⟩ := hv
  have hx := B.exec
  have hb := B.bytes
  have hr := B.returns
  have hts := atoms_spec (ws := (wsM yX13_isHouse cX13_isHouse 2 (some .boolean))) B.pre
  have hg : ∀ w ∈ lw_good, w.before _ s = true := fun w h => hts w (List.mem_cons_of_mem _ h)
  have hown : s.vm.findClass RX13 = some m.cls := findClass_of_methodNamed B.named
  have hlocks := B.notSynchronized
  subst hsz
  have hD := hD0.self (sz := s.heap.size)
  generalize hAe : va_A [(za, .inr (13, [.int z0, .ref z1, .int 0, .int z3, .int z4, .int z5, .ref z6, .ref z7, .ref z8, .ref z9, .int z10, .ref z11, .ref z12, .ref z13, .ref z14, .ref z15, .int z16, .ref z17, .int z18, .ref z19]))] s.heap.size = A at hD ⊢
  have hA : ∀ q : Nat, s.heap.size ≤ q → A q := fun q h => by rw [← hAe]; exact Or.inr h
  have hS : va_S A s.heap s.heap [] := va_S.rf
  have hP : va_P D vwCl [(za, .inr (13, [.int z0, .ref z1, .int 0, .int z3, .int z4, .int z5, .ref z6, .ref z7, .ref z8, .ref z9, .int z10, .ref z11, .ref z12, .ref z13, .ref z14, .ref z15, .int z16, .ref z17, .int z18, .ref z19]))] s.heap := hP
  have hl := lv_entry ([.ref za, .int k1]) (n := 2) (Nat.le_of_ble_eq_true rfl)
  rw [lg_entry_eq]
  generalize (lg_sl ([.ref za, .int k1]) ++ List.replicate (2 - (lg_sl ([.ref za, .int k1])).length) Slot.unset).toArray = ls at hl ⊢
  have hl : lv_has ls 2 [(0, .ref za), (1, .int k1)] := hl
  refine lv_iload_n hx hb dX13_isHouse_0 rfl (lv_at hl 1 rfl) ?_
  refine lv_if_lt (tgt := 16) hx hb dX13_isHouse_1 (by decide) (fun c_1 => ?_) (fun c_1 => ?_)
  · refine lv_iconst (v := 0) hx hb dX13_isHouse_16 (by decide) ?_
    have hP9 := hP.sub (ws' := [(za, .inr (13, [.int z0, .ref z1, .int 0, .int z3, .int z4, .int z5, .ref z6, .ref z7, .ref z8, .ref z9, .int z10, .ref z11, .ref z12, .ref z13, .ref z14, .ref z15, .int z16, .ref z17, .int z18, .ref z19]))]) [0] rfl
    have hD9 := hD.sub (ws' := [(za, .inr (13, [.int z0, .ref z1, .int 0, .int z3, .int z4, .int z5, .ref z6, .ref z7, .ref z8, .ref z9, .int z10, .ref z11, .ref z12, .ref z13, .ref z14, .ref z15, .int z16, .ref z17, .int z18, .ref z19]))]) [0] (by decide) rfl
    have hK9 := hK.sub (tys' := []) [] rfl
    exact W.zret (v := 0) hx hb hr rfl (fun t ht hW => ⟨⟨0, (), rfl, rfl, ⟨by rw [ht]; exact hP9, va_K.moved hW.alike hK9, hD9⟩⟩, hS.F ht⟩) hS.2.2 dX13_isHouse_17
  · refine lv_iload_n hx hb dX13_isHouse_4 rfl (lv_at hl 1 rfl) ?_
    refine lv_aload_n hx hb dX13_isHouse_5 rfl (lv_at hl 0 rfl) ?_
    refine va_get (D := D) (ci := 13) (v := .int 0) (C := RX13) (T := TX13) (N := 20) hx hb hg inG13 hown hK hP 0 rfl rfl 2 (by decide) (hg _ wd_143) (fun _ h9 => h9) rfl dX13_isHouse_6 ?_
    refine lv_icmp_ge (tgt := 16) hx hb dX13_isHouse_9 (by decide) (fun c_2 => ?_) (fun c_2 => absurd (Int32.not_lt.mp c_1) c_2)
    refine lv_iconst (v := 0) hx hb dX13_isHouse_16 (by decide) ?_
    have hP9 := hP.sub (ws' := [(za, .inr (13, [.int z0, .ref z1, .int 0, .int z3, .int z4, .int z5, .ref z6, .ref z7, .ref z8, .ref z9, .int z10, .ref z11, .ref z12, .ref z13, .ref z14, .ref z15, .int z16, .ref z17, .int z18, .ref z19]))]) [0] rfl
    have hD9 := hD.sub (ws' := [(za, .inr (13, [.int z0, .ref z1, .int 0, .int z3, .int z4, .int z5, .ref z6, .ref z7, .ref z8, .ref z9, .int z10, .ref z11, .ref z12, .ref z13, .ref z14, .ref z15, .int z16, .ref z17, .int z18, .ref z19]))]) [0] (by decide) rfl
    have hK9 := hK.sub (tys' := []) [] rfl
    exact W.zret (v := 0) hx hb hr rfl (fun t ht hW => ⟨⟨0, (), rfl, rfl, ⟨by rw [ht]; exact hP9, va_K.moved hW.alike hK9, hD9⟩⟩, hS.F ht⟩) hS.2.2 dX13_isHouse_17
set_option maxHeartbeats 4000000 in
set_option maxRecDepth 100000 in
theorem m_isSeat0 (l : Launch) (D : va_G) (sz : Nat) (za : Nat) (z0 : Int32) (z1 : Nat) (z3 : Int32) (z4 : Int32) (z5 : Int32) (z6 : Nat) (z7 : Nat) (z8 : Nat) (z9 : Nat) (z10 : Int32) (z11 : Nat) (z12 : Nat) (z13 : Nat) (z14 : Nat) (z15 : Nat) (z16 : Int32) (z17 : Nat) (z18 : Int32) (z19 : Nat) (k1 : Int32) (k2 : Int32) : Met l yX13_isSeat (wsM yX13_isSeat cX13_isSeat 3 (some .boolean)) ({ frames := 1, cells := 0, slots := 0, locals := 21 }) (va_Pc [.ref za, .int k1, .int k2] (Pr D [(za, .inr (13, [.int z0, .ref z1, .int 0, .int z3, .int z4, .int z5, .ref z6, .ref z7, .ref z8, .ref z9, .int z10, .ref z11, .ref z12, .ref z13, .ref z14, .ref z15, .int z16, .ref z17, .int z18, .ref z19]))] [] sz)) (va_Qi (fun (r : Int32) (_ : Unit) => r = 0) (fun _ t => Po D [(za, .inr (13, [.int z0, .ref z1, .int 0, .int z3, .int z4, .int z5, .ref z6, .ref z7, .ref z8, .ref z9, .int z10, .ref z11, .ref z12, .ref z13, .ref z14, .ref z15, .int z16, .ref z17, .int z18, .ref z19]))] [] (va_A [(za, .inr (13, [.int z0, .ref z1, .int 0, .int z3, .int z4, .int z5, .ref z6, .ref z7, .ref z8, .ref z9, .int z10, .ref z11, .ref z12, .ref z13, .ref z14, .ref z15, .int z16, .ref z17, .int z18, .ref z19]))] sz) t) (va_A [(za, .inr (13, [.int z0, .ref z1, .int 0, .int z3, .int z4, .int z5, .ref z6, .ref z7, .ref z8, .ref z9, .int z10, .ref z11, .ref z12, .ref z13, .ref z14, .ref z15, .int z16, .ref z17, .int z18, .ref z19]))] sz)) 0 0 (va_A [(za, .inr (13, [.int z0, .ref z1, .int 0, .int z3, .int z4, .int z5, .ref z6, .ref z7, .ref z8, .ref z9, .int z10, .ref z11, .ref z12, .ref z13, .ref z14, .ref z15, .int z16, .ref z17, .int z18, .ref z19]))] sz) := by
  refine Met.ofW (cc := cX13_isSeat) (maxL := 3) (ret := (some .boolean)) (by decide) rfl ?_
  intro p e s m args below meth c s₁ B hml hv
  obtain ⟨rfl, hsz, hP, hK, hD0, hN⟩ := hv
  have hx := B.exec
  have hb := B.bytes
  have hr := B.returns
  have hts := atoms_spec (ws := (wsM yX13_isSeat cX13_isSeat 3 (some .boolean))) B.pre
  have hg : ∀ w ∈ lw_good, w.before _ s = true := fun w h => hts w (List.mem_cons_of_mem _ h)
  have hown : s.vm.findClass RX13 = some m.cls := findClass_of_methodNamed B.named
  have hlocks := B.notSynchronized
  subst hsz
  have hD := hD0.self (sz := s.heap.size)
  generalize hAe : va_A [(za, .inr (13, [.int z0, .ref z1, .int 0, .int z3, .int z4, .int z5, .ref z6, .ref z7, .ref z8, .ref z9, .int z10, .ref z11, .ref z12, .ref z13, .ref z14, .ref z15, .int z16, .ref z17, .int z18, .ref z19]))] s.heap.size = A at hD ⊢
  have hA : ∀ q : Nat, s.heap.size ≤ q → A q := fun q h => by rw [← hAe]; exact Or.inr h
  have hS : va_S A s.heap s.heap [] := va_S.rf
  have hP : va_P D vwCl [(za, .inr (13, [.int z0, .ref z1, .int 0, .int z3, .int z4, .int z5, .ref z6, .ref z7, .ref z8, .ref z9, .int z10, .ref z11, .ref z12, .ref z13, .ref z14, .ref z15, .int z16, .ref z17, .int z18, .ref z19]))] s.heap := hP
  have hl := lv_entry ([.ref za, .int k1, .int k2]) (n := 3) (Nat.le_of_ble_eq_true rfl)
  rw [lg_entry_eq]
  generalize (lg_sl ([.ref za, .int k1, .int k2]) ++ List.replicate (3 - (lg_sl ([.ref za, .int k1, .int k2])).length) Slot.unset).toArray = ls at hl ⊢
  have hl : lv_has ls 3 [(0, .ref za), (1, .int k1), (2, .int k2)] := hl
  refine lv_aload_n hx hb dX13_isSeat_0 rfl (lv_at hl 0 rfl) ?_
  refine lv_iload_n hx hb dX13_isSeat_1 rfl (lv_at hl 1 rfl) ?_
  have hPc := hP.sub (ws' := [(za, .inr (13, [.int z0, .ref z1, .int 0, .int z3, .int z4, .int z5, .ref z6, .ref z7, .ref z8, .ref z9, .int z10, .ref z11, .ref z12, .ref z13, .ref z14, .ref z15, .int z16, .ref z17, .int z18, .ref z19]))]) [0] rfl
  have hDc := hD.sub (ws' := [(za, .inr (13, [.int z0, .ref z1, .int 0, .int z3, .int z4, .int z5, .ref z6, .ref z7, .ref z8, .ref z9, .int z10, .ref z11, .ref z12, .ref z13, .ref z14, .ref z15, .int z16, .ref z17, .int z18, .ref z19]))]) [0] (by decide) rfl
  have hKc := hK.sub (tys' := []) [] rfl
  have hFc := va_free (wc := [(za, .inr (13, [.int z0, .ref z1, .int 0, .int z3, .int z4, .int z5, .ref z6, .ref z7, .ref z8, .ref z9, .int z10, .ref z11, .ref z12, .ref z13, .ref z14, .ref z15, .int z16, .ref z17, .int z18, .ref z19]))]) hD hS hA [0] rfl
  refine va_calli (va_runV (As := [.int k1]) (rest := []) ⟨hx, hb, hml, hown, hg⟩ (m_isHouse0 l D s.heap.size za z0 z1 z3 z4 z5 z6 z7 z8 z9 z10 z11 z12 z13 z14 z15 z16 z17 z18 z19 k1) (cwV 1 hg (gV wd_144 wd_145 wd_146 wd_147 wd_148) rfl rfl rfl (by decide +kernel) ⟨(Nat.le_of_ble_eq_true rfl), (Nat.le_of_ble_eq_true rfl)⟩) ⟨Pr.blind, va_recv hKc hPc (ci := 13) (q0 := 0) rfl rfl, fun U hU hW => ⟨rfl, Pr.at hPc hKc hDc hN hU hW⟩⟩ rfl rfl hl.1 rfl (lv_room (Nat.le_of_ble_eq_true rfl)) dX13_isSeat_2 ⟨(Nat.le_of_ble_eq_true rfl), (Nat.le_of_ble_eq_true rfl)⟩) hS (fun q _ h => hFc q h) hFc (fun r_2 u t H_1 locs ht hvm hw hB hz1 hk1 hS => ?_)
  obtain ⟨hP1, hK1, hD1⟩ := hB
  rw [ht] at hP1
  have hK1 := va_K.moved hvm.symm hK1
  obtain ⟨hP, hD⟩ := va_join (wr := []) (w1 := [(za, .inr (13, [.int z0, .ref z1, .int 0, .int z3, .int z4, .int z5, .ref z6, .ref z7, .ref z8, .ref z9, .int z10, .ref z11, .ref z12, .ref z13, .ref z14, .ref z15, .int z16, .ref z17, .int z18, .ref z19]))]) hP hD [0] [] rfl rfl (by decide) (by decide) hk1 hFc hP1 hD1
  have hP : va_P D vwCl [(za, .inr (13, [.int z0, .ref z1, .int 0, .int z3, .int z4, .int z5, .ref z6, .ref z7, .ref z8, .ref z9, .int z10, .ref z11, .ref z12, .ref z13, .ref z14, .ref z15, .int z16, .ref z17, .int z18, .ref z19]))] H_1 := hP
  have hD : va_D A [(za, .inr (13, [.int z0, .ref z1, .int 0, .int z3, .int z4, .int z5, .ref z6, .ref z7, .ref z8, .ref z9, .int z10, .ref z11, .ref z12, .ref z13, .ref z14, .ref z15, .int z16, .ref z17, .int z18, .ref z19]))] := hD
  subst hw
  refine lv_if_eq (tgt := 22) hx hb dX13_isSeat_5 (by decide) (fun _ => ?_) (fun c_3 => absurd c_3 (by decide))
  refine lv_iconst (v := 0) hx hb dX13_isSeat_22 (by decide) ?_
  have hP9 := hP.sub (ws' := [(za, .inr (13, [.int z0, .ref z1, .int 0, .int z3, .int z4, .int z5, .ref z6, .ref z7, .ref z8, .ref z9, .int z10, .ref z11, .ref z12, .ref z13, .ref z14, .ref z15, .int z16, .ref z17, .int z18, .ref z19]))]) [0] rfl
  have hD9 := hD.sub (ws' := [(za, .inr (13, [.int z0, .ref z1, .int 0, .int z3, .int z4, .int z5, .ref z6, .ref z7, .ref z8, .ref z9, .int z10, .ref z11, .ref z12, .ref z13, .ref z14, .ref z15, .int z16, .ref z17, .int z18, .ref z19]))]) [0] (by decide) rfl
  have hK9 := hK.sub (tys' := []) [] rfl
  exact W.zret (v := 0) hx hb hr rfl (fun t ht hW => ⟨⟨0, (), rfl, rfl, ⟨by rw [ht]; exact hP9, va_K.moved hW.alike hK9, hD9⟩⟩, hS.F ht⟩) hS.2.2 dX13_isSeat_23
set_option maxHeartbeats 4000000 in
set_option maxRecDepth 100000 in
theorem m_isTenure0 (l : Launch) (D : va_G) (sz : Nat) (za : Nat) (z0 : Int32) (z1 : Nat) (z3 : Int32) (z4 : Int32) (z5 : Int32) (z6 : Nat) (z7 : Nat) (z8 : Nat) (z9 : Nat) (z10 : Int32) (z11 : Nat) (z12 : Nat) (z13 : Nat) (z14 : Nat) (z15 : Nat) (z16 : Int32) (z17 : Nat) (z18 : Int32) (z19 : Nat) (k1 : Int32) (k2 : Int32) : Met l yX13_isTenure (wsM yX13_isTenure cX13_isTenure 3 (some .boolean)) ({ frames := 1, cells := 0, slots := 0, locals := 21 }) (va_Pc [.ref za, .int k1, .int k2] (Pr D [(za, .inr (13, [.int z0, .ref z1, .int 0, .int z3, .int z4, .int z5, .ref z6, .ref z7, .ref z8, .ref z9, .int z10, .ref z11, .ref z12, .ref z13, .ref z14, .ref z15, .int z16, .ref z17, .int z18, .ref z19]))] [] sz)) (va_Qi (fun (r : Int32) (_ : Unit) => r = 0) (fun _ t => Po D [(za, .inr (13, [.int z0, .ref z1, .int 0, .int z3, .int z4, .int z5, .ref z6, .ref z7, .ref z8, .ref z9, .int z10, .ref z11, .ref z12, .ref z13, .ref z14, .ref z15, .int z16, .ref z17, .int z18, .ref z19]))] [] (va_A [(za, .inr (13, [.int z0, .ref z1, .int 0, .int z3, .int z4, .int z5, .ref z6, .ref z7, .ref z8, .ref z9, .int z10, .ref z11, .ref z12, .ref z13, .ref z14, .ref z15, .int z16, .ref z17, .int z18, .ref z19]))] sz) t) (va_A [(za, .inr (13, [.int z0, .ref z1, .int 0, .int z3, .int z4, .int z5, .ref z6, .ref z7, .ref z8, .ref z9, .int z10, .ref z11, .ref z12, .ref z13, .ref z14, .ref z15, .int z16, .ref z17, .int z18, .ref z19]))] sz)) 0 0 (va_A [(za, .inr (13, [.int z0, .ref z1, .int 0, .int z3, .int z4, .int z5, .ref z6, .ref z7, .ref z8, .ref z9, .int z10, .ref z11, .ref z12, .ref z13, .ref z14, .ref z15, .int z16, .ref z17, .int z18, .ref z19]))] sz) := by
  refine Met.ofW (cc := cX13_isTenure) (maxL := 3) (ret := (some .boolean)) (by decide) rfl ?_
  intro p e s m args below meth c s₁ B hml hv
  obtain ⟨rfl, hsz, hP, hK, hD0, hN⟩ := hv
  have hx := B.exec
  have hb := B.bytes
  have hr := B.returns
  have hts := atoms_spec (ws := (wsM yX13_isTenure cX13_isTenure 3 (some .boolean))) B.pre
  have hg : ∀ w ∈ lw_good, w.before _ s = true := fun w h => hts w (List.mem_cons_of_mem _ h)
  have hown : s.vm.findClass RX13 = some m.cls := findClass_of_methodNamed B.named
  have hlocks := B.notSynchronized
  subst hsz
  have hD := hD0.self (sz := s.heap.size)
  generalize hAe : va_A [(za, .inr (13, [.int z0, .ref z1, .int 0, .int z3, .int z4, .int z5, .ref z6, .ref z7, .ref z8, .ref z9, .int z10, .ref z11, .ref z12, .ref z13, .ref z14, .ref z15, .int z16, .ref z17, .int z18, .ref z19]))] s.heap.size = A at hD ⊢
  have hA : ∀ q : Nat, s.heap.size ≤ q → A q := fun q h => by rw [← hAe]; exact Or.inr h
  have hS : va_S A s.heap s.heap [] := va_S.rf
  have hP : va_P D vwCl [(za, .inr (13, [.int z0, .ref z1, .int 0, .int z3, .int z4, .int z5, .ref z6, .ref z7, .ref z8, .ref z9, .int z10, .ref z11, .ref z12, .ref z13, .ref z14, .ref z15, .int z16, .ref z17, .int z18, .ref z19]))] s.heap := hP
  have hl := lv_entry ([.ref za, .int k1, .int k2]) (n := 3) (Nat.le_of_ble_eq_true rfl)
  rw [lg_entry_eq]
  generalize (lg_sl ([.ref za, .int k1, .int k2]) ++ List.replicate (3 - (lg_sl ([.ref za, .int k1, .int k2])).length) Slot.unset).toArray = ls at hl ⊢
  have hl : lv_has ls 3 [(0, .ref za), (1, .int k1), (2, .int k2)] := hl
  refine lv_aload_n hx hb dX13_isTenure_0 rfl (lv_at hl 0 rfl) ?_
  refine lv_iload_n hx hb dX13_isTenure_1 rfl (lv_at hl 1 rfl) ?_
  have hPc := hP.sub (ws' := [(za, .inr (13, [.int z0, .ref z1, .int 0, .int z3, .int z4, .int z5, .ref z6, .ref z7, .ref z8, .ref z9, .int z10, .ref z11, .ref z12, .ref z13, .ref z14, .ref z15, .int z16, .ref z17, .int z18, .ref z19]))]) [0] rfl
  have hDc := hD.sub (ws' := [(za, .inr (13, [.int z0, .ref z1, .int 0, .int z3, .int z4, .int z5, .ref z6, .ref z7, .ref z8, .ref z9, .int z10, .ref z11, .ref z12, .ref z13, .ref z14, .ref z15, .int z16, .ref z17, .int z18, .ref z19]))]) [0] (by decide) rfl
  have hKc := hK.sub (tys' := []) [] rfl
  have hFc := va_free (wc := [(za, .inr (13, [.int z0, .ref z1, .int 0, .int z3, .int z4, .int z5, .ref z6, .ref z7, .ref z8, .ref z9, .int z10, .ref z11, .ref z12, .ref z13, .ref z14, .ref z15, .int z16, .ref z17, .int z18, .ref z19]))]) hD hS hA [0] rfl
  refine va_calli (va_runV (As := [.int k1]) (rest := []) ⟨hx, hb, hml, hown, hg⟩ (m_isHouse0 l D s.heap.size za z0 z1 z3 z4 z5 z6 z7 z8 z9 z10 z11 z12 z13 z14 z15 z16 z17 z18 z19 k1) (cwV 1 hg (gV wd_144 wd_145 wd_146 wd_147 wd_148) rfl rfl rfl (by decide +kernel) ⟨(Nat.le_of_ble_eq_true rfl), (Nat.le_of_ble_eq_true rfl)⟩) ⟨Pr.blind, va_recv hKc hPc (ci := 13) (q0 := 0) rfl rfl, fun U hU hW => ⟨rfl, Pr.at hPc hKc hDc hN hU hW⟩⟩ rfl rfl hl.1 rfl (lv_room (Nat.le_of_ble_eq_true rfl)) dX13_isTenure_2 ⟨(Nat.le_of_ble_eq_true rfl), (Nat.le_of_ble_eq_true rfl)⟩) hS (fun q _ h => hFc q h) hFc (fun r_2 u t H_1 locs ht hvm hw hB hz1 hk1 hS => ?_)
  obtain ⟨hP1, hK1, hD1⟩ := hB
  rw [ht] at hP1
  have hK1 := va_K.moved hvm.symm hK1
  obtain ⟨hP, hD⟩ := va_join (wr := []) (w1 := [(za, .inr (13, [.int z0, .ref z1, .int 0, .int z3, .int z4, .int z5, .ref z6, .ref z7, .ref z8, .ref z9, .int z10, .ref z11, .ref z12, .ref z13, .ref z14, .ref z15, .int z16, .ref z17, .int z18, .ref z19]))]) hP hD [0] [] rfl rfl (by decide) (by decide) hk1 hFc hP1 hD1
  have hP : va_P D vwCl [(za, .inr (13, [.int z0, .ref z1, .int 0, .int z3, .int z4, .int z5, .ref z6, .ref z7, .ref z8, .ref z9, .int z10, .ref z11, .ref z12, .ref z13, .ref z14, .ref z15, .int z16, .ref z17, .int z18, .ref z19]))] H_1 := hP
  have hD : va_D A [(za, .inr (13, [.int z0, .ref z1, .int 0, .int z3, .int z4, .int z5, .ref z6, .ref z7, .ref z8, .ref z9, .int z10, .ref z11, .ref z12, .ref z13, .ref z14, .ref z15, .int z16, .ref z17, .int z18, .ref z19]))] := hD
  subst hw
  refine lv_if_eq (tgt := 29) hx hb dX13_isTenure_5 (by decide) (fun _ => ?_) (fun c_3 => absurd c_3 (by decide))
  refine lv_iconst (v := 0) hx hb dX13_isTenure_29 (by decide) ?_
  have hP9 := hP.sub (ws' := [(za, .inr (13, [.int z0, .ref z1, .int 0, .int z3, .int z4, .int z5, .ref z6, .ref z7, .ref z8, .ref z9, .int z10, .ref z11, .ref z12, .ref z13, .ref z14, .ref z15, .int z16, .ref z17, .int z18, .ref z19]))]) [0] rfl
  have hD9 := hD.sub (ws' := [(za, .inr (13, [.int z0, .ref z1, .int 0, .int z3, .int z4, .int z5, .ref z6, .ref z7, .ref z8, .ref z9, .int z10, .ref z11, .ref z12, .ref z13, .ref z14, .ref z15, .int z16, .ref z17, .int z18, .ref z19]))]) [0] (by decide) rfl
  have hK9 := hK.sub (tys' := []) [] rfl
  exact W.zret (v := 0) hx hb hr rfl (fun t ht hW => ⟨⟨0, (), rfl, rfl, ⟨by rw [ht]; exact hP9, va_K.moved hW.alike hK9, hD9⟩⟩, hS.F ht⟩) hS.2.2 dX13_isTenure_30
set_option maxHeartbeats 4000000 in
set_option maxRecDepth 100000 in
theorem m_enters (l : Launch) (D : va_G) (sz : Nat) (za : Nat) (z0 : Int32) (z1 : Nat) (z4 : Int32) (z5 : Int32) (z6 : Nat) (z7 : Nat) (z8 : Nat) (z9 : Nat) (z10 : Int32) (z11 : Nat) (z12 : Nat) (z13 : Nat) (z14 : Nat) (z15 : Nat) (z16 : Int32) (z17 : Nat) (z18 : Int32) (z19 : Nat) (k1 : Int32) (k2 : Int32) (k3 : Int32) (k4 : Int32) : Met l yX13_enters (wsM yX13_enters cX13_enters 7 (some .int)) ({ frames := 1, cells := 0, slots := 0, locals := 21 }) (va_Pc [.ref za, .int k1, .int k2, .int k3, .int k4] (Pr D [(za, .inr (13, [.int z0, .ref z1, .int 0, .int 0, .int z4, .int z5, .ref z6, .ref z7, .ref z8, .ref z9, .int z10, .ref z11, .ref z12, .ref z13, .ref z14, .ref z15, .int z16, .ref z17, .int z18, .ref z19]))] [] sz)) (va_Qi (fun (r : Int32) (_ : Unit) => r = (-1)) (fun _ _ => True) (va_A [(za, .inr (13, [.int z0, .ref z1, .int 0, .int 0, .int z4, .int z5, .ref z6, .ref z7, .ref z8, .ref z9, .int z10, .ref z11, .ref z12, .ref z13, .ref z14, .ref z15, .int z16, .ref z17, .int z18, .ref z19]))] sz)) 0 0 (va_A [(za, .inr (13, [.int z0, .ref z1, .int 0, .int 0, .int z4, .int z5, .ref z6, .ref z7, .ref z8, .ref z9, .int z10, .ref z11, .ref z12, .ref z13, .ref z14, .ref z15, .int z16, .ref z17, .int z18, .ref z19]))] sz) := by
  refine Met.ofW (cc := cX13_enters) (maxL := 7) (ret := (some .int)) (by decide) rfl ?_
  intro p e s m args below meth c s₁ B hml hv
  obtain ⟨rfl, hsz, hP, hK, hD0, hN⟩ := hv
  have hx := B.exec
  have hb := B.bytes
  have hr := B.returns
  have hts := atoms_spec (ws := (wsM yX13_enters cX13_enters 7 (some .int))) B.pre
  have hg : ∀ w ∈ lw_good, w.before _ s = true := fun w h => hts w (List.mem_cons_of_mem _ h)
  have hown : s.vm.findClass RX13 = some m.cls := findClass_of_methodNamed B.named
  have hlocks := B.notSynchronized
  subst hsz
  have hD := hD0.self (sz := s.heap.size)
  generalize hAe : va_A [(za, .inr (13, [.int z0, .ref z1, .int 0, .int 0, .int z4, .int z5, .ref z6, .ref z7, .ref z8, .ref z9, .int z10, .ref z11, .ref z12, .ref z13, .ref z14, .ref z15, .int z16, .ref z17, .int z18, .ref z19]))] s.heap.size = A at hD ⊢
  have hA : ∀ q : Nat, s.heap.size ≤ q → A q := fun q h => by rw [← hAe]; exact Or.inr h
  have hS : va_S A s.heap s.heap [] := va_S.rf
  have hP : va_P D vwCl [(za, .inr (13, [.int z0, .ref z1, .int 0, .int 0, .int z4, .int z5, .ref z6, .ref z7, .ref z8, .ref z9, .int z10, .ref z11, .ref z12, .ref z13, .ref z14, .ref z15, .int z16, .ref z17, .int z18, .ref z19]))] s.heap := hP
  have hl := lv_entry ([.ref za, .int k1, .int k2, .int k3, .int k4]) (n := 7) (Nat.le_of_ble_eq_true rfl)
  rw [lg_entry_eq]
  generalize (lg_sl ([.ref za, .int k1, .int k2, .int k3, .int k4]) ++ List.replicate (7 - (lg_sl ([.ref za, .int k1, .int k2, .int k3, .int k4])).length) Slot.unset).toArray = ls at hl ⊢
  have hl : lv_has ls 7 [(0, .ref za), (1, .int k1), (2, .int k2), (3, .int k3), (4, .int k4)] := hl
  refine lv_aload_n hx hb dX13_enters_0 rfl (lv_at hl 0 rfl) ?_
  refine lv_iconst (v := 0) hx hb dX13_enters_1 (by decide) ?_
  refine va_put (D := D) (ci := 13) (v := .int 0) (ty := .int) (C := RX13) (T := TX13) (N := 20) hx hb hg inG13 tyX13 tyX13_ok nmX13 hown hK hP hD hS 0 rfl rfl 0 (by decide) (hg _ wd_149) (fun _ h9 => h9) rfl (by decide +kernel) rfl rfl (Nat.le_of_ble_eq_true rfl) dX13_enters_2 (fun H_1 locs hP hD hS => ?_)
  have hP : va_P D vwCl [(za, .inr (13, [.int 0, .ref z1, .int 0, .int 0, .int z4, .int z5, .ref z6, .ref z7, .ref z8, .ref z9, .int z10, .ref z11, .ref z12, .ref z13, .ref z14, .ref z15, .int z16, .ref z17, .int z18, .ref z19]))] H_1 := hP
  have hD : va_D A [(za, .inr (13, [.int 0, .ref z1, .int 0, .int 0, .int z4, .int z5, .ref z6, .ref z7, .ref z8, .ref z9, .int z10, .ref z11, .ref z12, .ref z13, .ref z14, .ref z15, .int z16, .ref z17, .int z18, .ref z19]))] := hD
  refine lv_aload_n hx hb dX13_enters_5 rfl (lv_at hl 0 rfl) ?_
  refine lv_iload_n hx hb dX13_enters_6 rfl (lv_at hl 1 rfl) ?_
  have hPc := hP.sub (ws' := [(za, .inr (13, [.int 0, .ref z1, .int 0, .int 0, .int z4, .int z5, .ref z6, .ref z7, .ref z8, .ref z9, .int z10, .ref z11, .ref z12, .ref z13, .ref z14, .ref z15, .int z16, .ref z17, .int z18, .ref z19]))]) [0] rfl
  have hDc := hD.sub (ws' := [(za, .inr (13, [.int 0, .ref z1, .int 0, .int 0, .int z4, .int z5, .ref z6, .ref z7, .ref z8, .ref z9, .int z10, .ref z11, .ref z12, .ref z13, .ref z14, .ref z15, .int z16, .ref z17, .int z18, .ref z19]))]) [0] (by decide) rfl
  have hKc := hK.sub (tys' := []) [] rfl
  have hFc := va_free (wc := [(za, .inr (13, [.int 0, .ref z1, .int 0, .int 0, .int z4, .int z5, .ref z6, .ref z7, .ref z8, .ref z9, .int z10, .ref z11, .ref z12, .ref z13, .ref z14, .ref z15, .int z16, .ref z17, .int z18, .ref z19]))]) hD hS hA [0] rfl
  refine va_calli (va_runV (As := [.int k1]) (rest := []) ⟨hx, hb, hml, hown, hg⟩ (m_isHouse0 l D H_1.size za 0 z1 0 z4 z5 z6 z7 z8 z9 z10 z11 z12 z13 z14 z15 z16 z17 z18 z19 k1) (cwV 1 hg (gV wd_144 wd_145 wd_146 wd_147 wd_148) rfl rfl rfl (by decide +kernel) ⟨(Nat.le_of_ble_eq_true rfl), (Nat.le_of_ble_eq_true rfl)⟩) ⟨Pr.blind, va_recv hKc hPc (ci := 13) (q0 := 0) rfl rfl, fun U hU hW => ⟨rfl, Pr.at hPc hKc hDc hN hU hW⟩⟩ rfl rfl hl.1 rfl (lv_room (Nat.le_of_ble_eq_true rfl)) dX13_enters_7 ⟨(Nat.le_of_ble_eq_true rfl), (Nat.le_of_ble_eq_true rfl)⟩) hS (fun q _ h => hFc q h) hFc (fun r_3 u t H_2 locs ht hvm hw hB hz1 hk1 hS => ?_)
  obtain ⟨hP1, hK1, hD1⟩ := hB
  rw [ht] at hP1
  have hK1 := va_K.moved hvm.symm hK1
  obtain ⟨hP, hD⟩ := va_join (wr := []) (w1 := [(za, .inr (13, [.int 0, .ref z1, .int 0, .int 0, .int z4, .int z5, .ref z6, .ref z7, .ref z8, .ref z9, .int z10, .ref z11, .ref z12, .ref z13, .ref z14, .ref z15, .int z16, .ref z17, .int z18, .ref z19]))]) hP hD [0] [] rfl rfl (by decide) (by decide) hk1 hFc hP1 hD1
  have hP : va_P D vwCl [(za, .inr (13, [.int 0, .ref z1, .int 0, .int 0, .int z4, .int z5, .ref z6, .ref z7, .ref z8, .ref z9, .int z10, .ref z11, .ref z12, .ref z13, .ref z14, .ref z15, .int z16, .ref z17, .int z18, .ref z19]))] H_2 := hP
  have hD : va_D A [(za, .inr (13, [.int 0, .ref z1, .int 0, .int 0, .int z4, .int z5, .ref z6, .ref z7, .ref z8, .ref z9, .int z10, .ref z11, .ref z12, .ref z13, .ref z14, .ref z15, .int z16, .ref z17, .int z18, .ref z19]))] := hD
  subst hw
  refine lv_if_ne (tgt := 19) hx hb dX13_enters_10 (by decide) (fun c_4 => absurd c_4 (by decide)) (fun _ => ?_)
  refine lv_aload_n hx hb dX13_enters_13 rfl (lv_at hl 0 rfl) ?_
  refine lv_iconst (v := 1) hx hb dX13_enters_14 (by decide) ?_
  have hPc := hP.sub (ws' := [(za, .inr (13, [.int 0, .ref z1, .int 0, .int 0, .int z4, .int z5, .ref z6, .ref z7, .ref z8, .ref z9, .int z10, .ref z11, .ref z12, .ref z13, .ref z14, .ref z15, .int z16, .ref z17, .int z18, .ref z19]))]) [0] rfl
  have hDc := hD.sub (ws' := [(za, .inr (13, [.int 0, .ref z1, .int 0, .int 0, .int z4, .int z5, .ref z6, .ref z7, .ref z8, .ref z9, .int z10, .ref z11, .ref z12, .ref z13, .ref z14, .ref z15, .int z16, .ref z17, .int z18, .ref z19]))]) [0] (by decide) rfl
  have hKc := hK.sub (tys' := []) [] rfl
  have hFc := va_free (wc := [(za, .inr (13, [.int 0, .ref z1, .int 0, .int 0, .int z4, .int z5, .ref z6, .ref z7, .ref z8, .ref z9, .int z10, .ref z11, .ref z12, .ref z13, .ref z14, .ref z15, .int z16, .ref z17, .int z18, .ref z19]))]) hD hS hA [0] rfl
  refine va_calli (va_runV (As := [.int 1]) (rest := []) ⟨hx, hb, hml, hown, hg⟩ (m_refused l D H_2.size za 0 z1 0 0 z4 z5 z6 z7 z8 z9 z10 z11 z12 z13 z14 z15 z16 z17 z18 z19 1) (cwV 1 hg (gV wd_150 wd_151 wd_152 wd_147 wd_153) rfl rfl rfl (by decide +kernel) ⟨(Nat.le_of_ble_eq_true rfl), (Nat.le_of_ble_eq_true rfl)⟩) ⟨Pr.blind, va_recv hKc hPc (ci := 13) (q0 := 0) rfl rfl, fun U hU hW => ⟨rfl, Pr.at hPc hKc hDc hN hU hW⟩⟩ rfl rfl hl.1 rfl (lv_room (Nat.le_of_ble_eq_true rfl)) dX13_enters_15 ⟨(Nat.le_of_ble_eq_true rfl), (Nat.le_of_ble_eq_true rfl)⟩) hS (fun q _ h => hFc q h) hFc (fun r_6 u t H_5 locs ht hvm hw hB hz1 hk1 hS => ?_)
  obtain ⟨hP1, hK1, hD1⟩ := hB
  rw [ht] at hP1
  have hK1 := va_K.moved hvm.symm hK1
  obtain ⟨hP, hD⟩ := va_join (wr := []) (w1 := [(za, .inr (13, [.int 0, .ref z1, .int 0, .int 0, .int 1, .int (-1), .ref z6, .ref z7, .ref z8, .ref z9, .int z10, .ref z11, .ref z12, .ref z13, .ref z14, .ref z15, .int z16, .ref z17, .int z18, .ref z19]))]) hP hD [0] [] rfl rfl (by decide) (by decide) hk1 hFc hP1 hD1
  have hP : va_P D vwCl [(za, .inr (13, [.int 0, .ref z1, .int 0, .int 0, .int 1, .int (-1), .ref z6, .ref z7, .ref z8, .ref z9, .int z10, .ref z11, .ref z12, .ref z13, .ref z14, .ref z15, .int z16, .ref z17, .int z18, .ref z19]))] H_5 := hP
  have hD : va_D A [(za, .inr (13, [.int 0, .ref z1, .int 0, .int 0, .int 1, .int (-1), .ref z6, .ref z7, .ref z8, .ref z9, .int z10, .ref z11, .ref z12, .ref z13, .ref z14, .ref z15, .int z16, .ref z17, .int z18, .ref z19]))] := hD
  subst hw
  exact W.iret (v := (-1)) hx hb hr (fun t ht hW => ⟨⟨(-1), (), rfl, rfl, trivial⟩, hS.F ht⟩) hS.2.2 dX13_enters_18
set_option maxHeartbeats 4000000 in
set_option maxRecDepth 100000 in
theorem m_letter (l : Launch) (D : va_G) (sz : Nat) (za : Nat) (z0 : Int32) (z1 : Nat) (z4 : Int32) (z5 : Int32) (z6 : Nat) (z7 : Nat) (z8 : Nat) (z9 : Nat) (z10 : Int32) (z11 : Nat) (z12 : Nat) (z13 : Nat) (z14 : Nat) (z15 : Nat) (z16 : Int32) (z17 : Nat) (z18 : Int32) (z19 : Nat) (k1 : Int32) (k2 : Int32) (k3 : Int32) : Met l yX13_letter (wsM yX13_letter cX13_letter 5 (some .int)) ({ frames := 2, cells := 0, slots := 0, locals := 43 }) (va_Pc [.ref za, .int k1, .int k2, .int k3] (Pr D [(za, .inr (13, [.int z0, .ref z1, .int 0, .int 0, .int z4, .int z5, .ref z6, .ref z7, .ref z8, .ref z9, .int z10, .ref z11, .ref z12, .ref z13, .ref z14, .ref z15, .int z16, .ref z17, .int z18, .ref z19]))] [] sz)) (va_Qi (fun (r : Int32) (_ : Unit) => r = (-1)) (fun _ _ => True) (va_A [(za, .inr (13, [.int z0, .ref z1, .int 0, .int 0, .int z4, .int z5, .ref z6, .ref z7, .ref z8, .ref z9, .int z10, .ref z11, .ref z12, .ref z13, .ref z14, .ref z15, .int z16, .ref z17, .int z18, .ref z19]))] sz)) 0 0 (va_A [(za, .inr (13, [.int z0, .ref z1, .int 0, .int 0, .int z4, .int z5, .ref z6, .ref z7, .ref z8, .ref z9, .int z10, .ref z11, .ref z12, .ref z13, .ref z14, .ref z15, .int z16, .ref z17, .int z18, .ref z19]))] sz) := by
  refine Met.ofW (cc := cX13_letter) (maxL := 5) (ret := (some .int)) (by decide) rfl ?_
  intro p e s m args below meth c s₁ B hml hv
  obtain ⟨rfl, hsz, hP, hK, hD0, hN⟩ := hv
  have hx := B.exec
  have hb := B.bytes
  have hr := B.returns
  have hts := atoms_spec (ws := (wsM yX13_letter cX13_letter 5 (some .int))) B.pre
  have hg : ∀ w ∈ lw_good, w.before _ s = true := fun w h => hts w (List.mem_cons_of_mem _ h)
  have hown : s.vm.findClass RX13 = some m.cls := findClass_of_methodNamed B.named
  have hlocks := B.notSynchronized
  subst hsz
  have hD := hD0.self (sz := s.heap.size)
  generalize hAe : va_A [(za, .inr (13, [.int z0, .ref z1, .int 0, .int 0, .int z4, .int z5, .ref z6, .ref z7, .ref z8, .ref z9, .int z10, .ref z11, .ref z12, .ref z13, .ref z14, .ref z15, .int z16, .ref z17, .int z18, .ref z19]))] s.heap.size = A at hD ⊢
  have hA : ∀ q : Nat, s.heap.size ≤ q → A q := fun q h => by rw [← hAe]; exact Or.inr h
  have hS : va_S A s.heap s.heap [] := va_S.rf
  have hP : va_P D vwCl [(za, .inr (13, [.int z0, .ref z1, .int 0, .int 0, .int z4, .int z5, .ref z6, .ref z7, .ref z8, .ref z9, .int z10, .ref z11, .ref z12, .ref z13, .ref z14, .ref z15, .int z16, .ref z17, .int z18, .ref z19]))] s.heap := hP
  have hl := lv_entry ([.ref za, .int k1, .int k2, .int k3]) (n := 5) (Nat.le_of_ble_eq_true rfl)
  rw [lg_entry_eq]
  generalize (lg_sl ([.ref za, .int k1, .int k2, .int k3]) ++ List.replicate (5 - (lg_sl ([.ref za, .int k1, .int k2, .int k3])).length) Slot.unset).toArray = ls at hl ⊢
  have hl : lv_has ls 5 [(0, .ref za), (1, .int k1), (2, .int k2), (3, .int k3)] := hl
  refine lv_aload_n hx hb dX13_letter_0 rfl (lv_at hl 0 rfl) ?_
  refine lv_iconst (v := 0) hx hb dX13_letter_1 (by decide) ?_
  refine va_put (D := D) (ci := 13) (v := .int 0) (ty := .int) (C := RX13) (T := TX13) (N := 20) hx hb hg inG13 tyX13 tyX13_ok nmX13 hown hK hP hD hS 0 rfl rfl 0 (by decide) (hg _ wd_149) (fun _ h9 => h9) rfl (by decide +kernel) rfl rfl (Nat.le_of_ble_eq_true rfl) dX13_letter_2 (fun H_1 locs hP hD hS => ?_)
  have hP : va_P D vwCl [(za, .inr (13, [.int 0, .ref z1, .int 0, .int 0, .int z4, .int z5, .ref z6, .ref z7, .ref z8, .ref z9, .int z10, .ref z11, .ref z12, .ref z13, .ref z14, .ref z15, .int z16, .ref z17, .int z18, .ref z19]))] H_1 := hP
  have hD : va_D A [(za, .inr (13, [.int 0, .ref z1, .int 0, .int 0, .int z4, .int z5, .ref z6, .ref z7, .ref z8, .ref z9, .int z10, .ref z11, .ref z12, .ref z13, .ref z14, .ref z15, .int z16, .ref z17, .int z18, .ref z19]))] := hD
  refine lv_aload_n hx hb dX13_letter_5 rfl (lv_at hl 0 rfl) ?_
  refine lv_iload_n hx hb dX13_letter_6 rfl (lv_at hl 1 rfl) ?_
  refine lv_iload_n hx hb dX13_letter_7 rfl (lv_at hl 2 rfl) ?_
  have hPc := hP.sub (ws' := [(za, .inr (13, [.int 0, .ref z1, .int 0, .int 0, .int z4, .int z5, .ref z6, .ref z7, .ref z8, .ref z9, .int z10, .ref z11, .ref z12, .ref z13, .ref z14, .ref z15, .int z16, .ref z17, .int z18, .ref z19]))]) [0] rfl
  have hDc := hD.sub (ws' := [(za, .inr (13, [.int 0, .ref z1, .int 0, .int 0, .int z4, .int z5, .ref z6, .ref z7, .ref z8, .ref z9, .int z10, .ref z11, .ref z12, .ref z13, .ref z14, .ref z15, .int z16, .ref z17, .int z18, .ref z19]))]) [0] (by decide) rfl
  have hKc := hK.sub (tys' := []) [] rfl
  have hFc := va_free (wc := [(za, .inr (13, [.int 0, .ref z1, .int 0, .int 0, .int z4, .int z5, .ref z6, .ref z7, .ref z8, .ref z9, .int z10, .ref z11, .ref z12, .ref z13, .ref z14, .ref z15, .int z16, .ref z17, .int z18, .ref z19]))]) hD hS hA [0] rfl
  refine va_calli (va_runV (As := [.int k1, .int k2]) (rest := []) ⟨hx, hb, hml, hown, hg⟩ (m_isSeat0 l D H_1.size za 0 z1 0 z4 z5 z6 z7 z8 z9 z10 z11 z12 z13 z14 z15 z16 z17 z18 z19 k1 k2) (cwV 2 hg (gV wd_154 wd_155 wd_156 wd_147 wd_157) rfl rfl rfl (by decide +kernel) ⟨(Nat.le_of_ble_eq_true rfl), (Nat.le_of_ble_eq_true rfl)⟩) ⟨Pr.blind, va_recv hKc hPc (ci := 13) (q0 := 0) rfl rfl, fun U hU hW => ⟨rfl, Pr.at hPc hKc hDc hN hU hW⟩⟩ rfl rfl hl.1 rfl (lv_room (Nat.le_of_ble_eq_true rfl)) dX13_letter_8 ⟨(Nat.le_of_ble_eq_true rfl), (Nat.le_of_ble_eq_true rfl)⟩) hS (fun q _ h => hFc q h) hFc (fun r_3 u t H_2 locs ht hvm hw hB hz1 hk1 hS => ?_)
  obtain ⟨hP1, hK1, hD1⟩ := hB
  rw [ht] at hP1
  have hK1 := va_K.moved hvm.symm hK1
  obtain ⟨hP, hD⟩ := va_join (wr := []) (w1 := [(za, .inr (13, [.int 0, .ref z1, .int 0, .int 0, .int z4, .int z5, .ref z6, .ref z7, .ref z8, .ref z9, .int z10, .ref z11, .ref z12, .ref z13, .ref z14, .ref z15, .int z16, .ref z17, .int z18, .ref z19]))]) hP hD [0] [] rfl rfl (by decide) (by decide) hk1 hFc hP1 hD1
  have hP : va_P D vwCl [(za, .inr (13, [.int 0, .ref z1, .int 0, .int 0, .int z4, .int z5, .ref z6, .ref z7, .ref z8, .ref z9, .int z10, .ref z11, .ref z12, .ref z13, .ref z14, .ref z15, .int z16, .ref z17, .int z18, .ref z19]))] H_2 := hP
  have hD : va_D A [(za, .inr (13, [.int 0, .ref z1, .int 0, .int 0, .int z4, .int z5, .ref z6, .ref z7, .ref z8, .ref z9, .int z10, .ref z11, .ref z12, .ref z13, .ref z14, .ref z15, .int z16, .ref z17, .int z18, .ref z19]))] := hD
  subst hw
  refine lv_if_ne (tgt := 20) hx hb dX13_letter_11 (by decide) (fun c_4 => absurd c_4 (by decide)) (fun _ => ?_)
  refine lv_aload_n hx hb dX13_letter_14 rfl (lv_at hl 0 rfl) ?_
  refine lv_iconst (v := 1) hx hb dX13_letter_15 (by decide) ?_
  have hPc := hP.sub (ws' := [(za, .inr (13, [.int 0, .ref z1, .int 0, .int 0, .int z4, .int z5, .ref z6, .ref z7, .ref z8, .ref z9, .int z10, .ref z11, .ref z12, .ref z13, .ref z14, .ref z15, .int z16, .ref z17, .int z18, .ref z19]))]) [0] rfl
  have hDc := hD.sub (ws' := [(za, .inr (13, [.int 0, .ref z1, .int 0, .int 0, .int z4, .int z5, .ref z6, .ref z7, .ref z8, .ref z9, .int z10, .ref z11, .ref z12, .ref z13, .ref z14, .ref z15, .int z16, .ref z17, .int z18, .ref z19]))]) [0] (by decide) rfl
  have hKc := hK.sub (tys' := []) [] rfl
  have hFc := va_free (wc := [(za, .inr (13, [.int 0, .ref z1, .int 0, .int 0, .int z4, .int z5, .ref z6, .ref z7, .ref z8, .ref z9, .int z10, .ref z11, .ref z12, .ref z13, .ref z14, .ref z15, .int z16, .ref z17, .int z18, .ref z19]))]) hD hS hA [0] rfl
  refine va_calli (va_runV (As := [.int 1]) (rest := []) ⟨hx, hb, hml, hown, hg⟩ (m_refused l D H_2.size za 0 z1 0 0 z4 z5 z6 z7 z8 z9 z10 z11 z12 z13 z14 z15 z16 z17 z18 z19 1) (cwV 1 hg (gV wd_150 wd_151 wd_152 wd_147 wd_153) rfl rfl rfl (by decide +kernel) ⟨(Nat.le_of_ble_eq_true rfl), (Nat.le_of_ble_eq_true rfl)⟩) ⟨Pr.blind, va_recv hKc hPc (ci := 13) (q0 := 0) rfl rfl, fun U hU hW => ⟨rfl, Pr.at hPc hKc hDc hN hU hW⟩⟩ rfl rfl hl.1 rfl (lv_room (Nat.le_of_ble_eq_true rfl)) dX13_letter_16 ⟨(Nat.le_of_ble_eq_true rfl), (Nat.le_of_ble_eq_true rfl)⟩) hS (fun q _ h => hFc q h) hFc (fun r_6 u t H_5 locs ht hvm hw hB hz1 hk1 hS => ?_)
  obtain ⟨hP1, hK1, hD1⟩ := hB
  rw [ht] at hP1
  have hK1 := va_K.moved hvm.symm hK1
  obtain ⟨hP, hD⟩ := va_join (wr := []) (w1 := [(za, .inr (13, [.int 0, .ref z1, .int 0, .int 0, .int 1, .int (-1), .ref z6, .ref z7, .ref z8, .ref z9, .int z10, .ref z11, .ref z12, .ref z13, .ref z14, .ref z15, .int z16, .ref z17, .int z18, .ref z19]))]) hP hD [0] [] rfl rfl (by decide) (by decide) hk1 hFc hP1 hD1
  have hP : va_P D vwCl [(za, .inr (13, [.int 0, .ref z1, .int 0, .int 0, .int 1, .int (-1), .ref z6, .ref z7, .ref z8, .ref z9, .int z10, .ref z11, .ref z12, .ref z13, .ref z14, .ref z15, .int z16, .ref z17, .int z18, .ref z19]))] H_5 := hP
  have hD : va_D A [(za, .inr (13, [.int 0, .ref z1, .int 0, .int 0, .int 1, .int (-1), .ref z6, .ref z7, .ref z8, .ref z9, .int z10, .ref z11, .ref z12, .ref z13, .ref z14, .ref z15, .int z16, .ref z17, .int z18, .ref z19]))] := hD
  subst hw
  exact W.iret (v := (-1)) hx hb hr (fun t ht hW => ⟨⟨(-1), (), rfl, rfl, trivial⟩, hS.F ht⟩) hS.2.2 dX13_letter_19
set_option maxHeartbeats 4000000 in
set_option maxRecDepth 100000 in
theorem m_unseal (l : Launch) (D : va_G) (sz : Nat) (za : Nat) (z0 : Int32) (z1 : Nat) (z4 : Int32) (z5 : Int32) (z6 : Nat) (z7 : Nat) (z8 : Nat) (z9 : Nat) (z10 : Int32) (z11 : Nat) (z12 : Nat) (z13 : Nat) (z14 : Nat) (z15 : Nat) (z16 : Int32) (z17 : Nat) (z18 : Int32) (z19 : Nat) (k1 : Int32) (k2 : Int32) : Met l yX13_unseal (wsM yX13_unseal cX13_unseal 5 (some .int)) ({ frames := 2, cells := 0, slots := 0, locals := 43 }) (va_Pc [.ref za, .int k1, .int k2] (Pr D [(za, .inr (13, [.int z0, .ref z1, .int 0, .int 0, .int z4, .int z5, .ref z6, .ref z7, .ref z8, .ref z9, .int z10, .ref z11, .ref z12, .ref z13, .ref z14, .ref z15, .int z16, .ref z17, .int z18, .ref z19]))] [] sz)) (va_Qi (fun (r : Int32) (_ : Unit) => r = (-1)) (fun _ _ => True) (va_A [(za, .inr (13, [.int z0, .ref z1, .int 0, .int 0, .int z4, .int z5, .ref z6, .ref z7, .ref z8, .ref z9, .int z10, .ref z11, .ref z12, .ref z13, .ref z14, .ref z15, .int z16, .ref z17, .int z18, .ref z19]))] sz)) 0 0 (va_A [(za, .inr (13, [.int z0, .ref z1, .int 0, .int 0, .int z4, .int z5, .ref z6, .ref z7, .ref z8, .ref z9, .int z10, .ref z11, .ref z12, .ref z13, .ref z14, .ref z15, .int z16, .ref z17, .int z18, .ref z19]))] sz) := by
  refine Met.ofW (cc := cX13_unseal) (maxL := 5) (ret := (some .int)) (by decide) rfl ?_
  intro p e s m args below meth c s₁ B hml hv
  obtain ⟨rfl, hsz, hP, hK, hD0, hN⟩ := hv
  have hx := B.exec
  have hb := B.bytes
  have hr := B.returns
  have hts := atoms_spec (ws := (wsM yX13_unseal cX13_unseal 5 (some .int))) B.pre
  have hg : ∀ w ∈ lw_good, w.before _ s = true := fun w h => hts w (List.mem_cons_of_mem _ h)
  have hown : s.vm.findClass RX13 = some m.cls := findClass_of_methodNamed B.named
  have hlocks := B.notSynchronized
  subst hsz
  have hD := hD0.self (sz := s.heap.size)
  generalize hAe : va_A [(za, .inr (13, [.int z0, .ref z1, .int 0, .int 0, .int z4, .int z5, .ref z6, .ref z7, .ref z8, .ref z9, .int z10, .ref z11, .ref z12, .ref z13, .ref z14, .ref z15, .int z16, .ref z17, .int z18, .ref z19]))] s.heap.size = A at hD ⊢
  have hA : ∀ q : Nat, s.heap.size ≤ q → A q := fun q h => by rw [← hAe]; exact Or.inr h
  have hS : va_S A s.heap s.heap [] := va_S.rf
  have hP : va_P D vwCl [(za, .inr (13, [.int z0, .ref z1, .int 0, .int 0, .int z4, .int z5, .ref z6, .ref z7, .ref z8, .ref z9, .int z10, .ref z11, .ref z12, .ref z13, .ref z14, .ref z15, .int z16, .ref z17, .int z18, .ref z19]))] s.heap := hP
  have hl := lv_entry ([.ref za, .int k1, .int k2]) (n := 5) (Nat.le_of_ble_eq_true rfl)
  rw [lg_entry_eq]
  generalize (lg_sl ([.ref za, .int k1, .int k2]) ++ List.replicate (5 - (lg_sl ([.ref za, .int k1, .int k2])).length) Slot.unset).toArray = ls at hl ⊢
  have hl : lv_has ls 5 [(0, .ref za), (1, .int k1), (2, .int k2)] := hl
  refine lv_aload_n hx hb dX13_unseal_0 rfl (lv_at hl 0 rfl) ?_
  refine lv_iconst (v := 0) hx hb dX13_unseal_1 (by decide) ?_
  refine va_put (D := D) (ci := 13) (v := .int 0) (ty := .int) (C := RX13) (T := TX13) (N := 20) hx hb hg inG13 tyX13 tyX13_ok nmX13 hown hK hP hD hS 0 rfl rfl 0 (by decide) (hg _ wd_149) (fun _ h9 => h9) rfl (by decide +kernel) rfl rfl (Nat.le_of_ble_eq_true rfl) dX13_unseal_2 (fun H_1 locs hP hD hS => ?_)
  have hP : va_P D vwCl [(za, .inr (13, [.int 0, .ref z1, .int 0, .int 0, .int z4, .int z5, .ref z6, .ref z7, .ref z8, .ref z9, .int z10, .ref z11, .ref z12, .ref z13, .ref z14, .ref z15, .int z16, .ref z17, .int z18, .ref z19]))] H_1 := hP
  have hD : va_D A [(za, .inr (13, [.int 0, .ref z1, .int 0, .int 0, .int z4, .int z5, .ref z6, .ref z7, .ref z8, .ref z9, .int z10, .ref z11, .ref z12, .ref z13, .ref z14, .ref z15, .int z16, .ref z17, .int z18, .ref z19]))] := hD
  refine lv_aload_n hx hb dX13_unseal_5 rfl (lv_at hl 0 rfl) ?_
  refine lv_iload_n hx hb dX13_unseal_6 rfl (lv_at hl 1 rfl) ?_
  refine lv_iload_n hx hb dX13_unseal_7 rfl (lv_at hl 2 rfl) ?_
  have hPc := hP.sub (ws' := [(za, .inr (13, [.int 0, .ref z1, .int 0, .int 0, .int z4, .int z5, .ref z6, .ref z7, .ref z8, .ref z9, .int z10, .ref z11, .ref z12, .ref z13, .ref z14, .ref z15, .int z16, .ref z17, .int z18, .ref z19]))]) [0] rfl
  have hDc := hD.sub (ws' := [(za, .inr (13, [.int 0, .ref z1, .int 0, .int 0, .int z4, .int z5, .ref z6, .ref z7, .ref z8, .ref z9, .int z10, .ref z11, .ref z12, .ref z13, .ref z14, .ref z15, .int z16, .ref z17, .int z18, .ref z19]))]) [0] (by decide) rfl
  have hKc := hK.sub (tys' := []) [] rfl
  have hFc := va_free (wc := [(za, .inr (13, [.int 0, .ref z1, .int 0, .int 0, .int z4, .int z5, .ref z6, .ref z7, .ref z8, .ref z9, .int z10, .ref z11, .ref z12, .ref z13, .ref z14, .ref z15, .int z16, .ref z17, .int z18, .ref z19]))]) hD hS hA [0] rfl
  refine va_calli (va_runV (As := [.int k1, .int k2]) (rest := []) ⟨hx, hb, hml, hown, hg⟩ (m_isSeat0 l D H_1.size za 0 z1 0 z4 z5 z6 z7 z8 z9 z10 z11 z12 z13 z14 z15 z16 z17 z18 z19 k1 k2) (cwV 2 hg (gV wd_154 wd_155 wd_156 wd_147 wd_157) rfl rfl rfl (by decide +kernel) ⟨(Nat.le_of_ble_eq_true rfl), (Nat.le_of_ble_eq_true rfl)⟩) ⟨Pr.blind, va_recv hKc hPc (ci := 13) (q0 := 0) rfl rfl, fun U hU hW => ⟨rfl, Pr.at hPc hKc hDc hN hU hW⟩⟩ rfl rfl hl.1 rfl (lv_room (Nat.le_of_ble_eq_true rfl)) dX13_unseal_8 ⟨(Nat.le_of_ble_eq_true rfl), (Nat.le_of_ble_eq_true rfl)⟩) hS (fun q _ h => hFc q h) hFc (fun r_3 u t H_2 locs ht hvm hw hB hz1 hk1 hS => ?_)
  obtain ⟨hP1, hK1, hD1⟩ := hB
  rw [ht] at hP1
  have hK1 := va_K.moved hvm.symm hK1
  obtain ⟨hP, hD⟩ := va_join (wr := []) (w1 := [(za, .inr (13, [.int 0, .ref z1, .int 0, .int 0, .int z4, .int z5, .ref z6, .ref z7, .ref z8, .ref z9, .int z10, .ref z11, .ref z12, .ref z13, .ref z14, .ref z15, .int z16, .ref z17, .int z18, .ref z19]))]) hP hD [0] [] rfl rfl (by decide) (by decide) hk1 hFc hP1 hD1
  have hP : va_P D vwCl [(za, .inr (13, [.int 0, .ref z1, .int 0, .int 0, .int z4, .int z5, .ref z6, .ref z7, .ref z8, .ref z9, .int z10, .ref z11, .ref z12, .ref z13, .ref z14, .ref z15, .int z16, .ref z17, .int z18, .ref z19]))] H_2 := hP
  have hD : va_D A [(za, .inr (13, [.int 0, .ref z1, .int 0, .int 0, .int z4, .int z5, .ref z6, .ref z7, .ref z8, .ref z9, .int z10, .ref z11, .ref z12, .ref z13, .ref z14, .ref z15, .int z16, .ref z17, .int z18, .ref z19]))] := hD
  subst hw
  refine lv_if_ne (tgt := 20) hx hb dX13_unseal_11 (by decide) (fun c_4 => absurd c_4 (by decide)) (fun _ => ?_)
  refine lv_aload_n hx hb dX13_unseal_14 rfl (lv_at hl 0 rfl) ?_
  refine lv_iconst (v := 1) hx hb dX13_unseal_15 (by decide) ?_
  have hPc := hP.sub (ws' := [(za, .inr (13, [.int 0, .ref z1, .int 0, .int 0, .int z4, .int z5, .ref z6, .ref z7, .ref z8, .ref z9, .int z10, .ref z11, .ref z12, .ref z13, .ref z14, .ref z15, .int z16, .ref z17, .int z18, .ref z19]))]) [0] rfl
  have hDc := hD.sub (ws' := [(za, .inr (13, [.int 0, .ref z1, .int 0, .int 0, .int z4, .int z5, .ref z6, .ref z7, .ref z8, .ref z9, .int z10, .ref z11, .ref z12, .ref z13, .ref z14, .ref z15, .int z16, .ref z17, .int z18, .ref z19]))]) [0] (by decide) rfl
  have hKc := hK.sub (tys' := []) [] rfl
  have hFc := va_free (wc := [(za, .inr (13, [.int 0, .ref z1, .int 0, .int 0, .int z4, .int z5, .ref z6, .ref z7, .ref z8, .ref z9, .int z10, .ref z11, .ref z12, .ref z13, .ref z14, .ref z15, .int z16, .ref z17, .int z18, .ref z19]))]) hD hS hA [0] rfl
  refine va_calli (va_runV (As := [.int 1]) (rest := []) ⟨hx, hb, hml, hown, hg⟩ (m_refused l D H_2.size za 0 z1 0 0 z4 z5 z6 z7 z8 z9 z10 z11 z12 z13 z14 z15 z16 z17 z18 z19 1) (cwV 1 hg (gV wd_150 wd_151 wd_152 wd_147 wd_153) rfl rfl rfl (by decide +kernel) ⟨(Nat.le_of_ble_eq_true rfl), (Nat.le_of_ble_eq_true rfl)⟩) ⟨Pr.blind, va_recv hKc hPc (ci := 13) (q0 := 0) rfl rfl, fun U hU hW => ⟨rfl, Pr.at hPc hKc hDc hN hU hW⟩⟩ rfl rfl hl.1 rfl (lv_room (Nat.le_of_ble_eq_true rfl)) dX13_unseal_16 ⟨(Nat.le_of_ble_eq_true rfl), (Nat.le_of_ble_eq_true rfl)⟩) hS (fun q _ h => hFc q h) hFc (fun r_6 u t H_5 locs ht hvm hw hB hz1 hk1 hS => ?_)
  obtain ⟨hP1, hK1, hD1⟩ := hB
  rw [ht] at hP1
  have hK1 := va_K.moved hvm.symm hK1
  obtain ⟨hP, hD⟩ := va_join (wr := []) (w1 := [(za, .inr (13, [.int 0, .ref z1, .int 0, .int 0, .int 1, .int (-1), .ref z6, .ref z7, .ref z8, .ref z9, .int z10, .ref z11, .ref z12, .ref z13, .ref z14, .ref z15, .int z16, .ref z17, .int z18, .ref z19]))]) hP hD [0] [] rfl rfl (by decide) (by decide) hk1 hFc hP1 hD1
  have hP : va_P D vwCl [(za, .inr (13, [.int 0, .ref z1, .int 0, .int 0, .int 1, .int (-1), .ref z6, .ref z7, .ref z8, .ref z9, .int z10, .ref z11, .ref z12, .ref z13, .ref z14, .ref z15, .int z16, .ref z17, .int z18, .ref z19]))] H_5 := hP
  have hD : va_D A [(za, .inr (13, [.int 0, .ref z1, .int 0, .int 0, .int 1, .int (-1), .ref z6, .ref z7, .ref z8, .ref z9, .int z10, .ref z11, .ref z12, .ref z13, .ref z14, .ref z15, .int z16, .ref z17, .int z18, .ref z19]))] := hD
  subst hw
  exact W.iret (v := (-1)) hx hb hr (fun t ht hW => ⟨⟨(-1), (), rfl, rfl, trivial⟩, hS.F ht⟩) hS.2.2 dX13_unseal_19
set_option maxHeartbeats 4000000 in
set_option maxRecDepth 100000 in
theorem m_holds (l : Launch) (D : va_G) (sz : Nat) (za : Nat) (z0 : Int32) (z1 : Nat) (z4 : Int32) (z5 : Int32) (z6 : Nat) (z7 : Nat) (z8 : Nat) (z9 : Nat) (z10 : Int32) (z11 : Nat) (z12 : Nat) (z13 : Nat) (z14 : Nat) (z15 : Nat) (z16 : Int32) (z17 : Nat) (z18 : Int32) (z19 : Nat) (k1 : Int32) (k2 : Int32) : Met l yX13_holds (wsM yX13_holds cX13_holds 4 (some .int)) ({ frames := 2, cells := 0, slots := 0, locals := 43 }) (va_Pc [.ref za, .int k1, .int k2] (Pr D [(za, .inr (13, [.int z0, .ref z1, .int 0, .int 0, .int z4, .int z5, .ref z6, .ref z7, .ref z8, .ref z9, .int z10, .ref z11, .ref z12, .ref z13, .ref z14, .ref z15, .int z16, .ref z17, .int z18, .ref z19]))] [] sz)) (va_Qi (fun (r : Int32) (_ : Unit) => r = (-1)) (fun _ _ => True) (va_A [(za, .inr (13, [.int z0, .ref z1, .int 0, .int 0, .int z4, .int z5, .ref z6, .ref z7, .ref z8, .ref z9, .int z10, .ref z11, .ref z12, .ref z13, .ref z14, .ref z15, .int z16, .ref z17, .int z18, .ref z19]))] sz)) 0 0 (va_A [(za, .inr (13, [.int z0, .ref z1, .int 0, .int 0, .int z4, .int z5, .ref z6, .ref z7, .ref z8, .ref z9, .int z10, .ref z11, .ref z12, .ref z13, .ref z14, .ref z15, .int z16, .ref z17, .int z18, .ref z19]))] sz) := by
  refine Met.ofW (cc := cX13_holds) (maxL := 4) (ret := (some .int)) (by decide) rfl ?_
  intro p e s m args below meth c s₁ B hml hv
  obtain ⟨rfl, hsz, hP, hK, hD0, hN⟩ := hv
  have hx := B.exec
  have hb := B.bytes
  have hr := B.returns
  have hts := atoms_spec (ws := (wsM yX13_holds cX13_holds 4 (some .int))) B.pre
  have hg : ∀ w ∈ lw_good, w.before _ s = true := fun w h => hts w (List.mem_cons_of_mem _ h)
  have hown : s.vm.findClass RX13 = some m.cls := findClass_of_methodNamed B.named
  have hlocks := B.notSynchronized
  subst hsz
  have hD := hD0.self (sz := s.heap.size)
  generalize hAe : va_A [(za, .inr (13, [.int z0, .ref z1, .int 0, .int 0, .int z4, .int z5, .ref z6, .ref z7, .ref z8, .ref z9, .int z10, .ref z11, .ref z12, .ref z13, .ref z14, .ref z15, .int z16, .ref z17, .int z18, .ref z19]))] s.heap.size = A at hD ⊢
  have hA : ∀ q : Nat, s.heap.size ≤ q → A q := fun q h => by rw [← hAe]; exact Or.inr h
  have hS : va_S A s.heap s.heap [] := va_S.rf
  have hP : va_P D vwCl [(za, .inr (13, [.int z0, .ref z1, .int 0, .int 0, .int z4, .int z5, .ref z6, .ref z7, .ref z8, .ref z9, .int z10, .ref z11, .ref z12, .ref z13, .ref z14, .ref z15, .int z16, .ref z17, .int z18, .ref z19]))] s.heap := hP
  have hl := lv_entry ([.ref za, .int k1, .int k2]) (n := 4) (Nat.le_of_ble_eq_true rfl)
  rw [lg_entry_eq]
  generalize (lg_sl ([.ref za, .int k1, .int k2]) ++ List.replicate (4 - (lg_sl ([.ref za, .int k1, .int k2])).length) Slot.unset).toArray = ls at hl ⊢
  have hl : lv_has ls 4 [(0, .ref za), (1, .int k1), (2, .int k2)] := hl
  refine lv_aload_n hx hb dX13_holds_0 rfl (lv_at hl 0 rfl) ?_
  refine lv_iconst (v := 0) hx hb dX13_holds_1 (by decide) ?_
  refine va_put (D := D) (ci := 13) (v := .int 0) (ty := .int) (C := RX13) (T := TX13) (N := 20) hx hb hg inG13 tyX13 tyX13_ok nmX13 hown hK hP hD hS 0 rfl rfl 0 (by decide) (hg _ wd_149) (fun _ h9 => h9) rfl (by decide +kernel) rfl rfl (Nat.le_of_ble_eq_true rfl) dX13_holds_2 (fun H_1 locs hP hD hS => ?_)
  have hP : va_P D vwCl [(za, .inr (13, [.int 0, .ref z1, .int 0, .int 0, .int z4, .int z5, .ref z6, .ref z7, .ref z8, .ref z9, .int z10, .ref z11, .ref z12, .ref z13, .ref z14, .ref z15, .int z16, .ref z17, .int z18, .ref z19]))] H_1 := hP
  have hD : va_D A [(za, .inr (13, [.int 0, .ref z1, .int 0, .int 0, .int z4, .int z5, .ref z6, .ref z7, .ref z8, .ref z9, .int z10, .ref z11, .ref z12, .ref z13, .ref z14, .ref z15, .int z16, .ref z17, .int z18, .ref z19]))] := hD
  refine lv_aload_n hx hb dX13_holds_5 rfl (lv_at hl 0 rfl) ?_
  refine lv_iload_n hx hb dX13_holds_6 rfl (lv_at hl 1 rfl) ?_
  refine lv_iload_n hx hb dX13_holds_7 rfl (lv_at hl 2 rfl) ?_
  have hPc := hP.sub (ws' := [(za, .inr (13, [.int 0, .ref z1, .int 0, .int 0, .int z4, .int z5, .ref z6, .ref z7, .ref z8, .ref z9, .int z10, .ref z11, .ref z12, .ref z13, .ref z14, .ref z15, .int z16, .ref z17, .int z18, .ref z19]))]) [0] rfl
  have hDc := hD.sub (ws' := [(za, .inr (13, [.int 0, .ref z1, .int 0, .int 0, .int z4, .int z5, .ref z6, .ref z7, .ref z8, .ref z9, .int z10, .ref z11, .ref z12, .ref z13, .ref z14, .ref z15, .int z16, .ref z17, .int z18, .ref z19]))]) [0] (by decide) rfl
  have hKc := hK.sub (tys' := []) [] rfl
  have hFc := va_free (wc := [(za, .inr (13, [.int 0, .ref z1, .int 0, .int 0, .int z4, .int z5, .ref z6, .ref z7, .ref z8, .ref z9, .int z10, .ref z11, .ref z12, .ref z13, .ref z14, .ref z15, .int z16, .ref z17, .int z18, .ref z19]))]) hD hS hA [0] rfl
  refine va_calli (va_runV (As := [.int k1, .int k2]) (rest := []) ⟨hx, hb, hml, hown, hg⟩ (m_isSeat0 l D H_1.size za 0 z1 0 z4 z5 z6 z7 z8 z9 z10 z11 z12 z13 z14 z15 z16 z17 z18 z19 k1 k2) (cwV 2 hg (gV wd_154 wd_155 wd_156 wd_147 wd_157) rfl rfl rfl (by decide +kernel) ⟨(Nat.le_of_ble_eq_true rfl), (Nat.le_of_ble_eq_true rfl)⟩) ⟨Pr.blind, va_recv hKc hPc (ci := 13) (q0 := 0) rfl rfl, fun U hU hW => ⟨rfl, Pr.at hPc hKc hDc hN hU hW⟩⟩ rfl rfl hl.1 rfl (lv_room (Nat.le_of_ble_eq_true rfl)) dX13_holds_8 ⟨(Nat.le_of_ble_eq_true rfl), (Nat.le_of_ble_eq_true rfl)⟩) hS (fun q _ h => hFc q h) hFc (fun r_3 u t H_2 locs ht hvm hw hB hz1 hk1 hS => ?_)
  obtain ⟨hP1, hK1, hD1⟩ := hB
  rw [ht] at hP1
  have hK1 := va_K.moved hvm.symm hK1
  obtain ⟨hP, hD⟩ := va_join (wr := []) (w1 := [(za, .inr (13, [.int 0, .ref z1, .int 0, .int 0, .int z4, .int z5, .ref z6, .ref z7, .ref z8, .ref z9, .int z10, .ref z11, .ref z12, .ref z13, .ref z14, .ref z15, .int z16, .ref z17, .int z18, .ref z19]))]) hP hD [0] [] rfl rfl (by decide) (by decide) hk1 hFc hP1 hD1
  have hP : va_P D vwCl [(za, .inr (13, [.int 0, .ref z1, .int 0, .int 0, .int z4, .int z5, .ref z6, .ref z7, .ref z8, .ref z9, .int z10, .ref z11, .ref z12, .ref z13, .ref z14, .ref z15, .int z16, .ref z17, .int z18, .ref z19]))] H_2 := hP
  have hD : va_D A [(za, .inr (13, [.int 0, .ref z1, .int 0, .int 0, .int z4, .int z5, .ref z6, .ref z7, .ref z8, .ref z9, .int z10, .ref z11, .ref z12, .ref z13, .ref z14, .ref z15, .int z16, .ref z17, .int z18, .ref z19]))] := hD
  subst hw
  refine lv_if_ne (tgt := 20) hx hb dX13_holds_11 (by decide) (fun c_4 => absurd c_4 (by decide)) (fun _ => ?_)
  refine lv_aload_n hx hb dX13_holds_14 rfl (lv_at hl 0 rfl) ?_
  refine lv_iconst (v := 1) hx hb dX13_holds_15 (by decide) ?_
  have hPc := hP.sub (ws' := [(za, .inr (13, [.int 0, .ref z1, .int 0, .int 0, .int z4, .int z5, .ref z6, .ref z7, .ref z8, .ref z9, .int z10, .ref z11, .ref z12, .ref z13, .ref z14, .ref z15, .int z16, .ref z17, .int z18, .ref z19]))]) [0] rfl
  have hDc := hD.sub (ws' := [(za, .inr (13, [.int 0, .ref z1, .int 0, .int 0, .int z4, .int z5, .ref z6, .ref z7, .ref z8, .ref z9, .int z10, .ref z11, .ref z12, .ref z13, .ref z14, .ref z15, .int z16, .ref z17, .int z18, .ref z19]))]) [0] (by decide) rfl
  have hKc := hK.sub (tys' := []) [] rfl
  have hFc := va_free (wc := [(za, .inr (13, [.int 0, .ref z1, .int 0, .int 0, .int z4, .int z5, .ref z6, .ref z7, .ref z8, .ref z9, .int z10, .ref z11, .ref z12, .ref z13, .ref z14, .ref z15, .int z16, .ref z17, .int z18, .ref z19]))]) hD hS hA [0] rfl
  refine va_calli (va_runV (As := [.int 1]) (rest := []) ⟨hx, hb, hml, hown, hg⟩ (m_refused l D H_2.size za 0 z1 0 0 z4 z5 z6 z7 z8 z9 z10 z11 z12 z13 z14 z15 z16 z17 z18 z19 1) (cwV 1 hg (gV wd_150 wd_151 wd_152 wd_147 wd_153) rfl rfl rfl (by decide +kernel) ⟨(Nat.le_of_ble_eq_true rfl), (Nat.le_of_ble_eq_true rfl)⟩) ⟨Pr.blind, va_recv hKc hPc (ci := 13) (q0 := 0) rfl rfl, fun U hU hW => ⟨rfl, Pr.at hPc hKc hDc hN hU hW⟩⟩ rfl rfl hl.1 rfl (lv_room (Nat.le_of_ble_eq_true rfl)) dX13_holds_16 ⟨(Nat.le_of_ble_eq_true rfl), (Nat.le_of_ble_eq_true rfl)⟩) hS (fun q _ h => hFc q h) hFc (fun r_6 u t H_5 locs ht hvm hw hB hz1 hk1 hS => ?_)
  obtain ⟨hP1, hK1, hD1⟩ := hB
  rw [ht] at hP1
  have hK1 := va_K.moved hvm.symm hK1
  obtain ⟨hP, hD⟩ := va_join (wr := []) (w1 := [(za, .inr (13, [.int 0, .ref z1, .int 0, .int 0, .int 1, .int (-1), .ref z6, .ref z7, .ref z8, .ref z9, .int z10, .ref z11, .ref z12, .ref z13, .ref z14, .ref z15, .int z16, .ref z17, .int z18, .ref z19]))]) hP hD [0] [] rfl rfl (by decide) (by decide) hk1 hFc hP1 hD1
  have hP : va_P D vwCl [(za, .inr (13, [.int 0, .ref z1, .int 0, .int 0, .int 1, .int (-1), .ref z6, .ref z7, .ref z8, .ref z9, .int z10, .ref z11, .ref z12, .ref z13, .ref z14, .ref z15, .int z16, .ref z17, .int z18, .ref z19]))] H_5 := hP
  have hD : va_D A [(za, .inr (13, [.int 0, .ref z1, .int 0, .int 0, .int 1, .int (-1), .ref z6, .ref z7, .ref z8, .ref z9, .int z10, .ref z11, .ref z12, .ref z13, .ref z14, .ref z15, .int z16, .ref z17, .int z18, .ref z19]))] := hD
  subst hw
  exact W.iret (v := (-1)) hx hb hr (fun t ht hW => ⟨⟨(-1), (), rfl, rfl, trivial⟩, hS.F ht⟩) hS.2.2 dX13_holds_19
set_option maxHeartbeats 4000000 in
set_option maxRecDepth 100000 in
theorem m_join (l : Launch) (D : va_G) (sz : Nat) (za : Nat) (z0 : Int32) (z1 : Nat) (z4 : Int32) (z5 : Int32) (z6 : Nat) (z7 : Nat) (z8 : Nat) (z9 : Nat) (z10 : Int32) (z11 : Nat) (z12 : Nat) (z13 : Nat) (z14 : Nat) (z15 : Nat) (z16 : Int32) (z17 : Nat) (z18 : Int32) (z19 : Nat) (k1 : Int32) (k2 : Int32) (k3 : Int32) (k4 : Int32) (k5 : Int32) : Met l yX13_join (wsM yX13_join cX13_join 9 (some .int)) ({ frames := 2, cells := 0, slots := 0, locals := 43 }) (va_Pc [.ref za, .int k1, .int k2, .int k3, .int k4, .int k5] (Pr D [(za, .inr (13, [.int z0, .ref z1, .int 0, .int 0, .int z4, .int z5, .ref z6, .ref z7, .ref z8, .ref z9, .int z10, .ref z11, .ref z12, .ref z13, .ref z14, .ref z15, .int z16, .ref z17, .int z18, .ref z19]))] [] sz)) (va_Qi (fun (r : Int32) (_ : Unit) => r = (-1)) (fun _ _ => True) (va_A [(za, .inr (13, [.int z0, .ref z1, .int 0, .int 0, .int z4, .int z5, .ref z6, .ref z7, .ref z8, .ref z9, .int z10, .ref z11, .ref z12, .ref z13, .ref z14, .ref z15, .int z16, .ref z17, .int z18, .ref z19]))] sz)) 0 0 (va_A [(za, .inr (13, [.int z0, .ref z1, .int 0, .int 0, .int z4, .int z5, .ref z6, .ref z7, .ref z8, .ref z9, .int z10, .ref z11, .ref z12, .ref z13, .ref z14, .ref z15, .int z16, .ref z17, .int z18, .ref z19]))] sz) := by
  refine Met.ofW (cc := cX13_join) (maxL := 9) (ret := (some .int)) (by decide) rfl ?_
  intro p e s m args below meth c s₁ B hml hv
  obtain ⟨rfl, hsz, hP, hK, hD0, hN⟩ := hv
  have hx := B.exec
  have hb := B.bytes
  have hr := B.returns
  have hts := atoms_spec (ws := (wsM yX13_join cX13_join 9 (some .int))) B.pre
  have hg : ∀ w ∈ lw_good, w.before _ s = true := fun w h => hts w (List.mem_cons_of_mem _ h)
  have hown : s.vm.findClass RX13 = some m.cls := findClass_of_methodNamed B.named
  have hlocks := B.notSynchronized
  subst hsz
  have hD := hD0.self (sz := s.heap.size)
  generalize hAe : va_A [(za, .inr (13, [.int z0, .ref z1, .int 0, .int 0, .int z4, .int z5, .ref z6, .ref z7, .ref z8, .ref z9, .int z10, .ref z11, .ref z12, .ref z13, .ref z14, .ref z15, .int z16, .ref z17, .int z18, .ref z19]))] s.heap.size = A at hD ⊢
  have hA : ∀ q : Nat, s.heap.size ≤ q → A q := fun q h => by rw [← hAe]; exact Or.inr h
  have hS : va_S A s.heap s.heap [] := va_S.rf
  have hP : va_P D vwCl [(za, .inr (13, [.int z0, .ref z1, .int 0, .int 0, .int z4, .int z5, .ref z6, .ref z7, .ref z8, .ref z9, .int z10, .ref z11, .ref z12, .ref z13, .ref z14, .ref z15, .int z16, .ref z17, .int z18, .ref z19]))] s.heap := hP
  have hl := lv_entry ([.ref za, .int k1, .int k2, .int k3, .int k4, .int k5]) (n := 9) (Nat.le_of_ble_eq_true rfl)
  rw [lg_entry_eq]
  generalize (lg_sl ([.ref za, .int k1, .int k2, .int k3, .int k4, .int k5]) ++ List.replicate (9 - (lg_sl ([.ref za, .int k1, .int k2, .int k3, .int k4, .int k5])).length) Slot.unset).toArray = ls at hl ⊢
  have hl : lv_has ls 9 [(0, .ref za), (1, .int k1), (2, .int k2), (3, .int k3), (4, .int k4), (5, .int k5)] := hl
  refine lv_aload_n hx hb dX13_join_0 rfl (lv_at hl 0 rfl) ?_
  refine lv_iconst (v := 0) hx hb dX13_join_1 (by decide) ?_
  refine va_put (D := D) (ci := 13) (v := .int 0) (ty := .int) (C := RX13) (T := TX13) (N := 20) hx hb hg inG13 tyX13 tyX13_ok nmX13 hown hK hP hD hS 0 rfl rfl 0 (by decide) (hg _ wd_149) (fun _ h9 => h9) rfl (by decide +kernel) rfl rfl (Nat.le_of_ble_eq_true rfl) dX13_join_2 (fun H_1 locs hP hD hS => ?_)
  have hP : va_P D vwCl [(za, .inr (13, [.int 0, .ref z1, .int 0, .int 0, .int z4, .int z5, .ref z6, .ref z7, .ref z8, .ref z9, .int z10, .ref z11, .ref z12, .ref z13, .ref z14, .ref z15, .int z16, .ref z17, .int z18, .ref z19]))] H_1 := hP
  have hD : va_D A [(za, .inr (13, [.int 0, .ref z1, .int 0, .int 0, .int z4, .int z5, .ref z6, .ref z7, .ref z8, .ref z9, .int z10, .ref z11, .ref z12, .ref z13, .ref z14, .ref z15, .int z16, .ref z17, .int z18, .ref z19]))] := hD
  refine lv_aload_n hx hb dX13_join_5 rfl (lv_at hl 0 rfl) ?_
  refine lv_iconst (v := 0) hx hb dX13_join_6 (by decide) ?_
  refine va_put (D := D) (ci := 13) (v := .int 0) (ty := .int) (C := RX13) (T := TX13) (N := 20) hx hb hg inG13 tyX13 tyX13_ok nmX13 hown hK hP hD hS 0 rfl rfl 10 (by decide) (hg _ wd_158) (fun _ h9 => h9) rfl (by decide +kernel) rfl rfl (Nat.le_of_ble_eq_true rfl) dX13_join_7 (fun H_2 locs hP hD hS => ?_)
  have hP : va_P D vwCl [(za, .inr (13, [.int 0, .ref z1, .int 0, .int 0, .int z4, .int z5, .ref z6, .ref z7, .ref z8, .ref z9, .int 0, .ref z11, .ref z12, .ref z13, .ref z14, .ref z15, .int z16, .ref z17, .int z18, .ref z19]))] H_2 := hP
  have hD : va_D A [(za, .inr (13, [.int 0, .ref z1, .int 0, .int 0, .int z4, .int z5, .ref z6, .ref z7, .ref z8, .ref z9, .int 0, .ref z11, .ref z12, .ref z13, .ref z14, .ref z15, .int z16, .ref z17, .int z18, .ref z19]))] := hD
  refine lv_aload_n hx hb dX13_join_10 rfl (lv_at hl 0 rfl) ?_
  refine lv_iload_n hx hb dX13_join_11 rfl (lv_at hl 1 rfl) ?_
  refine lv_iload_n hx hb dX13_join_12 rfl (lv_at hl 2 rfl) ?_
  have hPc := hP.sub (ws' := [(za, .inr (13, [.int 0, .ref z1, .int 0, .int 0, .int z4, .int z5, .ref z6, .ref z7, .ref z8, .ref z9, .int 0, .ref z11, .ref z12, .ref z13, .ref z14, .ref z15, .int z16, .ref z17, .int z18, .ref z19]))]) [0] rfl
  have hDc := hD.sub (ws' := [(za, .inr (13, [.int 0, .ref z1, .int 0, .int 0, .int z4, .int z5, .ref z6, .ref z7, .ref z8, .ref z9, .int 0, .ref z11, .ref z12, .ref z13, .ref z14, .ref z15, .int z16, .ref z17, .int z18, .ref z19]))]) [0] (by decide) rfl
  have hKc := hK.sub (tys' := []) [] rfl
  have hFc := va_free (wc := [(za, .inr (13, [.int 0, .ref z1, .int 0, .int 0, .int z4, .int z5, .ref z6, .ref z7, .ref z8, .ref z9, .int 0, .ref z11, .ref z12, .ref z13, .ref z14, .ref z15, .int z16, .ref z17, .int z18, .ref z19]))]) hD hS hA [0] rfl
  refine va_calli (va_runV (As := [.int k1, .int k2]) (rest := []) ⟨hx, hb, hml, hown, hg⟩ (m_isSeat0 l D H_2.size za 0 z1 0 z4 z5 z6 z7 z8 z9 0 z11 z12 z13 z14 z15 z16 z17 z18 z19 k1 k2) (cwV 2 hg (gV wd_154 wd_155 wd_156 wd_147 wd_157) rfl rfl rfl (by decide +kernel) ⟨(Nat.le_of_ble_eq_true rfl), (Nat.le_of_ble_eq_true rfl)⟩) ⟨Pr.blind, va_recv hKc hPc (ci := 13) (q0 := 0) rfl rfl, fun U hU hW => ⟨rfl, Pr.at hPc hKc hDc hN hU hW⟩⟩ rfl rfl hl.1 rfl (lv_room (Nat.le_of_ble_eq_true rfl)) dX13_join_13 ⟨(Nat.le_of_ble_eq_true rfl), (Nat.le_of_ble_eq_true rfl)⟩) hS (fun q _ h => hFc q h) hFc (fun r_4 u t H_3 locs ht hvm hw hB hz1 hk1 hS => ?_)
  obtain ⟨hP1, hK1, hD1⟩ := hB
  rw [ht] at hP1
  have hK1 := va_K.moved hvm.symm hK1
  obtain ⟨hP, hD⟩ := va_join (wr := []) (w1 := [(za, .inr (13, [.int 0, .ref z1, .int 0, .int 0, .int z4, .int z5, .ref z6, .ref z7, .ref z8, .ref z9, .int 0, .ref z11, .ref z12, .ref z13, .ref z14, .ref z15, .int z16, .ref z17, .int z18, .ref z19]))]) hP hD [0] [] rfl rfl (by decide) (by decide) hk1 hFc hP1 hD1
  have hP : va_P D vwCl [(za, .inr (13, [.int 0, .ref z1, .int 0, .int 0, .int z4, .int z5, .ref z6, .ref z7, .ref z8, .ref z9, .int 0, .ref z11, .ref z12, .ref z13, .ref z14, .ref z15, .int z16, .ref z17, .int z18, .ref z19]))] H_3 := hP
  have hD : va_D A [(za, .inr (13, [.int 0, .ref z1, .int 0, .int 0, .int z4, .int z5, .ref z6, .ref z7, .ref z8, .ref z9, .int 0, .ref z11, .ref z12, .ref z13, .ref z14, .ref z15, .int z16, .ref z17, .int z18, .ref z19]))] := hD
  subst hw
  refine lv_if_eq (tgt := 31) hx hb dX13_join_16 (by decide) (fun _ => ?_) (fun c_5 => absurd c_5 (by decide))
  refine lv_aload_n hx hb dX13_join_31 rfl (lv_at hl 0 rfl) ?_
  refine lv_iconst (v := 1) hx hb dX13_join_32 (by decide) ?_
  have hPc := hP.sub (ws' := [(za, .inr (13, [.int 0, .ref z1, .int 0, .int 0, .int z4, .int z5, .ref z6, .ref z7, .ref z8, .ref z9, .int 0, .ref z11, .ref z12, .ref z13, .ref z14, .ref z15, .int z16, .ref z17, .int z18, .ref z19]))]) [0] rfl
  have hDc := hD.sub (ws' := [(za, .inr (13, [.int 0, .ref z1, .int 0, .int 0, .int z4, .int z5, .ref z6, .ref z7, .ref z8, .ref z9, .int 0, .ref z11, .ref z12, .ref z13, .ref z14, .ref z15, .int z16, .ref z17, .int z18, .ref z19]))]) [0] (by decide) rfl
  have hKc := hK.sub (tys' := []) [] rfl
  have hFc := va_free (wc := [(za, .inr (13, [.int 0, .ref z1, .int 0, .int 0, .int z4, .int z5, .ref z6, .ref z7, .ref z8, .ref z9, .int 0, .ref z11, .ref z12, .ref z13, .ref z14, .ref z15, .int z16, .ref z17, .int z18, .ref z19]))]) hD hS hA [0] rfl
  refine va_calli (va_runV (As := [.int 1]) (rest := []) ⟨hx, hb, hml, hown, hg⟩ (m_refused l D H_3.size za 0 z1 0 0 z4 z5 z6 z7 z8 z9 0 z11 z12 z13 z14 z15 z16 z17 z18 z19 1) (cwV 1 hg (gV wd_150 wd_151 wd_152 wd_147 wd_153) rfl rfl rfl (by decide +kernel) ⟨(Nat.le_of_ble_eq_true rfl), (Nat.le_of_ble_eq_true rfl)⟩) ⟨Pr.blind, va_recv hKc hPc (ci := 13) (q0 := 0) rfl rfl, fun U hU hW => ⟨rfl, Pr.at hPc hKc hDc hN hU hW⟩⟩ rfl rfl hl.1 rfl (lv_room (Nat.le_of_ble_eq_true rfl)) dX13_join_33 ⟨(Nat.le_of_ble_eq_true rfl), (Nat.le_of_ble_eq_true rfl)⟩) hS (fun q _ h => hFc q h) hFc (fun r_7 u t H_6 locs ht hvm hw hB hz1 hk1 hS => ?_)
  obtain ⟨hP1, hK1, hD1⟩ := hB
  rw [ht] at hP1
  have hK1 := va_K.moved hvm.symm hK1
  obtain ⟨hP, hD⟩ := va_join (wr := []) (w1 := [(za, .inr (13, [.int 0, .ref z1, .int 0, .int 0, .int 1, .int (-1), .ref z6, .ref z7, .ref z8, .ref z9, .int 0, .ref z11, .ref z12, .ref z13, .ref z14, .ref z15, .int z16, .ref z17, .int z18, .ref z19]))]) hP hD [0] [] rfl rfl (by decide) (by decide) hk1 hFc hP1 hD1
  have hP : va_P D vwCl [(za, .inr (13, [.int 0, .ref z1, .int 0, .int 0, .int 1, .int (-1), .ref z6, .ref z7, .ref z8, .ref z9, .int 0, .ref z11, .ref z12, .ref z13, .ref z14, .ref z15, .int z16, .ref z17, .int z18, .ref z19]))] H_6 := hP
  have hD : va_D A [(za, .inr (13, [.int 0, .ref z1, .int 0, .int 0, .int 1, .int (-1), .ref z6, .ref z7, .ref z8, .ref z9, .int 0, .ref z11, .ref z12, .ref z13, .ref z14, .ref z15, .int z16, .ref z17, .int z18, .ref z19]))] := hD
  subst hw
  exact W.iret (v := (-1)) hx hb hr (fun t ht hW => ⟨⟨(-1), (), rfl, rfl, trivial⟩, hS.F ht⟩) hS.2.2 dX13_join_36
set_option maxHeartbeats 4000000 in
set_option maxRecDepth 100000 in
theorem m_leave (l : Launch) (D : va_G) (sz : Nat) (za : Nat) (z0 : Int32) (z1 : Nat) (z4 : Int32) (z5 : Int32) (z6 : Nat) (z7 : Nat) (z8 : Nat) (z9 : Nat) (z10 : Int32) (z11 : Nat) (z12 : Nat) (z13 : Nat) (z14 : Nat) (z15 : Nat) (z16 : Int32) (z17 : Nat) (z18 : Int32) (z19 : Nat) (k1 : Int32) (k2 : Int32) (k3 : Int32) (k4 : Int32) (k5 : Int32) : Met l yX13_leave (wsM yX13_leave cX13_leave 8 (some .int)) ({ frames := 2, cells := 0, slots := 0, locals := 43 }) (va_Pc [.ref za, .int k1, .int k2, .int k3, .int k4, .int k5] (Pr D [(za, .inr (13, [.int z0, .ref z1, .int 0, .int 0, .int z4, .int z5, .ref z6, .ref z7, .ref z8, .ref z9, .int z10, .ref z11, .ref z12, .ref z13, .ref z14, .ref z15, .int z16, .ref z17, .int z18, .ref z19]))] [] sz)) (va_Qi (fun (r : Int32) (_ : Unit) => r = (-1)) (fun _ _ => True) (va_A [(za, .inr (13, [.int z0, .ref z1, .int 0, .int 0, .int z4, .int z5, .ref z6, .ref z7, .ref z8, .ref z9, .int z10, .ref z11, .ref z12, .ref z13, .ref z14, .ref z15, .int z16, .ref z17, .int z18, .ref z19]))] sz)) 0 0 (va_A [(za, .inr (13, [.int z0, .ref z1, .int 0, .int 0, .int z4, .int z5, .ref z6, .ref z7, .ref z8, .ref z9, .int z10, .ref z11, .ref z12, .ref z13, .ref z14, .ref z15, .int z16, .ref z17, .int z18, .ref z19]))] sz) := by
  refine Met.ofW (cc := cX13_leave) (maxL := 8) (ret := (some .int)) (by decide) rfl ?_
  intro p e s m args below meth c s₁ B hml hv
  obtain ⟨rfl, hsz, hP, hK, hD0, hN⟩ := hv
  have hx := B.exec
  have hb := B.bytes
  have hr := B.returns
  have hts := atoms_spec (ws := (wsM yX13_leave cX13_leave 8 (some .int))) B.pre
  have hg : ∀ w ∈ lw_good, w.before _ s = true := fun w h => hts w (List.mem_cons_of_mem _ h)
  have hown : s.vm.findClass RX13 = some m.cls := findClass_of_methodNamed B.named
  have hlocks := B.notSynchronized
  subst hsz
  have hD := hD0.self (sz := s.heap.size)
  generalize hAe : va_A [(za, .inr (13, [.int z0, .ref z1, .int 0, .int 0, .int z4, .int z5, .ref z6, .ref z7, .ref z8, .ref z9, .int z10, .ref z11, .ref z12, .ref z13, .ref z14, .ref z15, .int z16, .ref z17, .int z18, .ref z19]))] s.heap.size = A at hD ⊢
  have hA : ∀ q : Nat, s.heap.size ≤ q → A q := fun q h => by rw [← hAe]; exact Or.inr h
  have hS : va_S A s.heap s.heap [] := va_S.rf
  have hP : va_P D vwCl [(za, .inr (13, [.int z0, .ref z1, .int 0, .int 0, .int z4, .int z5, .ref z6, .ref z7, .ref z8, .ref z9, .int z10, .ref z11, .ref z12, .ref z13, .ref z14, .ref z15, .int z16, .ref z17, .int z18, .ref z19]))] s.heap := hP
  have hl := lv_entry ([.ref za, .int k1, .int k2, .int k3, .int k4, .int k5]) (n := 8) (Nat.le_of_ble_eq_true rfl)
  rw [lg_entry_eq]
  generalize (lg_sl ([.ref za, .int k1, .int k2, .int k3, .int k4, .int k5]) ++ List.replicate (8 - (lg_sl ([.ref za, .int k1, .int k2, .int k3, .int k4, .int k5])).length) Slot.unset).toArray = ls at hl ⊢
  have hl : lv_has ls 8 [(0, .ref za), (1, .int k1), (2, .int k2), (3, .int k3), (4, .int k4), (5, .int k5)] := hl
  refine lv_aload_n hx hb dX13_leave_0 rfl (lv_at hl 0 rfl) ?_
  refine lv_iconst (v := 0) hx hb dX13_leave_1 (by decide) ?_
  refine va_put (D := D) (ci := 13) (v := .int 0) (ty := .int) (C := RX13) (T := TX13) (N := 20) hx hb hg inG13 tyX13 tyX13_ok nmX13 hown hK hP hD hS 0 rfl rfl 0 (by decide) (hg _ wd_149) (fun _ h9 => h9) rfl (by decide +kernel) rfl rfl (Nat.le_of_ble_eq_true rfl) dX13_leave_2 (fun H_1 locs hP hD hS => ?_)
  have hP : va_P D vwCl [(za, .inr (13, [.int 0, .ref z1, .int 0, .int 0, .int z4, .int z5, .ref z6, .ref z7, .ref z8, .ref z9, .int z10, .ref z11, .ref z12, .ref z13, .ref z14, .ref z15, .int z16, .ref z17, .int z18, .ref z19]))] H_1 := hP
  have hD : va_D A [(za, .inr (13, [.int 0, .ref z1, .int 0, .int 0, .int z4, .int z5, .ref z6, .ref z7, .ref z8, .ref z9, .int z10, .ref z11, .ref z12, .ref z13, .ref z14, .ref z15, .int z16, .ref z17, .int z18, .ref z19]))] := hD
  refine lv_aload_n hx hb dX13_leave_5 rfl (lv_at hl 0 rfl) ?_
  refine lv_iload_n hx hb dX13_leave_6 rfl (lv_at hl 1 rfl) ?_
  refine lv_iload_n hx hb dX13_leave_7 rfl (lv_at hl 2 rfl) ?_
  have hPc := hP.sub (ws' := [(za, .inr (13, [.int 0, .ref z1, .int 0, .int 0, .int z4, .int z5, .ref z6, .ref z7, .ref z8, .ref z9, .int z10, .ref z11, .ref z12, .ref z13, .ref z14, .ref z15, .int z16, .ref z17, .int z18, .ref z19]))]) [0] rfl
  have hDc := hD.sub (ws' := [(za, .inr (13, [.int 0, .ref z1, .int 0, .int 0, .int z4, .int z5, .ref z6, .ref z7, .ref z8, .ref z9, .int z10, .ref z11, .ref z12, .ref z13, .ref z14, .ref z15, .int z16, .ref z17, .int z18, .ref z19]))]) [0] (by decide) rfl
  have hKc := hK.sub (tys' := []) [] rfl
  have hFc := va_free (wc := [(za, .inr (13, [.int 0, .ref z1, .int 0, .int 0, .int z4, .int z5, .ref z6, .ref z7, .ref z8, .ref z9, .int z10, .ref z11, .ref z12, .ref z13, .ref z14, .ref z15, .int z16, .ref z17, .int z18, .ref z19]))]) hD hS hA [0] rfl
  refine va_calli (va_runV (As := [.int k1, .int k2]) (rest := []) ⟨hx, hb, hml, hown, hg⟩ (m_isSeat0 l D H_1.size za 0 z1 0 z4 z5 z6 z7 z8 z9 z10 z11 z12 z13 z14 z15 z16 z17 z18 z19 k1 k2) (cwV 2 hg (gV wd_154 wd_155 wd_156 wd_147 wd_157) rfl rfl rfl (by decide +kernel) ⟨(Nat.le_of_ble_eq_true rfl), (Nat.le_of_ble_eq_true rfl)⟩) ⟨Pr.blind, va_recv hKc hPc (ci := 13) (q0 := 0) rfl rfl, fun U hU hW => ⟨rfl, Pr.at hPc hKc hDc hN hU hW⟩⟩ rfl rfl hl.1 rfl (lv_room (Nat.le_of_ble_eq_true rfl)) dX13_leave_8 ⟨(Nat.le_of_ble_eq_true rfl), (Nat.le_of_ble_eq_true rfl)⟩) hS (fun q _ h => hFc q h) hFc (fun r_3 u t H_2 locs ht hvm hw hB hz1 hk1 hS => ?_)
  obtain ⟨hP1, hK1, hD1⟩ := hB
  rw [ht] at hP1
  have hK1 := va_K.moved hvm.symm hK1
  obtain ⟨hP, hD⟩ := va_join (wr := []) (w1 := [(za, .inr (13, [.int 0, .ref z1, .int 0, .int 0, .int z4, .int z5, .ref z6, .ref z7, .ref z8, .ref z9, .int z10, .ref z11, .ref z12, .ref z13, .ref z14, .ref z15, .int z16, .ref z17, .int z18, .ref z19]))]) hP hD [0] [] rfl rfl (by decide) (by decide) hk1 hFc hP1 hD1
  have hP : va_P D vwCl [(za, .inr (13, [.int 0, .ref z1, .int 0, .int 0, .int z4, .int z5, .ref z6, .ref z7, .ref z8, .ref z9, .int z10, .ref z11, .ref z12, .ref z13, .ref z14, .ref z15, .int z16, .ref z17, .int z18, .ref z19]))] H_2 := hP
  have hD : va_D A [(za, .inr (13, [.int 0, .ref z1, .int 0, .int 0, .int z4, .int z5, .ref z6, .ref z7, .ref z8, .ref z9, .int z10, .ref z11, .ref z12, .ref z13, .ref z14, .ref z15, .int z16, .ref z17, .int z18, .ref z19]))] := hD
  subst hw
  refine lv_if_ne (tgt := 20) hx hb dX13_leave_11 (by decide) (fun c_4 => absurd c_4 (by decide)) (fun _ => ?_)
  refine lv_aload_n hx hb dX13_leave_14 rfl (lv_at hl 0 rfl) ?_
  refine lv_iconst (v := 1) hx hb dX13_leave_15 (by decide) ?_
  have hPc := hP.sub (ws' := [(za, .inr (13, [.int 0, .ref z1, .int 0, .int 0, .int z4, .int z5, .ref z6, .ref z7, .ref z8, .ref z9, .int z10, .ref z11, .ref z12, .ref z13, .ref z14, .ref z15, .int z16, .ref z17, .int z18, .ref z19]))]) [0] rfl
  have hDc := hD.sub (ws' := [(za, .inr (13, [.int 0, .ref z1, .int 0, .int 0, .int z4, .int z5, .ref z6, .ref z7, .ref z8, .ref z9, .int z10, .ref z11, .ref z12, .ref z13, .ref z14, .ref z15, .int z16, .ref z17, .int z18, .ref z19]))]) [0] (by decide) rfl
  have hKc := hK.sub (tys' := []) [] rfl
  have hFc := va_free (wc := [(za, .inr (13, [.int 0, .ref z1, .int 0, .int 0, .int z4, .int z5, .ref z6, .ref z7, .ref z8, .ref z9, .int z10, .ref z11, .ref z12, .ref z13, .ref z14, .ref z15, .int z16, .ref z17, .int z18, .ref z19]))]) hD hS hA [0] rfl
  refine va_calli (va_runV (As := [.int 1]) (rest := []) ⟨hx, hb, hml, hown, hg⟩ (m_refused l D H_2.size za 0 z1 0 0 z4 z5 z6 z7 z8 z9 z10 z11 z12 z13 z14 z15 z16 z17 z18 z19 1) (cwV 1 hg (gV wd_150 wd_151 wd_152 wd_147 wd_153) rfl rfl rfl (by decide +kernel) ⟨(Nat.le_of_ble_eq_true rfl), (Nat.le_of_ble_eq_true rfl)⟩) ⟨Pr.blind, va_recv hKc hPc (ci := 13) (q0 := 0) rfl rfl, fun U hU hW => ⟨rfl, Pr.at hPc hKc hDc hN hU hW⟩⟩ rfl rfl hl.1 rfl (lv_room (Nat.le_of_ble_eq_true rfl)) dX13_leave_16 ⟨(Nat.le_of_ble_eq_true rfl), (Nat.le_of_ble_eq_true rfl)⟩) hS (fun q _ h => hFc q h) hFc (fun r_6 u t H_5 locs ht hvm hw hB hz1 hk1 hS => ?_)
  obtain ⟨hP1, hK1, hD1⟩ := hB
  rw [ht] at hP1
  have hK1 := va_K.moved hvm.symm hK1
  obtain ⟨hP, hD⟩ := va_join (wr := []) (w1 := [(za, .inr (13, [.int 0, .ref z1, .int 0, .int 0, .int 1, .int (-1), .ref z6, .ref z7, .ref z8, .ref z9, .int z10, .ref z11, .ref z12, .ref z13, .ref z14, .ref z15, .int z16, .ref z17, .int z18, .ref z19]))]) hP hD [0] [] rfl rfl (by decide) (by decide) hk1 hFc hP1 hD1
  have hP : va_P D vwCl [(za, .inr (13, [.int 0, .ref z1, .int 0, .int 0, .int 1, .int (-1), .ref z6, .ref z7, .ref z8, .ref z9, .int z10, .ref z11, .ref z12, .ref z13, .ref z14, .ref z15, .int z16, .ref z17, .int z18, .ref z19]))] H_5 := hP
  have hD : va_D A [(za, .inr (13, [.int 0, .ref z1, .int 0, .int 0, .int 1, .int (-1), .ref z6, .ref z7, .ref z8, .ref z9, .int z10, .ref z11, .ref z12, .ref z13, .ref z14, .ref z15, .int z16, .ref z17, .int z18, .ref z19]))] := hD
  subst hw
  exact W.iret (v := (-1)) hx hb hr (fun t ht hW => ⟨⟨(-1), (), rfl, rfl, trivial⟩, hS.F ht⟩) hS.2.2 dX13_leave_19
set_option maxHeartbeats 4000000 in
set_option maxRecDepth 100000 in
theorem m_die (l : Launch) (D : va_G) (sz : Nat) (za : Nat) (z0 : Int32) (z1 : Nat) (z4 : Int32) (z5 : Int32) (z6 : Nat) (z7 : Nat) (z8 : Nat) (z9 : Nat) (z10 : Int32) (z11 : Nat) (z12 : Nat) (z13 : Nat) (z14 : Nat) (z15 : Nat) (z16 : Int32) (z17 : Nat) (z18 : Int32) (z19 : Nat) (k1 : Int32) (k2 : Int32) (k3 : Int32) (k4 : Int32) : Met l yX13_die (wsM yX13_die cX13_die 7 (some .int)) ({ frames := 2, cells := 0, slots := 0, locals := 43 }) (va_Pc [.ref za, .int k1, .int k2, .int k3, .int k4] (Pr D [(za, .inr (13, [.int z0, .ref z1, .int 0, .int 0, .int z4, .int z5, .ref z6, .ref z7, .ref z8, .ref z9, .int z10, .ref z11, .ref z12, .ref z13, .ref z14, .ref z15, .int z16, .ref z17, .int z18, .ref z19]))] [] sz)) (va_Qi (fun (r : Int32) (_ : Unit) => r = (-1)) (fun _ _ => True) (va_A [(za, .inr (13, [.int z0, .ref z1, .int 0, .int 0, .int z4, .int z5, .ref z6, .ref z7, .ref z8, .ref z9, .int z10, .ref z11, .ref z12, .ref z13, .ref z14, .ref z15, .int z16, .ref z17, .int z18, .ref z19]))] sz)) 0 0 (va_A [(za, .inr (13, [.int z0, .ref z1, .int 0, .int 0, .int z4, .int z5, .ref z6, .ref z7, .ref z8, .ref z9, .int z10, .ref z11, .ref z12, .ref z13, .ref z14, .ref z15, .int z16, .ref z17, .int z18, .ref z19]))] sz) := by
  refine Met.ofW (cc := cX13_die) (maxL := 7) (ret := (some .int)) (by decide) rfl ?_
  intro p e s m args below meth c s₁ B hml hv
  obtain ⟨rfl, hsz, hP, hK, hD0, hN⟩ := hv
  have hx := B.exec
  have hb := B.bytes
  have hr := B.returns
  have hts := atoms_spec (ws := (wsM yX13_die cX13_die 7 (some .int))) B.pre
  have hg : ∀ w ∈ lw_good, w.before _ s = true := fun w h => hts w (List.mem_cons_of_mem _ h)
  have hown : s.vm.findClass RX13 = some m.cls := findClass_of_methodNamed B.named
  have hlocks := B.notSynchronized
  subst hsz
  have hD := hD0.self (sz := s.heap.size)
  generalize hAe : va_A [(za, .inr (13, [.int z0, .ref z1, .int 0, .int 0, .int z4, .int z5, .ref z6, .ref z7, .ref z8, .ref z9, .int z10, .ref z11, .ref z12, .ref z13, .ref z14, .ref z15, .int z16, .ref z17, .int z18, .ref z19]))] s.heap.size = A at hD ⊢
  have hA : ∀ q : Nat, s.heap.size ≤ q → A q := fun q h => by rw [← hAe]; exact Or.inr h
  have hS : va_S A s.heap s.heap [] := va_S.rf
  have hP : va_P D vwCl [(za, .inr (13, [.int z0, .ref z1, .int 0, .int 0, .int z4, .int z5, .ref z6, .ref z7, .ref z8, .ref z9, .int z10, .ref z11, .ref z12, .ref z13, .ref z14, .ref z15, .int z16, .ref z17, .int z18, .ref z19]))] s.heap := hP
  have hl := lv_entry ([.ref za, .int k1, .int k2, .int k3, .int k4]) (n := 7) (Nat.le_of_ble_eq_true rfl)
  rw [lg_entry_eq]
  generalize (lg_sl ([.ref za, .int k1, .int k2, .int k3, .int k4]) ++ List.replicate (7 - (lg_sl ([.ref za, .int k1, .int k2, .int k3, .int k4])).length) Slot.unset).toArray = ls at hl ⊢
  have hl : lv_has ls 7 [(0, .ref za), (1, .int k1), (2, .int k2), (3, .int k3), (4, .int k4)] := hl
  refine lv_aload_n hx hb dX13_die_0 rfl (lv_at hl 0 rfl) ?_
  refine lv_iconst (v := 0) hx hb dX13_die_1 (by decide) ?_
  refine va_put (D := D) (ci := 13) (v := .int 0) (ty := .int) (C := RX13) (T := TX13) (N := 20) hx hb hg inG13 tyX13 tyX13_ok nmX13 hown hK hP hD hS 0 rfl rfl 0 (by decide) (hg _ wd_149) (fun _ h9 => h9) rfl (by decide +kernel) rfl rfl (Nat.le_of_ble_eq_true rfl) dX13_die_2 (fun H_1 locs hP hD hS => ?_)
  have hP : va_P D vwCl [(za, .inr (13, [.int 0, .ref z1, .int 0, .int 0, .int z4, .int z5, .ref z6, .ref z7, .ref z8, .ref z9, .int z10, .ref z11, .ref z12, .ref z13, .ref z14, .ref z15, .int z16, .ref z17, .int z18, .ref z19]))] H_1 := hP
  have hD : va_D A [(za, .inr (13, [.int 0, .ref z1, .int 0, .int 0, .int z4, .int z5, .ref z6, .ref z7, .ref z8, .ref z9, .int z10, .ref z11, .ref z12, .ref z13, .ref z14, .ref z15, .int z16, .ref z17, .int z18, .ref z19]))] := hD
  refine lv_aload_n hx hb dX13_die_5 rfl (lv_at hl 0 rfl) ?_
  refine lv_iload_n hx hb dX13_die_6 rfl (lv_at hl 1 rfl) ?_
  refine lv_iload_n hx hb dX13_die_7 rfl (lv_at hl 2 rfl) ?_
  have hPc := hP.sub (ws' := [(za, .inr (13, [.int 0, .ref z1, .int 0, .int 0, .int z4, .int z5, .ref z6, .ref z7, .ref z8, .ref z9, .int z10, .ref z11, .ref z12, .ref z13, .ref z14, .ref z15, .int z16, .ref z17, .int z18, .ref z19]))]) [0] rfl
  have hDc := hD.sub (ws' := [(za, .inr (13, [.int 0, .ref z1, .int 0, .int 0, .int z4, .int z5, .ref z6, .ref z7, .ref z8, .ref z9, .int z10, .ref z11, .ref z12, .ref z13, .ref z14, .ref z15, .int z16, .ref z17, .int z18, .ref z19]))]) [0] (by decide) rfl
  have hKc := hK.sub (tys' := []) [] rfl
  have hFc := va_free (wc := [(za, .inr (13, [.int 0, .ref z1, .int 0, .int 0, .int z4, .int z5, .ref z6, .ref z7, .ref z8, .ref z9, .int z10, .ref z11, .ref z12, .ref z13, .ref z14, .ref z15, .int z16, .ref z17, .int z18, .ref z19]))]) hD hS hA [0] rfl
  refine va_calli (va_runV (As := [.int k1, .int k2]) (rest := []) ⟨hx, hb, hml, hown, hg⟩ (m_isSeat0 l D H_1.size za 0 z1 0 z4 z5 z6 z7 z8 z9 z10 z11 z12 z13 z14 z15 z16 z17 z18 z19 k1 k2) (cwV 2 hg (gV wd_154 wd_155 wd_156 wd_147 wd_157) rfl rfl rfl (by decide +kernel) ⟨(Nat.le_of_ble_eq_true rfl), (Nat.le_of_ble_eq_true rfl)⟩) ⟨Pr.blind, va_recv hKc hPc (ci := 13) (q0 := 0) rfl rfl, fun U hU hW => ⟨rfl, Pr.at hPc hKc hDc hN hU hW⟩⟩ rfl rfl hl.1 rfl (lv_room (Nat.le_of_ble_eq_true rfl)) dX13_die_8 ⟨(Nat.le_of_ble_eq_true rfl), (Nat.le_of_ble_eq_true rfl)⟩) hS (fun q _ h => hFc q h) hFc (fun r_3 u t H_2 locs ht hvm hw hB hz1 hk1 hS => ?_)
  obtain ⟨hP1, hK1, hD1⟩ := hB
  rw [ht] at hP1
  have hK1 := va_K.moved hvm.symm hK1
  obtain ⟨hP, hD⟩ := va_join (wr := []) (w1 := [(za, .inr (13, [.int 0, .ref z1, .int 0, .int 0, .int z4, .int z5, .ref z6, .ref z7, .ref z8, .ref z9, .int z10, .ref z11, .ref z12, .ref z13, .ref z14, .ref z15, .int z16, .ref z17, .int z18, .ref z19]))]) hP hD [0] [] rfl rfl (by decide) (by decide) hk1 hFc hP1 hD1
  have hP : va_P D vwCl [(za, .inr (13, [.int 0, .ref z1, .int 0, .int 0, .int z4, .int z5, .ref z6, .ref z7, .ref z8, .ref z9, .int z10, .ref z11, .ref z12, .ref z13, .ref z14, .ref z15, .int z16, .ref z17, .int z18, .ref z19]))] H_2 := hP
  have hD : va_D A [(za, .inr (13, [.int 0, .ref z1, .int 0, .int 0, .int z4, .int z5, .ref z6, .ref z7, .ref z8, .ref z9, .int z10, .ref z11, .ref z12, .ref z13, .ref z14, .ref z15, .int z16, .ref z17, .int z18, .ref z19]))] := hD
  subst hw
  refine lv_if_eq (tgt := 28) hx hb dX13_die_11 (by decide) (fun _ => ?_) (fun c_4 => absurd c_4 (by decide))
  refine lv_aload_n hx hb dX13_die_28 rfl (lv_at hl 0 rfl) ?_
  refine lv_iconst (v := 1) hx hb dX13_die_29 (by decide) ?_
  have hPc := hP.sub (ws' := [(za, .inr (13, [.int 0, .ref z1, .int 0, .int 0, .int z4, .int z5, .ref z6, .ref z7, .ref z8, .ref z9, .int z10, .ref z11, .ref z12, .ref z13, .ref z14, .ref z15, .int z16, .ref z17, .int z18, .ref z19]))]) [0] rfl
  have hDc := hD.sub (ws' := [(za, .inr (13, [.int 0, .ref z1, .int 0, .int 0, .int z4, .int z5, .ref z6, .ref z7, .ref z8, .ref z9, .int z10, .ref z11, .ref z12, .ref z13, .ref z14, .ref z15, .int z16, .ref z17, .int z18, .ref z19]))]) [0] (by decide) rfl
  have hKc := hK.sub (tys' := []) [] rfl
  have hFc := va_free (wc := [(za, .inr (13, [.int 0, .ref z1, .int 0, .int 0, .int z4, .int z5, .ref z6, .ref z7, .ref z8, .ref z9, .int z10, .ref z11, .ref z12, .ref z13, .ref z14, .ref z15, .int z16, .ref z17, .int z18, .ref z19]))]) hD hS hA [0] rfl
  refine va_calli (va_runV (As := [.int 1]) (rest := []) ⟨hx, hb, hml, hown, hg⟩ (m_refused l D H_2.size za 0 z1 0 0 z4 z5 z6 z7 z8 z9 z10 z11 z12 z13 z14 z15 z16 z17 z18 z19 1) (cwV 1 hg (gV wd_150 wd_151 wd_152 wd_147 wd_153) rfl rfl rfl (by decide +kernel) ⟨(Nat.le_of_ble_eq_true rfl), (Nat.le_of_ble_eq_true rfl)⟩) ⟨Pr.blind, va_recv hKc hPc (ci := 13) (q0 := 0) rfl rfl, fun U hU hW => ⟨rfl, Pr.at hPc hKc hDc hN hU hW⟩⟩ rfl rfl hl.1 rfl (lv_room (Nat.le_of_ble_eq_true rfl)) dX13_die_30 ⟨(Nat.le_of_ble_eq_true rfl), (Nat.le_of_ble_eq_true rfl)⟩) hS (fun q _ h => hFc q h) hFc (fun r_6 u t H_5 locs ht hvm hw hB hz1 hk1 hS => ?_)
  obtain ⟨hP1, hK1, hD1⟩ := hB
  rw [ht] at hP1
  have hK1 := va_K.moved hvm.symm hK1
  obtain ⟨hP, hD⟩ := va_join (wr := []) (w1 := [(za, .inr (13, [.int 0, .ref z1, .int 0, .int 0, .int 1, .int (-1), .ref z6, .ref z7, .ref z8, .ref z9, .int z10, .ref z11, .ref z12, .ref z13, .ref z14, .ref z15, .int z16, .ref z17, .int z18, .ref z19]))]) hP hD [0] [] rfl rfl (by decide) (by decide) hk1 hFc hP1 hD1
  have hP : va_P D vwCl [(za, .inr (13, [.int 0, .ref z1, .int 0, .int 0, .int 1, .int (-1), .ref z6, .ref z7, .ref z8, .ref z9, .int z10, .ref z11, .ref z12, .ref z13, .ref z14, .ref z15, .int z16, .ref z17, .int z18, .ref z19]))] H_5 := hP
  have hD : va_D A [(za, .inr (13, [.int 0, .ref z1, .int 0, .int 0, .int 1, .int (-1), .ref z6, .ref z7, .ref z8, .ref z9, .int z10, .ref z11, .ref z12, .ref z13, .ref z14, .ref z15, .int z16, .ref z17, .int z18, .ref z19]))] := hD
  subst hw
  exact W.iret (v := (-1)) hx hb hr (fun t ht hW => ⟨⟨(-1), (), rfl, rfl, trivial⟩, hS.F ht⟩) hS.2.2 dX13_die_33
set_option maxHeartbeats 4000000 in
set_option maxRecDepth 100000 in
theorem m_rule (l : Launch) (D : va_G) (sz : Nat) (za : Nat) (z0 : Int32) (z1 : Nat) (z4 : Int32) (z5 : Int32) (z6 : Nat) (z7 : Nat) (z8 : Nat) (z9 : Nat) (z10 : Int32) (z11 : Nat) (z12 : Nat) (z13 : Nat) (z14 : Nat) (z15 : Nat) (z16 : Int32) (z17 : Nat) (z18 : Int32) (z19 : Nat) (k1 : Int32) (k2 : Int32) : Met l yX13_rule (wsM yX13_rule cX13_rule 7 (some .int)) ({ frames := 1, cells := 0, slots := 0, locals := 21 }) (va_Pc [.ref za, .int k1, .int k2] (Pr D [(za, .inr (13, [.int z0, .ref z1, .int 0, .int 0, .int z4, .int z5, .ref z6, .ref z7, .ref z8, .ref z9, .int z10, .ref z11, .ref z12, .ref z13, .ref z14, .ref z15, .int z16, .ref z17, .int z18, .ref z19]))] [] sz)) (va_Qi (fun (r : Int32) (_ : Unit) => r = (-1)) (fun _ _ => True) (va_A [(za, .inr (13, [.int z0, .ref z1, .int 0, .int 0, .int z4, .int z5, .ref z6, .ref z7, .ref z8, .ref z9, .int z10, .ref z11, .ref z12, .ref z13, .ref z14, .ref z15, .int z16, .ref z17, .int z18, .ref z19]))] sz)) 0 0 (va_A [(za, .inr (13, [.int z0, .ref z1, .int 0, .int 0, .int z4, .int z5, .ref z6, .ref z7, .ref z8, .ref z9, .int z10, .ref z11, .ref z12, .ref z13, .ref z14, .ref z15, .int z16, .ref z17, .int z18, .ref z19]))] sz) := by
  refine Met.ofW (cc := cX13_rule) (maxL := 7) (ret := (some .int)) (by decide) rfl ?_
  intro p e s m args below meth c s₁ B hml hv
  obtain ⟨rfl, hsz, hP, hK, hD0, hN⟩ := hv
  have hx := B.exec
  have hb := B.bytes
  have hr := B.returns
  have hts := atoms_spec (ws := (wsM yX13_rule cX13_rule 7 (some .int))) B.pre
  have hg : ∀ w ∈ lw_good, w.before _ s = true := fun w h => hts w (List.mem_cons_of_mem _ h)
  have hown : s.vm.findClass RX13 = some m.cls := findClass_of_methodNamed B.named
  have hlocks := B.notSynchronized
  subst hsz
  have hD := hD0.self (sz := s.heap.size)
  generalize hAe : va_A [(za, .inr (13, [.int z0, .ref z1, .int 0, .int 0, .int z4, .int z5, .ref z6, .ref z7, .ref z8, .ref z9, .int z10, .ref z11, .ref z12, .ref z13, .ref z14, .ref z15, .int z16, .ref z17, .int z18, .ref z19]))] s.heap.size = A at hD ⊢
  have hA : ∀ q : Nat, s.heap.size ≤ q → A q := fun q h => by rw [← hAe]; exact Or.inr h
  have hS : va_S A s.heap s.heap [] := va_S.rf
  have hP : va_P D vwCl [(za, .inr (13, [.int z0, .ref z1, .int 0, .int 0, .int z4, .int z5, .ref z6, .ref z7, .ref z8, .ref z9, .int z10, .ref z11, .ref z12, .ref z13, .ref z14, .ref z15, .int z16, .ref z17, .int z18, .ref z19]))] s.heap := hP
  have hl := lv_entry ([.ref za, .int k1, .int k2]) (n := 7) (Nat.le_of_ble_eq_true rfl)
  rw [lg_entry_eq]
  generalize (lg_sl ([.ref za, .int k1, .int k2]) ++ List.replicate (7 - (lg_sl ([.ref za, .int k1, .int k2])).length) Slot.unset).toArray = ls at hl ⊢
  have hl : lv_has ls 7 [(0, .ref za), (1, .int k1), (2, .int k2)] := hl
  refine lv_aload_n hx hb dX13_rule_0 rfl (lv_at hl 0 rfl) ?_
  refine lv_iconst (v := 0) hx hb dX13_rule_1 (by decide) ?_
  refine va_put (D := D) (ci := 13) (v := .int 0) (ty := .int) (C := RX13) (T := TX13) (N := 20) hx hb hg inG13 tyX13 tyX13_ok nmX13 hown hK hP hD hS 0 rfl rfl 0 (by decide) (hg _ wd_149) (fun _ h9 => h9) rfl (by decide +kernel) rfl rfl (Nat.le_of_ble_eq_true rfl) dX13_rule_2 (fun H_1 locs hP hD hS => ?_)
  have hP : va_P D vwCl [(za, .inr (13, [.int 0, .ref z1, .int 0, .int 0, .int z4, .int z5, .ref z6, .ref z7, .ref z8, .ref z9, .int z10, .ref z11, .ref z12, .ref z13, .ref z14, .ref z15, .int z16, .ref z17, .int z18, .ref z19]))] H_1 := hP
  have hD : va_D A [(za, .inr (13, [.int 0, .ref z1, .int 0, .int 0, .int z4, .int z5, .ref z6, .ref z7, .ref z8, .ref z9, .int z10, .ref z11, .ref z12, .ref z13, .ref z14, .ref z15, .int z16, .ref z17, .int z18, .ref z19]))] := hD
  refine lv_aload_n hx hb dX13_rule_5 rfl (lv_at hl 0 rfl) ?_
  refine lv_iload_n hx hb dX13_rule_6 rfl (lv_at hl 1 rfl) ?_
  have hPc := hP.sub (ws' := [(za, .inr (13, [.int 0, .ref z1, .int 0, .int 0, .int z4, .int z5, .ref z6, .ref z7, .ref z8, .ref z9, .int z10, .ref z11, .ref z12, .ref z13, .ref z14, .ref z15, .int z16, .ref z17, .int z18, .ref z19]))]) [0] rfl
  have hDc := hD.sub (ws' := [(za, .inr (13, [.int 0, .ref z1, .int 0, .int 0, .int z4, .int z5, .ref z6, .ref z7, .ref z8, .ref z9, .int z10, .ref z11, .ref z12, .ref z13, .ref z14, .ref z15, .int z16, .ref z17, .int z18, .ref z19]))]) [0] (by decide) rfl
  have hKc := hK.sub (tys' := []) [] rfl
  have hFc := va_free (wc := [(za, .inr (13, [.int 0, .ref z1, .int 0, .int 0, .int z4, .int z5, .ref z6, .ref z7, .ref z8, .ref z9, .int z10, .ref z11, .ref z12, .ref z13, .ref z14, .ref z15, .int z16, .ref z17, .int z18, .ref z19]))]) hD hS hA [0] rfl
  refine va_calli (va_runV (As := [.int k1]) (rest := []) ⟨hx, hb, hml, hown, hg⟩ (m_isHouse0 l D H_1.size za 0 z1 0 z4 z5 z6 z7 z8 z9 z10 z11 z12 z13 z14 z15 z16 z17 z18 z19 k1) (cwV 1 hg (gV wd_144 wd_145 wd_146 wd_147 wd_148) rfl rfl rfl (by decide +kernel) ⟨(Nat.le_of_ble_eq_true rfl), (Nat.le_of_ble_eq_true rfl)⟩) ⟨Pr.blind, va_recv hKc hPc (ci := 13) (q0 := 0) rfl rfl, fun U hU hW => ⟨rfl, Pr.at hPc hKc hDc hN hU hW⟩⟩ rfl rfl hl.1 rfl (lv_room (Nat.le_of_ble_eq_true rfl)) dX13_rule_7 ⟨(Nat.le_of_ble_eq_true rfl), (Nat.le_of_ble_eq_true rfl)⟩) hS (fun q _ h => hFc q h) hFc (fun r_3 u t H_2 locs ht hvm hw hB hz1 hk1 hS => ?_)
  obtain ⟨hP1, hK1, hD1⟩ := hB
  rw [ht] at hP1
  have hK1 := va_K.moved hvm.symm hK1
  obtain ⟨hP, hD⟩ := va_join (wr := []) (w1 := [(za, .inr (13, [.int 0, .ref z1, .int 0, .int 0, .int z4, .int z5, .ref z6, .ref z7, .ref z8, .ref z9, .int z10, .ref z11, .ref z12, .ref z13, .ref z14, .ref z15, .int z16, .ref z17, .int z18, .ref z19]))]) hP hD [0] [] rfl rfl (by decide) (by decide) hk1 hFc hP1 hD1
  have hP : va_P D vwCl [(za, .inr (13, [.int 0, .ref z1, .int 0, .int 0, .int z4, .int z5, .ref z6, .ref z7, .ref z8, .ref z9, .int z10, .ref z11, .ref z12, .ref z13, .ref z14, .ref z15, .int z16, .ref z17, .int z18, .ref z19]))] H_2 := hP
  have hD : va_D A [(za, .inr (13, [.int 0, .ref z1, .int 0, .int 0, .int z4, .int z5, .ref z6, .ref z7, .ref z8, .ref z9, .int z10, .ref z11, .ref z12, .ref z13, .ref z14, .ref z15, .int z16, .ref z17, .int z18, .ref z19]))] := hD
  subst hw
  refine lv_if_ne (tgt := 19) hx hb dX13_rule_10 (by decide) (fun c_4 => absurd c_4 (by decide)) (fun _ => ?_)
  refine lv_aload_n hx hb dX13_rule_13 rfl (lv_at hl 0 rfl) ?_
  refine lv_iconst (v := 1) hx hb dX13_rule_14 (by decide) ?_
  have hPc := hP.sub (ws' := [(za, .inr (13, [.int 0, .ref z1, .int 0, .int 0, .int z4, .int z5, .ref z6, .ref z7, .ref z8, .ref z9, .int z10, .ref z11, .ref z12, .ref z13, .ref z14, .ref z15, .int z16, .ref z17, .int z18, .ref z19]))]) [0] rfl
  have hDc := hD.sub (ws' := [(za, .inr (13, [.int 0, .ref z1, .int 0, .int 0, .int z4, .int z5, .ref z6, .ref z7, .ref z8, .ref z9, .int z10, .ref z11, .ref z12, .ref z13, .ref z14, .ref z15, .int z16, .ref z17, .int z18, .ref z19]))]) [0] (by decide) rfl
  have hKc := hK.sub (tys' := []) [] rfl
  have hFc := va_free (wc := [(za, .inr (13, [.int 0, .ref z1, .int 0, .int 0, .int z4, .int z5, .ref z6, .ref z7, .ref z8, .ref z9, .int z10, .ref z11, .ref z12, .ref z13, .ref z14, .ref z15, .int z16, .ref z17, .int z18, .ref z19]))]) hD hS hA [0] rfl
  refine va_calli (va_runV (As := [.int 1]) (rest := []) ⟨hx, hb, hml, hown, hg⟩ (m_refused l D H_2.size za 0 z1 0 0 z4 z5 z6 z7 z8 z9 z10 z11 z12 z13 z14 z15 z16 z17 z18 z19 1) (cwV 1 hg (gV wd_150 wd_151 wd_152 wd_147 wd_153) rfl rfl rfl (by decide +kernel) ⟨(Nat.le_of_ble_eq_true rfl), (Nat.le_of_ble_eq_true rfl)⟩) ⟨Pr.blind, va_recv hKc hPc (ci := 13) (q0 := 0) rfl rfl, fun U hU hW => ⟨rfl, Pr.at hPc hKc hDc hN hU hW⟩⟩ rfl rfl hl.1 rfl (lv_room (Nat.le_of_ble_eq_true rfl)) dX13_rule_15 ⟨(Nat.le_of_ble_eq_true rfl), (Nat.le_of_ble_eq_true rfl)⟩) hS (fun q _ h => hFc q h) hFc (fun r_6 u t H_5 locs ht hvm hw hB hz1 hk1 hS => ?_)
  obtain ⟨hP1, hK1, hD1⟩ := hB
  rw [ht] at hP1
  have hK1 := va_K.moved hvm.symm hK1
  obtain ⟨hP, hD⟩ := va_join (wr := []) (w1 := [(za, .inr (13, [.int 0, .ref z1, .int 0, .int 0, .int 1, .int (-1), .ref z6, .ref z7, .ref z8, .ref z9, .int z10, .ref z11, .ref z12, .ref z13, .ref z14, .ref z15, .int z16, .ref z17, .int z18, .ref z19]))]) hP hD [0] [] rfl rfl (by decide) (by decide) hk1 hFc hP1 hD1
  have hP : va_P D vwCl [(za, .inr (13, [.int 0, .ref z1, .int 0, .int 0, .int 1, .int (-1), .ref z6, .ref z7, .ref z8, .ref z9, .int z10, .ref z11, .ref z12, .ref z13, .ref z14, .ref z15, .int z16, .ref z17, .int z18, .ref z19]))] H_5 := hP
  have hD : va_D A [(za, .inr (13, [.int 0, .ref z1, .int 0, .int 0, .int 1, .int (-1), .ref z6, .ref z7, .ref z8, .ref z9, .int z10, .ref z11, .ref z12, .ref z13, .ref z14, .ref z15, .int z16, .ref z17, .int z18, .ref z19]))] := hD
  subst hw
  exact W.iret (v := (-1)) hx hb hr (fun t ht hW => ⟨⟨(-1), (), rfl, rfl, trivial⟩, hS.F ht⟩) hS.2.2 dX13_rule_18
set_option maxHeartbeats 4000000 in
set_option maxRecDepth 100000 in
theorem m_term (l : Launch) (D : va_G) (sz : Nat) (za : Nat) (z0 : Int32) (z1 : Nat) (z4 : Int32) (z5 : Int32) (z6 : Nat) (z7 : Nat) (z8 : Nat) (z9 : Nat) (z10 : Int32) (z11 : Nat) (z12 : Nat) (z13 : Nat) (z14 : Nat) (z15 : Nat) (z16 : Int32) (z17 : Nat) (z18 : Int32) (z19 : Nat) (k1 : Int32) (k2 : Int32) (k3 : Int32) (k4 : Int32) : Met l yX13_term (wsM yX13_term cX13_term 9 (some .int)) ({ frames := 1, cells := 0, slots := 0, locals := 21 }) (va_Pc [.ref za, .int k1, .int k2, .int k3, .int k4] (Pr D [(za, .inr (13, [.int z0, .ref z1, .int 0, .int 0, .int z4, .int z5, .ref z6, .ref z7, .ref z8, .ref z9, .int z10, .ref z11, .ref z12, .ref z13, .ref z14, .ref z15, .int z16, .ref z17, .int z18, .ref z19]))] [] sz)) (va_Qi (fun (r : Int32) (_ : Unit) => r = (-1)) (fun _ _ => True) (va_A [(za, .inr (13, [.int z0, .ref z1, .int 0, .int 0, .int z4, .int z5, .ref z6, .ref z7, .ref z8, .ref z9, .int z10, .ref z11, .ref z12, .ref z13, .ref z14, .ref z15, .int z16, .ref z17, .int z18, .ref z19]))] sz)) 0 0 (va_A [(za, .inr (13, [.int z0, .ref z1, .int 0, .int 0, .int z4, .int z5, .ref z6, .ref z7, .ref z8, .ref z9, .int z10, .ref z11, .ref z12, .ref z13, .ref z14, .ref z15, .int z16, .ref z17, .int z18, .ref z19]))] sz) := by
  refine Met.ofW (cc := cX13_term) (maxL := 9) (ret := (some .int)) (by decide) rfl ?_
  intro p e s m args below meth c s₁ B hml hv
  obtain ⟨rfl, hsz, hP, hK, hD0, hN⟩ := hv
  have hx := B.exec
  have hb := B.bytes
  have hr := B.returns
  have hts := atoms_spec (ws := (wsM yX13_term cX13_term 9 (some .int))) B.pre
  have hg : ∀ w ∈ lw_good, w.before _ s = true := fun w h => hts w (List.mem_cons_of_mem _ h)
  have hown : s.vm.findClass RX13 = some m.cls := findClass_of_methodNamed B.named
  have hlocks := B.notSynchronized
  subst hsz
  have hD := hD0.self (sz := s.heap.size)
  generalize hAe : va_A [(za, .inr (13, [.int z0, .ref z1, .int 0, .int 0, .int z4, .int z5, .ref z6, .ref z7, .ref z8, .ref z9, .int z10, .ref z11, .ref z12, .ref z13, .ref z14, .ref z15, .int z16, .ref z17, .int z18, .ref z19]))] s.heap.size = A at hD ⊢
  have hA : ∀ q : Nat, s.heap.size ≤ q → A q := fun q h => by rw [← hAe]; exact Or.inr h
  have hS : va_S A s.heap s.heap [] := va_S.rf
  have hP : va_P D vwCl [(za, .inr (13, [.int z0, .ref z1, .int 0, .int 0, .int z4, .int z5, .ref z6, .ref z7, .ref z8, .ref z9, .int z10, .ref z11, .ref z12, .ref z13, .ref z14, .ref z15, .int z16, .ref z17, .int z18, .ref z19]))] s.heap := hP
  have hl := lv_entry ([.ref za, .int k1, .int k2, .int k3, .int k4]) (n := 9) (Nat.le_of_ble_eq_true rfl)
  rw [lg_entry_eq]
  generalize (lg_sl ([.ref za, .int k1, .int k2, .int k3, .int k4]) ++ List.replicate (9 - (lg_sl ([.ref za, .int k1, .int k2, .int k3, .int k4])).length) Slot.unset).toArray = ls at hl ⊢
  have hl : lv_has ls 9 [(0, .ref za), (1, .int k1), (2, .int k2), (3, .int k3), (4, .int k4)] := hl
  refine lv_aload_n hx hb dX13_term_0 rfl (lv_at hl 0 rfl) ?_
  refine lv_iconst (v := 0) hx hb dX13_term_1 (by decide) ?_
  refine va_put (D := D) (ci := 13) (v := .int 0) (ty := .int) (C := RX13) (T := TX13) (N := 20) hx hb hg inG13 tyX13 tyX13_ok nmX13 hown hK hP hD hS 0 rfl rfl 0 (by decide) (hg _ wd_149) (fun _ h9 => h9) rfl (by decide +kernel) rfl rfl (Nat.le_of_ble_eq_true rfl) dX13_term_2 (fun H_1 locs hP hD hS => ?_)
  have hP : va_P D vwCl [(za, .inr (13, [.int 0, .ref z1, .int 0, .int 0, .int z4, .int z5, .ref z6, .ref z7, .ref z8, .ref z9, .int z10, .ref z11, .ref z12, .ref z13, .ref z14, .ref z15, .int z16, .ref z17, .int z18, .ref z19]))] H_1 := hP
  have hD : va_D A [(za, .inr (13, [.int 0, .ref z1, .int 0, .int 0, .int z4, .int z5, .ref z6, .ref z7, .ref z8, .ref z9, .int z10, .ref z11, .ref z12, .ref z13, .ref z14, .ref z15, .int z16, .ref z17, .int z18, .ref z19]))] := hD
  refine lv_aload_n hx hb dX13_term_5 rfl (lv_at hl 0 rfl) ?_
  refine lv_iload_n hx hb dX13_term_6 rfl (lv_at hl 1 rfl) ?_
  have hPc := hP.sub (ws' := [(za, .inr (13, [.int 0, .ref z1, .int 0, .int 0, .int z4, .int z5, .ref z6, .ref z7, .ref z8, .ref z9, .int z10, .ref z11, .ref z12, .ref z13, .ref z14, .ref z15, .int z16, .ref z17, .int z18, .ref z19]))]) [0] rfl
  have hDc := hD.sub (ws' := [(za, .inr (13, [.int 0, .ref z1, .int 0, .int 0, .int z4, .int z5, .ref z6, .ref z7, .ref z8, .ref z9, .int z10, .ref z11, .ref z12, .ref z13, .ref z14, .ref z15, .int z16, .ref z17, .int z18, .ref z19]))]) [0] (by decide) rfl
  have hKc := hK.sub (tys' := []) [] rfl
  have hFc := va_free (wc := [(za, .inr (13, [.int 0, .ref z1, .int 0, .int 0, .int z4, .int z5, .ref z6, .ref z7, .ref z8, .ref z9, .int z10, .ref z11, .ref z12, .ref z13, .ref z14, .ref z15, .int z16, .ref z17, .int z18, .ref z19]))]) hD hS hA [0] rfl
  refine va_calli (va_runV (As := [.int k1]) (rest := []) ⟨hx, hb, hml, hown, hg⟩ (m_isHouse0 l D H_1.size za 0 z1 0 z4 z5 z6 z7 z8 z9 z10 z11 z12 z13 z14 z15 z16 z17 z18 z19 k1) (cwV 1 hg (gV wd_144 wd_145 wd_146 wd_147 wd_148) rfl rfl rfl (by decide +kernel) ⟨(Nat.le_of_ble_eq_true rfl), (Nat.le_of_ble_eq_true rfl)⟩) ⟨Pr.blind, va_recv hKc hPc (ci := 13) (q0 := 0) rfl rfl, fun U hU hW => ⟨rfl, Pr.at hPc hKc hDc hN hU hW⟩⟩ rfl rfl hl.1 rfl (lv_room (Nat.le_of_ble_eq_true rfl)) dX13_term_7 ⟨(Nat.le_of_ble_eq_true rfl), (Nat.le_of_ble_eq_true rfl)⟩) hS (fun q _ h => hFc q h) hFc (fun r_3 u t H_2 locs ht hvm hw hB hz1 hk1 hS => ?_)
  obtain ⟨hP1, hK1, hD1⟩ := hB
  rw [ht] at hP1
  have hK1 := va_K.moved hvm.symm hK1
  obtain ⟨hP, hD⟩ := va_join (wr := []) (w1 := [(za, .inr (13, [.int 0, .ref z1, .int 0, .int 0, .int z4, .int z5, .ref z6, .ref z7, .ref z8, .ref z9, .int z10, .ref z11, .ref z12, .ref z13, .ref z14, .ref z15, .int z16, .ref z17, .int z18, .ref z19]))]) hP hD [0] [] rfl rfl (by decide) (by decide) hk1 hFc hP1 hD1
  have hP : va_P D vwCl [(za, .inr (13, [.int 0, .ref z1, .int 0, .int 0, .int z4, .int z5, .ref z6, .ref z7, .ref z8, .ref z9, .int z10, .ref z11, .ref z12, .ref z13, .ref z14, .ref z15, .int z16, .ref z17, .int z18, .ref z19]))] H_2 := hP
  have hD : va_D A [(za, .inr (13, [.int 0, .ref z1, .int 0, .int 0, .int z4, .int z5, .ref z6, .ref z7, .ref z8, .ref z9, .int z10, .ref z11, .ref z12, .ref z13, .ref z14, .ref z15, .int z16, .ref z17, .int z18, .ref z19]))] := hD
  subst hw
  refine lv_if_eq (tgt := 40) hx hb dX13_term_10 (by decide) (fun _ => ?_) (fun c_4 => absurd c_4 (by decide))
  refine lv_aload_n hx hb dX13_term_40 rfl (lv_at hl 0 rfl) ?_
  refine lv_iconst (v := 1) hx hb dX13_term_41 (by decide) ?_
  have hPc := hP.sub (ws' := [(za, .inr (13, [.int 0, .ref z1, .int 0, .int 0, .int z4, .int z5, .ref z6, .ref z7, .ref z8, .ref z9, .int z10, .ref z11, .ref z12, .ref z13, .ref z14, .ref z15, .int z16, .ref z17, .int z18, .ref z19]))]) [0] rfl
  have hDc := hD.sub (ws' := [(za, .inr (13, [.int 0, .ref z1, .int 0, .int 0, .int z4, .int z5, .ref z6, .ref z7, .ref z8, .ref z9, .int z10, .ref z11, .ref z12, .ref z13, .ref z14, .ref z15, .int z16, .ref z17, .int z18, .ref z19]))]) [0] (by decide) rfl
  have hKc := hK.sub (tys' := []) [] rfl
  have hFc := va_free (wc := [(za, .inr (13, [.int 0, .ref z1, .int 0, .int 0, .int z4, .int z5, .ref z6, .ref z7, .ref z8, .ref z9, .int z10, .ref z11, .ref z12, .ref z13, .ref z14, .ref z15, .int z16, .ref z17, .int z18, .ref z19]))]) hD hS hA [0] rfl
  refine va_calli (va_runV (As := [.int 1]) (rest := []) ⟨hx, hb, hml, hown, hg⟩ (m_refused l D H_2.size za 0 z1 0 0 z4 z5 z6 z7 z8 z9 z10 z11 z12 z13 z14 z15 z16 z17 z18 z19 1) (cwV 1 hg (gV wd_150 wd_151 wd_152 wd_147 wd_153) rfl rfl rfl (by decide +kernel) ⟨(Nat.le_of_ble_eq_true rfl), (Nat.le_of_ble_eq_true rfl)⟩) ⟨Pr.blind, va_recv hKc hPc (ci := 13) (q0 := 0) rfl rfl, fun U hU hW => ⟨rfl, Pr.at hPc hKc hDc hN hU hW⟩⟩ rfl rfl hl.1 rfl (lv_room (Nat.le_of_ble_eq_true rfl)) dX13_term_42 ⟨(Nat.le_of_ble_eq_true rfl), (Nat.le_of_ble_eq_true rfl)⟩) hS (fun q _ h => hFc q h) hFc (fun r_6 u t H_5 locs ht hvm hw hB hz1 hk1 hS => ?_)
  obtain ⟨hP1, hK1, hD1⟩ := hB
  rw [ht] at hP1
  have hK1 := va_K.moved hvm.symm hK1
  obtain ⟨hP, hD⟩ := va_join (wr := []) (w1 := [(za, .inr (13, [.int 0, .ref z1, .int 0, .int 0, .int 1, .int (-1), .ref z6, .ref z7, .ref z8, .ref z9, .int z10, .ref z11, .ref z12, .ref z13, .ref z14, .ref z15, .int z16, .ref z17, .int z18, .ref z19]))]) hP hD [0] [] rfl rfl (by decide) (by decide) hk1 hFc hP1 hD1
  have hP : va_P D vwCl [(za, .inr (13, [.int 0, .ref z1, .int 0, .int 0, .int 1, .int (-1), .ref z6, .ref z7, .ref z8, .ref z9, .int z10, .ref z11, .ref z12, .ref z13, .ref z14, .ref z15, .int z16, .ref z17, .int z18, .ref z19]))] H_5 := hP
  have hD : va_D A [(za, .inr (13, [.int 0, .ref z1, .int 0, .int 0, .int 1, .int (-1), .ref z6, .ref z7, .ref z8, .ref z9, .int z10, .ref z11, .ref z12, .ref z13, .ref z14, .ref z15, .int z16, .ref z17, .int z18, .ref z19]))] := hD
  subst hw
  exact W.iret (v := (-1)) hx hb hr (fun t ht hW => ⟨⟨(-1), (), rfl, rfl, trivial⟩, hS.F ht⟩) hS.2.2 dX13_term_45
set_option maxHeartbeats 4000000 in
set_option maxRecDepth 100000 in
theorem m_leaf (l : Launch) (D : va_G) (sz : Nat) (za : Nat) (z0 : Int32) (z1 : Nat) (z4 : Int32) (z5 : Int32) (z6 : Nat) (z7 : Nat) (z8 : Nat) (z9 : Nat) (z10 : Int32) (z11 : Nat) (z12 : Nat) (z13 : Nat) (z14 : Nat) (z15 : Nat) (z16 : Int32) (z17 : Nat) (z18 : Int32) (z19 : Nat) (k1 : Int32) (k2 : Int32) (k3 : Int32) (k4 : Int32) : Met l yX13_leaf (wsM yX13_leaf cX13_leaf 6 (some .int)) ({ frames := 1, cells := 0, slots := 0, locals := 21 }) (va_Pc [.ref za, .int k1, .int k2, .int k3, .int k4] (Pr D [(za, .inr (13, [.int z0, .ref z1, .int 0, .int 0, .int z4, .int z5, .ref z6, .ref z7, .ref z8, .ref z9, .int z10, .ref z11, .ref z12, .ref z13, .ref z14, .ref z15, .int z16, .ref z17, .int z18, .ref z19]))] [] sz)) (va_Qi (fun (r : Int32) (_ : Unit) => r = (-1)) (fun _ _ => True) (va_A [(za, .inr (13, [.int z0, .ref z1, .int 0, .int 0, .int z4, .int z5, .ref z6, .ref z7, .ref z8, .ref z9, .int z10, .ref z11, .ref z12, .ref z13, .ref z14, .ref z15, .int z16, .ref z17, .int z18, .ref z19]))] sz)) 0 0 (va_A [(za, .inr (13, [.int z0, .ref z1, .int 0, .int 0, .int z4, .int z5, .ref z6, .ref z7, .ref z8, .ref z9, .int z10, .ref z11, .ref z12, .ref z13, .ref z14, .ref z15, .int z16, .ref z17, .int z18, .ref z19]))] sz) := by
  refine Met.ofW (cc := cX13_leaf) (maxL := 6) (ret := (some .int)) (by decide) rfl ?_
  intro p e s m args below meth c s₁ B hml hv
  obtain ⟨rfl, hsz, hP, hK, hD0, hN⟩ := hv
  have hx := B.exec
  have hb := B.bytes
  have hr := B.returns
  have hts := atoms_spec (ws := (wsM yX13_leaf cX13_leaf 6 (some .int))) B.pre
  have hg : ∀ w ∈ lw_good, w.before _ s = true := fun w h => hts w (List.mem_cons_of_mem _ h)
  have hown : s.vm.findClass RX13 = some m.cls := findClass_of_methodNamed B.named
  have hlocks := B.notSynchronized
  subst hsz
  have hD := hD0.self (sz := s.heap.size)
  generalize hAe : va_A [(za, .inr (13, [.int z0, .ref z1, .int 0, .int 0, .int z4, .int z5, .ref z6, .ref z7, .ref z8, .ref z9, .int z10, .ref z11, .ref z12, .ref z13, .ref z14, .ref z15, .int z16, .ref z17, .int z18, .ref z19]))] s.heap.size = A at hD ⊢
  have hA : ∀ q : Nat, s.heap.size ≤ q → A q := fun q h => by rw [← hAe]; exact Or.inr h
  have hS : va_S A s.heap s.heap [] := va_S.rf
  have hP : va_P D vwCl [(za, .inr (13, [.int z0, .ref z1, .int 0, .int 0, .int z4, .int z5, .ref z6, .ref z7, .ref z8, .ref z9, .int z10, .ref z11, .ref z12, .ref z13, .ref z14, .ref z15, .int z16, .ref z17, .int z18, .ref z19]))] s.heap := hP
  have hl := lv_entry ([.ref za, .int k1, .int k2, .int k3, .int k4]) (n := 6) (Nat.le_of_ble_eq_true rfl)
  rw [lg_entry_eq]
  generalize (lg_sl ([.ref za, .int k1, .int k2, .int k3, .int k4]) ++ List.replicate (6 - (lg_sl ([.ref za, .int k1, .int k2, .int k3, .int k4])).length) Slot.unset).toArray = ls at hl ⊢
  have hl : lv_has ls 6 [(0, .ref za), (1, .int k1), (2, .int k2), (3, .int k3), (4, .int k4)] := hl
  refine lv_aload_n hx hb dX13_leaf_0 rfl (lv_at hl 0 rfl) ?_
  refine lv_iconst (v := 0) hx hb dX13_leaf_1 (by decide) ?_
  refine va_put (D := D) (ci := 13) (v := .int 0) (ty := .int) (C := RX13) (T := TX13) (N := 20) hx hb hg inG13 tyX13 tyX13_ok nmX13 hown hK hP hD hS 0 rfl rfl 0 (by decide) (hg _ wd_149) (fun _ h9 => h9) rfl (by decide +kernel) rfl rfl (Nat.le_of_ble_eq_true rfl) dX13_leaf_2 (fun H_1 locs hP hD hS => ?_)
  have hP : va_P D vwCl [(za, .inr (13, [.int 0, .ref z1, .int 0, .int 0, .int z4, .int z5, .ref z6, .ref z7, .ref z8, .ref z9, .int z10, .ref z11, .ref z12, .ref z13, .ref z14, .ref z15, .int z16, .ref z17, .int z18, .ref z19]))] H_1 := hP
  have hD : va_D A [(za, .inr (13, [.int 0, .ref z1, .int 0, .int 0, .int z4, .int z5, .ref z6, .ref z7, .ref z8, .ref z9, .int z10, .ref z11, .ref z12, .ref z13, .ref z14, .ref z15, .int z16, .ref z17, .int z18, .ref z19]))] := hD
  refine lv_aload_n hx hb dX13_leaf_5 rfl (lv_at hl 0 rfl) ?_
  refine lv_iload_n hx hb dX13_leaf_6 rfl (lv_at hl 1 rfl) ?_
  have hPc := hP.sub (ws' := [(za, .inr (13, [.int 0, .ref z1, .int 0, .int 0, .int z4, .int z5, .ref z6, .ref z7, .ref z8, .ref z9, .int z10, .ref z11, .ref z12, .ref z13, .ref z14, .ref z15, .int z16, .ref z17, .int z18, .ref z19]))]) [0] rfl
  have hDc := hD.sub (ws' := [(za, .inr (13, [.int 0, .ref z1, .int 0, .int 0, .int z4, .int z5, .ref z6, .ref z7, .ref z8, .ref z9, .int z10, .ref z11, .ref z12, .ref z13, .ref z14, .ref z15, .int z16, .ref z17, .int z18, .ref z19]))]) [0] (by decide) rfl
  have hKc := hK.sub (tys' := []) [] rfl
  have hFc := va_free (wc := [(za, .inr (13, [.int 0, .ref z1, .int 0, .int 0, .int z4, .int z5, .ref z6, .ref z7, .ref z8, .ref z9, .int z10, .ref z11, .ref z12, .ref z13, .ref z14, .ref z15, .int z16, .ref z17, .int z18, .ref z19]))]) hD hS hA [0] rfl
  refine va_calli (va_runV (As := [.int k1]) (rest := []) ⟨hx, hb, hml, hown, hg⟩ (m_isHouse0 l D H_1.size za 0 z1 0 z4 z5 z6 z7 z8 z9 z10 z11 z12 z13 z14 z15 z16 z17 z18 z19 k1) (cwV 1 hg (gV wd_144 wd_145 wd_146 wd_147 wd_148) rfl rfl rfl (by decide +kernel) ⟨(Nat.le_of_ble_eq_true rfl), (Nat.le_of_ble_eq_true rfl)⟩) ⟨Pr.blind, va_recv hKc hPc (ci := 13) (q0 := 0) rfl rfl, fun U hU hW => ⟨rfl, Pr.at hPc hKc hDc hN hU hW⟩⟩ rfl rfl hl.1 rfl (lv_room (Nat.le_of_ble_eq_true rfl)) dX13_leaf_7 ⟨(Nat.le_of_ble_eq_true rfl), (Nat.le_of_ble_eq_true rfl)⟩) hS (fun q _ h => hFc q h) hFc (fun r_3 u t H_2 locs ht hvm hw hB hz1 hk1 hS => ?_)
  obtain ⟨hP1, hK1, hD1⟩ := hB
  rw [ht] at hP1
  have hK1 := va_K.moved hvm.symm hK1
  obtain ⟨hP, hD⟩ := va_join (wr := []) (w1 := [(za, .inr (13, [.int 0, .ref z1, .int 0, .int 0, .int z4, .int z5, .ref z6, .ref z7, .ref z8, .ref z9, .int z10, .ref z11, .ref z12, .ref z13, .ref z14, .ref z15, .int z16, .ref z17, .int z18, .ref z19]))]) hP hD [0] [] rfl rfl (by decide) (by decide) hk1 hFc hP1 hD1
  have hP : va_P D vwCl [(za, .inr (13, [.int 0, .ref z1, .int 0, .int 0, .int z4, .int z5, .ref z6, .ref z7, .ref z8, .ref z9, .int z10, .ref z11, .ref z12, .ref z13, .ref z14, .ref z15, .int z16, .ref z17, .int z18, .ref z19]))] H_2 := hP
  have hD : va_D A [(za, .inr (13, [.int 0, .ref z1, .int 0, .int 0, .int z4, .int z5, .ref z6, .ref z7, .ref z8, .ref z9, .int z10, .ref z11, .ref z12, .ref z13, .ref z14, .ref z15, .int z16, .ref z17, .int z18, .ref z19]))] := hD
  subst hw
  refine lv_if_ne (tgt := 19) hx hb dX13_leaf_10 (by decide) (fun c_4 => absurd c_4 (by decide)) (fun _ => ?_)
  refine lv_aload_n hx hb dX13_leaf_13 rfl (lv_at hl 0 rfl) ?_
  refine lv_iconst (v := 1) hx hb dX13_leaf_14 (by decide) ?_
  have hPc := hP.sub (ws' := [(za, .inr (13, [.int 0, .ref z1, .int 0, .int 0, .int z4, .int z5, .ref z6, .ref z7, .ref z8, .ref z9, .int z10, .ref z11, .ref z12, .ref z13, .ref z14, .ref z15, .int z16, .ref z17, .int z18, .ref z19]))]) [0] rfl
  have hDc := hD.sub (ws' := [(za, .inr (13, [.int 0, .ref z1, .int 0, .int 0, .int z4, .int z5, .ref z6, .ref z7, .ref z8, .ref z9, .int z10, .ref z11, .ref z12, .ref z13, .ref z14, .ref z15, .int z16, .ref z17, .int z18, .ref z19]))]) [0] (by decide) rfl
  have hKc := hK.sub (tys' := []) [] rfl
  have hFc := va_free (wc := [(za, .inr (13, [.int 0, .ref z1, .int 0, .int 0, .int z4, .int z5, .ref z6, .ref z7, .ref z8, .ref z9, .int z10, .ref z11, .ref z12, .ref z13, .ref z14, .ref z15, .int z16, .ref z17, .int z18, .ref z19]))]) hD hS hA [0] rfl
  refine va_calli (va_runV (As := [.int 1]) (rest := []) ⟨hx, hb, hml, hown, hg⟩ (m_refused l D H_2.size za 0 z1 0 0 z4 z5 z6 z7 z8 z9 z10 z11 z12 z13 z14 z15 z16 z17 z18 z19 1) (cwV 1 hg (gV wd_150 wd_151 wd_152 wd_147 wd_153) rfl rfl rfl (by decide +kernel) ⟨(Nat.le_of_ble_eq_true rfl), (Nat.le_of_ble_eq_true rfl)⟩) ⟨Pr.blind, va_recv hKc hPc (ci := 13) (q0 := 0) rfl rfl, fun U hU hW => ⟨rfl, Pr.at hPc hKc hDc hN hU hW⟩⟩ rfl rfl hl.1 rfl (lv_room (Nat.le_of_ble_eq_true rfl)) dX13_leaf_15 ⟨(Nat.le_of_ble_eq_true rfl), (Nat.le_of_ble_eq_true rfl)⟩) hS (fun q _ h => hFc q h) hFc (fun r_6 u t H_5 locs ht hvm hw hB hz1 hk1 hS => ?_)
  obtain ⟨hP1, hK1, hD1⟩ := hB
  rw [ht] at hP1
  have hK1 := va_K.moved hvm.symm hK1
  obtain ⟨hP, hD⟩ := va_join (wr := []) (w1 := [(za, .inr (13, [.int 0, .ref z1, .int 0, .int 0, .int 1, .int (-1), .ref z6, .ref z7, .ref z8, .ref z9, .int z10, .ref z11, .ref z12, .ref z13, .ref z14, .ref z15, .int z16, .ref z17, .int z18, .ref z19]))]) hP hD [0] [] rfl rfl (by decide) (by decide) hk1 hFc hP1 hD1
  have hP : va_P D vwCl [(za, .inr (13, [.int 0, .ref z1, .int 0, .int 0, .int 1, .int (-1), .ref z6, .ref z7, .ref z8, .ref z9, .int z10, .ref z11, .ref z12, .ref z13, .ref z14, .ref z15, .int z16, .ref z17, .int z18, .ref z19]))] H_5 := hP
  have hD : va_D A [(za, .inr (13, [.int 0, .ref z1, .int 0, .int 0, .int 1, .int (-1), .ref z6, .ref z7, .ref z8, .ref z9, .int z10, .ref z11, .ref z12, .ref z13, .ref z14, .ref z15, .int z16, .ref z17, .int z18, .ref z19]))] := hD
  subst hw
  exact W.iret (v := (-1)) hx hb hr (fun t ht hW => ⟨⟨(-1), (), rfl, rfl, trivial⟩, hS.F ht⟩) hS.2.2 dX13_leaf_18
set_option maxHeartbeats 4000000 in
set_option maxRecDepth 100000 in
theorem m_tear (l : Launch) (D : va_G) (sz : Nat) (za : Nat) (z0 : Int32) (z1 : Nat) (z4 : Int32) (z5 : Int32) (z6 : Nat) (z7 : Nat) (z8 : Nat) (z9 : Nat) (z10 : Int32) (z11 : Nat) (z12 : Nat) (z13 : Nat) (z14 : Nat) (z15 : Nat) (z16 : Int32) (z17 : Nat) (z18 : Int32) (z19 : Nat) (k1 : Int32) (k2 : Int32) : Met l yX13_tear (wsM yX13_tear cX13_tear 5 (some .int)) ({ frames := 1, cells := 0, slots := 0, locals := 21 }) (va_Pc [.ref za, .int k1, .int k2] (Pr D [(za, .inr (13, [.int z0, .ref z1, .int 0, .int 0, .int z4, .int z5, .ref z6, .ref z7, .ref z8, .ref z9, .int z10, .ref z11, .ref z12, .ref z13, .ref z14, .ref z15, .int z16, .ref z17, .int z18, .ref z19]))] [] sz)) (va_Qi (fun (r : Int32) (_ : Unit) => r = (-1)) (fun _ _ => True) (va_A [(za, .inr (13, [.int z0, .ref z1, .int 0, .int 0, .int z4, .int z5, .ref z6, .ref z7, .ref z8, .ref z9, .int z10, .ref z11, .ref z12, .ref z13, .ref z14, .ref z15, .int z16, .ref z17, .int z18, .ref z19]))] sz)) 0 0 (va_A [(za, .inr (13, [.int z0, .ref z1, .int 0, .int 0, .int z4, .int z5, .ref z6, .ref z7, .ref z8, .ref z9, .int z10, .ref z11, .ref z12, .ref z13, .ref z14, .ref z15, .int z16, .ref z17, .int z18, .ref z19]))] sz) := by
  refine Met.ofW (cc := cX13_tear) (maxL := 5) (ret := (some .int)) (by decide) rfl ?_
  intro p e s m args below meth c s₁ B hml hv
  obtain ⟨rfl, hsz, hP, hK, hD0, hN⟩ := hv
  have hx := B.exec
  have hb := B.bytes
  have hr := B.returns
  have hts := atoms_spec (ws := (wsM yX13_tear cX13_tear 5 (some .int))) B.pre
  have hg : ∀ w ∈ lw_good, w.before _ s = true := fun w h => hts w (List.mem_cons_of_mem _ h)
  have hown : s.vm.findClass RX13 = some m.cls := findClass_of_methodNamed B.named
  have hlocks := B.notSynchronized
  subst hsz
  have hD := hD0.self (sz := s.heap.size)
  generalize hAe : va_A [(za, .inr (13, [.int z0, .ref z1, .int 0, .int 0, .int z4, .int z5, .ref z6, .ref z7, .ref z8, .ref z9, .int z10, .ref z11, .ref z12, .ref z13, .ref z14, .ref z15, .int z16, .ref z17, .int z18, .ref z19]))] s.heap.size = A at hD ⊢
  have hA : ∀ q : Nat, s.heap.size ≤ q → A q := fun q h => by rw [← hAe]; exact Or.inr h
  have hS : va_S A s.heap s.heap [] := va_S.rf
  have hP : va_P D vwCl [(za, .inr (13, [.int z0, .ref z1, .int 0, .int 0, .int z4, .int z5, .ref z6, .ref z7, .ref z8, .ref z9, .int z10, .ref z11, .ref z12, .ref z13, .ref z14, .ref z15, .int z16, .ref z17, .int z18, .ref z19]))] s.heap := hP
  have hl := lv_entry ([.ref za, .int k1, .int k2]) (n := 5) (Nat.le_of_ble_eq_true rfl)
  rw [lg_entry_eq]
  generalize (lg_sl ([.ref za, .int k1, .int k2]) ++ List.replicate (5 - (lg_sl ([.ref za, .int k1, .int k2])).length) Slot.unset).toArray = ls at hl ⊢
  have hl : lv_has ls 5 [(0, .ref za), (1, .int k1), (2, .int k2)] := hl
  refine lv_aload_n hx hb dX13_tear_0 rfl (lv_at hl 0 rfl) ?_
  refine lv_iconst (v := 0) hx hb dX13_tear_1 (by decide) ?_
  refine va_put (D := D) (ci := 13) (v := .int 0) (ty := .int) (C := RX13) (T := TX13) (N := 20) hx hb hg inG13 tyX13 tyX13_ok nmX13 hown hK hP hD hS 0 rfl rfl 0 (by decide) (hg _ wd_149) (fun _ h9 => h9) rfl (by decide +kernel) rfl rfl (Nat.le_of_ble_eq_true rfl) dX13_tear_2 (fun H_1 locs hP hD hS => ?_)
  have hP : va_P D vwCl [(za, .inr (13, [.int 0, .ref z1, .int 0, .int 0, .int z4, .int z5, .ref z6, .ref z7, .ref z8, .ref z9, .int z10, .ref z11, .ref z12, .ref z13, .ref z14, .ref z15, .int z16, .ref z17, .int z18, .ref z19]))] H_1 := hP
  have hD : va_D A [(za, .inr (13, [.int 0, .ref z1, .int 0, .int 0, .int z4, .int z5, .ref z6, .ref z7, .ref z8, .ref z9, .int z10, .ref z11, .ref z12, .ref z13, .ref z14, .ref z15, .int z16, .ref z17, .int z18, .ref z19]))] := hD
  refine lv_aload_n hx hb dX13_tear_5 rfl (lv_at hl 0 rfl) ?_
  refine lv_iload_n hx hb dX13_tear_6 rfl (lv_at hl 1 rfl) ?_
  have hPc := hP.sub (ws' := [(za, .inr (13, [.int 0, .ref z1, .int 0, .int 0, .int z4, .int z5, .ref z6, .ref z7, .ref z8, .ref z9, .int z10, .ref z11, .ref z12, .ref z13, .ref z14, .ref z15, .int z16, .ref z17, .int z18, .ref z19]))]) [0] rfl
  have hDc := hD.sub (ws' := [(za, .inr (13, [.int 0, .ref z1, .int 0, .int 0, .int z4, .int z5, .ref z6, .ref z7, .ref z8, .ref z9, .int z10, .ref z11, .ref z12, .ref z13, .ref z14, .ref z15, .int z16, .ref z17, .int z18, .ref z19]))]) [0] (by decide) rfl
  have hKc := hK.sub (tys' := []) [] rfl
  have hFc := va_free (wc := [(za, .inr (13, [.int 0, .ref z1, .int 0, .int 0, .int z4, .int z5, .ref z6, .ref z7, .ref z8, .ref z9, .int z10, .ref z11, .ref z12, .ref z13, .ref z14, .ref z15, .int z16, .ref z17, .int z18, .ref z19]))]) hD hS hA [0] rfl
  refine va_calli (va_runV (As := [.int k1]) (rest := []) ⟨hx, hb, hml, hown, hg⟩ (m_isHouse0 l D H_1.size za 0 z1 0 z4 z5 z6 z7 z8 z9 z10 z11 z12 z13 z14 z15 z16 z17 z18 z19 k1) (cwV 1 hg (gV wd_144 wd_145 wd_146 wd_147 wd_148) rfl rfl rfl (by decide +kernel) ⟨(Nat.le_of_ble_eq_true rfl), (Nat.le_of_ble_eq_true rfl)⟩) ⟨Pr.blind, va_recv hKc hPc (ci := 13) (q0 := 0) rfl rfl, fun U hU hW => ⟨rfl, Pr.at hPc hKc hDc hN hU hW⟩⟩ rfl rfl hl.1 rfl (lv_room (Nat.le_of_ble_eq_true rfl)) dX13_tear_7 ⟨(Nat.le_of_ble_eq_true rfl), (Nat.le_of_ble_eq_true rfl)⟩) hS (fun q _ h => hFc q h) hFc (fun r_3 u t H_2 locs ht hvm hw hB hz1 hk1 hS => ?_)
  obtain ⟨hP1, hK1, hD1⟩ := hB
  rw [ht] at hP1
  have hK1 := va_K.moved hvm.symm hK1
  obtain ⟨hP, hD⟩ := va_join (wr := []) (w1 := [(za, .inr (13, [.int 0, .ref z1, .int 0, .int 0, .int z4, .int z5, .ref z6, .ref z7, .ref z8, .ref z9, .int z10, .ref z11, .ref z12, .ref z13, .ref z14, .ref z15, .int z16, .ref z17, .int z18, .ref z19]))]) hP hD [0] [] rfl rfl (by decide) (by decide) hk1 hFc hP1 hD1
  have hP : va_P D vwCl [(za, .inr (13, [.int 0, .ref z1, .int 0, .int 0, .int z4, .int z5, .ref z6, .ref z7, .ref z8, .ref z9, .int z10, .ref z11, .ref z12, .ref z13, .ref z14, .ref z15, .int z16, .ref z17, .int z18, .ref z19]))] H_2 := hP
  have hD : va_D A [(za, .inr (13, [.int 0, .ref z1, .int 0, .int 0, .int z4, .int z5, .ref z6, .ref z7, .ref z8, .ref z9, .int z10, .ref z11, .ref z12, .ref z13, .ref z14, .ref z15, .int z16, .ref z17, .int z18, .ref z19]))] := hD
  subst hw
  refine lv_if_ne (tgt := 19) hx hb dX13_tear_10 (by decide) (fun c_4 => absurd c_4 (by decide)) (fun _ => ?_)
  refine lv_aload_n hx hb dX13_tear_13 rfl (lv_at hl 0 rfl) ?_
  refine lv_iconst (v := 1) hx hb dX13_tear_14 (by decide) ?_
  have hPc := hP.sub (ws' := [(za, .inr (13, [.int 0, .ref z1, .int 0, .int 0, .int z4, .int z5, .ref z6, .ref z7, .ref z8, .ref z9, .int z10, .ref z11, .ref z12, .ref z13, .ref z14, .ref z15, .int z16, .ref z17, .int z18, .ref z19]))]) [0] rfl
  have hDc := hD.sub (ws' := [(za, .inr (13, [.int 0, .ref z1, .int 0, .int 0, .int z4, .int z5, .ref z6, .ref z7, .ref z8, .ref z9, .int z10, .ref z11, .ref z12, .ref z13, .ref z14, .ref z15, .int z16, .ref z17, .int z18, .ref z19]))]) [0] (by decide) rfl
  have hKc := hK.sub (tys' := []) [] rfl
  have hFc := va_free (wc := [(za, .inr (13, [.int 0, .ref z1, .int 0, .int 0, .int z4, .int z5, .ref z6, .ref z7, .ref z8, .ref z9, .int z10, .ref z11, .ref z12, .ref z13, .ref z14, .ref z15, .int z16, .ref z17, .int z18, .ref z19]))]) hD hS hA [0] rfl
  refine va_calli (va_runV (As := [.int 1]) (rest := []) ⟨hx, hb, hml, hown, hg⟩ (m_refused l D H_2.size za 0 z1 0 0 z4 z5 z6 z7 z8 z9 z10 z11 z12 z13 z14 z15 z16 z17 z18 z19 1) (cwV 1 hg (gV wd_150 wd_151 wd_152 wd_147 wd_153) rfl rfl rfl (by decide +kernel) ⟨(Nat.le_of_ble_eq_true rfl), (Nat.le_of_ble_eq_true rfl)⟩) ⟨Pr.blind, va_recv hKc hPc (ci := 13) (q0 := 0) rfl rfl, fun U hU hW => ⟨rfl, Pr.at hPc hKc hDc hN hU hW⟩⟩ rfl rfl hl.1 rfl (lv_room (Nat.le_of_ble_eq_true rfl)) dX13_tear_15 ⟨(Nat.le_of_ble_eq_true rfl), (Nat.le_of_ble_eq_true rfl)⟩) hS (fun q _ h => hFc q h) hFc (fun r_6 u t H_5 locs ht hvm hw hB hz1 hk1 hS => ?_)
  obtain ⟨hP1, hK1, hD1⟩ := hB
  rw [ht] at hP1
  have hK1 := va_K.moved hvm.symm hK1
  obtain ⟨hP, hD⟩ := va_join (wr := []) (w1 := [(za, .inr (13, [.int 0, .ref z1, .int 0, .int 0, .int 1, .int (-1), .ref z6, .ref z7, .ref z8, .ref z9, .int z10, .ref z11, .ref z12, .ref z13, .ref z14, .ref z15, .int z16, .ref z17, .int z18, .ref z19]))]) hP hD [0] [] rfl rfl (by decide) (by decide) hk1 hFc hP1 hD1
  have hP : va_P D vwCl [(za, .inr (13, [.int 0, .ref z1, .int 0, .int 0, .int 1, .int (-1), .ref z6, .ref z7, .ref z8, .ref z9, .int z10, .ref z11, .ref z12, .ref z13, .ref z14, .ref z15, .int z16, .ref z17, .int z18, .ref z19]))] H_5 := hP
  have hD : va_D A [(za, .inr (13, [.int 0, .ref z1, .int 0, .int 0, .int 1, .int (-1), .ref z6, .ref z7, .ref z8, .ref z9, .int z10, .ref z11, .ref z12, .ref z13, .ref z14, .ref z15, .int z16, .ref z17, .int z18, .ref z19]))] := hD
  subst hw
  exact W.iret (v := (-1)) hx hb hr (fun t ht hW => ⟨⟨(-1), (), rfl, rfl, trivial⟩, hS.F ht⟩) hS.2.2 dX13_tear_18
set_option maxHeartbeats 4000000 in
set_option maxRecDepth 100000 in
theorem m_earn (l : Launch) (D : va_G) (sz : Nat) (za : Nat) (z0 : Int32) (z1 : Nat) (z4 : Int32) (z5 : Int32) (z6 : Nat) (z7 : Nat) (z8 : Nat) (z9 : Nat) (z10 : Int32) (z11 : Nat) (z12 : Nat) (z13 : Nat) (z14 : Nat) (z15 : Nat) (z16 : Int32) (z17 : Nat) (z18 : Int32) (z19 : Nat) (k1 : Int32) (k2 : Int32) (k3 : Int32) : Met l yX13_earn (wsM yX13_earn cX13_earn 4 (some .int)) ({ frames := 2, cells := 0, slots := 0, locals := 47 }) (va_Pc [.ref za, .int k1, .int k2, .int k3] (Pr D [(za, .inr (13, [.int z0, .ref z1, .int 0, .int 0, .int z4, .int z5, .ref z6, .ref z7, .ref z8, .ref z9, .int z10, .ref z11, .ref z12, .ref z13, .ref z14, .ref z15, .int z16, .ref z17, .int z18, .ref z19]))] [] sz)) (va_Qi (fun (r : Int32) (_ : Unit) => r = (-1)) (fun _ _ => True) (va_A [(za, .inr (13, [.int z0, .ref z1, .int 0, .int 0, .int z4, .int z5, .ref z6, .ref z7, .ref z8, .ref z9, .int z10, .ref z11, .ref z12, .ref z13, .ref z14, .ref z15, .int z16, .ref z17, .int z18, .ref z19]))] sz)) 0 0 (va_A [(za, .inr (13, [.int z0, .ref z1, .int 0, .int 0, .int z4, .int z5, .ref z6, .ref z7, .ref z8, .ref z9, .int z10, .ref z11, .ref z12, .ref z13, .ref z14, .ref z15, .int z16, .ref z17, .int z18, .ref z19]))] sz) := by
  refine Met.ofW (cc := cX13_earn) (maxL := 4) (ret := (some .int)) (by decide) rfl ?_
  intro p e s m args below meth c s₁ B hml hv
  obtain ⟨rfl, hsz, hP, hK, hD0, hN⟩ := hv
  have hx := B.exec
  have hb := B.bytes
  have hr := B.returns
  have hts := atoms_spec (ws := (wsM yX13_earn cX13_earn 4 (some .int))) B.pre
  have hg : ∀ w ∈ lw_good, w.before _ s = true := fun w h => hts w (List.mem_cons_of_mem _ h)
  have hown : s.vm.findClass RX13 = some m.cls := findClass_of_methodNamed B.named
  have hlocks := B.notSynchronized
  subst hsz
  have hD := hD0.self (sz := s.heap.size)
  generalize hAe : va_A [(za, .inr (13, [.int z0, .ref z1, .int 0, .int 0, .int z4, .int z5, .ref z6, .ref z7, .ref z8, .ref z9, .int z10, .ref z11, .ref z12, .ref z13, .ref z14, .ref z15, .int z16, .ref z17, .int z18, .ref z19]))] s.heap.size = A at hD ⊢
  have hA : ∀ q : Nat, s.heap.size ≤ q → A q := fun q h => by rw [← hAe]; exact Or.inr h
  have hS : va_S A s.heap s.heap [] := va_S.rf
  have hP : va_P D vwCl [(za, .inr (13, [.int z0, .ref z1, .int 0, .int 0, .int z4, .int z5, .ref z6, .ref z7, .ref z8, .ref z9, .int z10, .ref z11, .ref z12, .ref z13, .ref z14, .ref z15, .int z16, .ref z17, .int z18, .ref z19]))] s.heap := hP
  have hl := lv_entry ([.ref za, .int k1, .int k2, .int k3]) (n := 4) (Nat.le_of_ble_eq_true rfl)
  rw [lg_entry_eq]
  generalize (lg_sl ([.ref za, .int k1, .int k2, .int k3]) ++ List.replicate (4 - (lg_sl ([.ref za, .int k1, .int k2, .int k3])).length) Slot.unset).toArray = ls at hl ⊢
  have hl : lv_has ls 4 [(0, .ref za), (1, .int k1), (2, .int k2), (3, .int k3)] := hl
  refine lv_aload_n hx hb dX13_earn_0 rfl (lv_at hl 0 rfl) ?_
  refine lv_iload_n hx hb dX13_earn_1 rfl (lv_at hl 1 rfl) ?_
  refine lv_iload_n hx hb dX13_earn_2 rfl (lv_at hl 2 rfl) ?_
  refine lv_iload_n hx hb dX13_earn_3 rfl (lv_at hl 3 rfl) ?_
  refine lv_iconst (v := 1) hx hb dX13_earn_4 (by decide) ?_
  have hPc := hP.sub (ws' := [(za, .inr (13, [.int z0, .ref z1, .int 0, .int 0, .int z4, .int z5, .ref z6, .ref z7, .ref z8, .ref z9, .int z10, .ref z11, .ref z12, .ref z13, .ref z14, .ref z15, .int z16, .ref z17, .int z18, .ref z19]))]) [0] rfl
  have hDc := hD.sub (ws' := [(za, .inr (13, [.int z0, .ref z1, .int 0, .int 0, .int z4, .int z5, .ref z6, .ref z7, .ref z8, .ref z9, .int z10, .ref z11, .ref z12, .ref z13, .ref z14, .ref z15, .int z16, .ref z17, .int z18, .ref z19]))]) [0] (by decide) rfl
  have hKc := hK.sub (tys' := []) [] rfl
  have hFc := va_free (wc := [(za, .inr (13, [.int z0, .ref z1, .int 0, .int 0, .int z4, .int z5, .ref z6, .ref z7, .ref z8, .ref z9, .int z10, .ref z11, .ref z12, .ref z13, .ref z14, .ref z15, .int z16, .ref z17, .int z18, .ref z19]))]) hD hS hA [0] rfl
  refine va_calli (va_runV (As := [.int k1, .int k2, .int k3, .int 1]) (rest := []) ⟨hx, hb, hml, hown, hg⟩ (m_enters l D s.heap.size za z0 z1 z4 z5 z6 z7 z8 z9 z10 z11 z12 z13 z14 z15 z16 z17 z18 z19 k1 k2 k3 1) (cwV 4 hg (gV wd_159 wd_160 wd_161 wd_147 wd_162) rfl rfl rfl (by decide +kernel) ⟨(Nat.le_of_ble_eq_true rfl), (Nat.le_of_ble_eq_true rfl)⟩) ⟨Pr.blind, va_recv hKc hPc (ci := 13) (q0 := 0) rfl rfl, fun U hU hW => ⟨rfl, Pr.at hPc hKc hDc hN hU hW⟩⟩ rfl rfl hl.1 rfl (lv_room (Nat.le_of_ble_eq_true rfl)) dX13_earn_5 ⟨(Nat.le_of_ble_eq_true rfl), (Nat.le_of_ble_eq_true rfl)⟩) hS (fun q _ h => hFc q h) hFc (fun r_2 u t H_1 locs ht hvm hw hB hz1 hk1 hS => ?_)
  obtain ⟨hP, hD⟩ := forget_join (wr := []) hP hD [0] [] rfl rfl (by decide) (by decide) hk1 hFc
  have hP : va_P D vwCl [] H_1 := hP
  have hD : va_D A [] := hD
  subst hw
  exact W.iret (v := (-1)) hx hb hr (fun t ht hW => ⟨⟨(-1), (), rfl, rfl, trivial⟩, hS.F ht⟩) hS.2.2 dX13_earn_8
set_option maxHeartbeats 4000000 in
set_option maxRecDepth 100000 in
theorem m_spend (l : Launch) (D : va_G) (sz : Nat) (za : Nat) (z0 : Int32) (z1 : Nat) (z4 : Int32) (z5 : Int32) (z6 : Nat) (z7 : Nat) (z8 : Nat) (z9 : Nat) (z10 : Int32) (z11 : Nat) (z12 : Nat) (z13 : Nat) (z14 : Nat) (z15 : Nat) (z16 : Int32) (z17 : Nat) (z18 : Int32) (z19 : Nat) (k1 : Int32) (k2 : Int32) (k3 : Int32) : Met l yX13_spend (wsM yX13_spend cX13_spend 4 (some .int)) ({ frames := 2, cells := 0, slots := 0, locals := 47 }) (va_Pc [.ref za, .int k1, .int k2, .int k3] (Pr D [(za, .inr (13, [.int z0, .ref z1, .int 0, .int 0, .int z4, .int z5, .ref z6, .ref z7, .ref z8, .ref z9, .int z10, .ref z11, .ref z12, .ref z13, .ref z14, .ref z15, .int z16, .ref z17, .int z18, .ref z19]))] [] sz)) (va_Qi (fun (r : Int32) (_ : Unit) => r = (-1)) (fun _ _ => True) (va_A [(za, .inr (13, [.int z0, .ref z1, .int 0, .int 0, .int z4, .int z5, .ref z6, .ref z7, .ref z8, .ref z9, .int z10, .ref z11, .ref z12, .ref z13, .ref z14, .ref z15, .int z16, .ref z17, .int z18, .ref z19]))] sz)) 0 0 (va_A [(za, .inr (13, [.int z0, .ref z1, .int 0, .int 0, .int z4, .int z5, .ref z6, .ref z7, .ref z8, .ref z9, .int z10, .ref z11, .ref z12, .ref z13, .ref z14, .ref z15, .int z16, .ref z17, .int z18, .ref z19]))] sz) := by
  refine Met.ofW (cc := cX13_spend) (maxL := 4) (ret := (some .int)) (by decide) rfl ?_
  intro p e s m args below meth c s₁ B hml hv
  obtain ⟨rfl, hsz, hP, hK, hD0, hN⟩ := hv
  have hx := B.exec
  have hb := B.bytes
  have hr := B.returns
  have hts := atoms_spec (ws := (wsM yX13_spend cX13_spend 4 (some .int))) B.pre
  have hg : ∀ w ∈ lw_good, w.before _ s = true := fun w h => hts w (List.mem_cons_of_mem _ h)
  have hown : s.vm.findClass RX13 = some m.cls := findClass_of_methodNamed B.named
  have hlocks := B.notSynchronized
  subst hsz
  have hD := hD0.self (sz := s.heap.size)
  generalize hAe : va_A [(za, .inr (13, [.int z0, .ref z1, .int 0, .int 0, .int z4, .int z5, .ref z6, .ref z7, .ref z8, .ref z9, .int z10, .ref z11, .ref z12, .ref z13, .ref z14, .ref z15, .int z16, .ref z17, .int z18, .ref z19]))] s.heap.size = A at hD ⊢
  have hA : ∀ q : Nat, s.heap.size ≤ q → A q := fun q h => by rw [← hAe]; exact Or.inr h
  have hS : va_S A s.heap s.heap [] := va_S.rf
  have hP : va_P D vwCl [(za, .inr (13, [.int z0, .ref z1, .int 0, .int 0, .int z4, .int z5, .ref z6, .ref z7, .ref z8, .ref z9, .int z10, .ref z11, .ref z12, .ref z13, .ref z14, .ref z15, .int z16, .ref z17, .int z18, .ref z19]))] s.heap := hP
  have hl := lv_entry ([.ref za, .int k1, .int k2, .int k3]) (n := 4) (Nat.le_of_ble_eq_true rfl)
  rw [lg_entry_eq]
  generalize (lg_sl ([.ref za, .int k1, .int k2, .int k3]) ++ List.replicate (4 - (lg_sl ([.ref za, .int k1, .int k2, .int k3])).length) Slot.unset).toArray = ls at hl ⊢
  have hl : lv_has ls 4 [(0, .ref za), (1, .int k1), (2, .int k2), (3, .int k3)] := hl
  refine lv_aload_n hx hb dX13_spend_0 rfl (lv_at hl 0 rfl) ?_
  refine lv_iload_n hx hb dX13_spend_1 rfl (lv_at hl 1 rfl) ?_
  refine lv_iload_n hx hb dX13_spend_2 rfl (lv_at hl 2 rfl) ?_
  refine lv_iload_n hx hb dX13_spend_3 rfl (lv_at hl 3 rfl) ?_
  refine lv_iconst (v := (-1)) hx hb dX13_spend_4 (by decide) ?_
  have hPc := hP.sub (ws' := [(za, .inr (13, [.int z0, .ref z1, .int 0, .int 0, .int z4, .int z5, .ref z6, .ref z7, .ref z8, .ref z9, .int z10, .ref z11, .ref z12, .ref z13, .ref z14, .ref z15, .int z16, .ref z17, .int z18, .ref z19]))]) [0] rfl
  have hDc := hD.sub (ws' := [(za, .inr (13, [.int z0, .ref z1, .int 0, .int 0, .int z4, .int z5, .ref z6, .ref z7, .ref z8, .ref z9, .int z10, .ref z11, .ref z12, .ref z13, .ref z14, .ref z15, .int z16, .ref z17, .int z18, .ref z19]))]) [0] (by decide) rfl
  have hKc := hK.sub (tys' := []) [] rfl
  have hFc := va_free (wc := [(za, .inr (13, [.int z0, .ref z1, .int 0, .int 0, .int z4, .int z5, .ref z6, .ref z7, .ref z8, .ref z9, .int z10, .ref z11, .ref z12, .ref z13, .ref z14, .ref z15, .int z16, .ref z17, .int z18, .ref z19]))]) hD hS hA [0] rfl
  refine va_calli (va_runV (As := [.int k1, .int k2, .int k3, .int (-1)]) (rest := []) ⟨hx, hb, hml, hown, hg⟩ (m_enters l D s.heap.size za z0 z1 z4 z5 z6 z7 z8 z9 z10 z11 z12 z13 z14 z15 z16 z17 z18 z19 k1 k2 k3 (-1)) (cwV 4 hg (gV wd_159 wd_160 wd_161 wd_147 wd_162) rfl rfl rfl (by decide +kernel) ⟨(Nat.le_of_ble_eq_true rfl), (Nat.le_of_ble_eq_true rfl)⟩) ⟨Pr.blind, va_recv hKc hPc (ci := 13) (q0 := 0) rfl rfl, fun U hU hW => ⟨rfl, Pr.at hPc hKc hDc hN hU hW⟩⟩ rfl rfl hl.1 rfl (lv_room (Nat.le_of_ble_eq_true rfl)) dX13_spend_5 ⟨(Nat.le_of_ble_eq_true rfl), (Nat.le_of_ble_eq_true rfl)⟩) hS (fun q _ h => hFc q h) hFc (fun r_2 u t H_1 locs ht hvm hw hB hz1 hk1 hS => ?_)
  obtain ⟨hP, hD⟩ := forget_join (wr := []) hP hD [0] [] rfl rfl (by decide) (by decide) hk1 hFc
  have hP : va_P D vwCl [] H_1 := hP
  have hD : va_D A [] := hD
  subst hw
  exact W.iret (v := (-1)) hx hb hr (fun t ht hW => ⟨⟨(-1), (), rfl, rfl, trivial⟩, hS.F ht⟩) hS.2.2 dX13_spend_8
set_option maxHeartbeats 4000000 in
set_option maxRecDepth 100000 in
theorem m_loose (l : Launch) (D : va_G) (sz : Nat) (za : Nat) (z0 : Int32) (z1 : Nat) (z4 : Int32) (z5 : Int32) (z6 : Nat) (z7 : Nat) (z8 : Nat) (z9 : Nat) (z10 : Int32) (z11 : Nat) (z12 : Nat) (z13 : Nat) (z14 : Nat) (z15 : Nat) (z16 : Int32) (z17 : Nat) (z18 : Int32) (z19 : Nat) (k1 : Int32) (k2 : Int32) : Met l yX13_loose (wsM yX13_loose cX13_loose 6 (some .int)) ({ frames := 1, cells := 0, slots := 0, locals := 21 }) (va_Pc [.ref za, .int k1, .int k2] (Pr D [(za, .inr (13, [.int z0, .ref z1, .int 0, .int 0, .int z4, .int z5, .ref z6, .ref z7, .ref z8, .ref z9, .int z10, .ref z11, .ref z12, .ref z13, .ref z14, .ref z15, .int z16, .ref z17, .int z18, .ref z19]))] [] sz)) (va_Qi (fun (r : Int32) (_ : Unit) => r = (-1)) (fun _ _ => True) (va_A [(za, .inr (13, [.int z0, .ref z1, .int 0, .int 0, .int z4, .int z5, .ref z6, .ref z7, .ref z8, .ref z9, .int z10, .ref z11, .ref z12, .ref z13, .ref z14, .ref z15, .int z16, .ref z17, .int z18, .ref z19]))] sz)) 0 0 (va_A [(za, .inr (13, [.int z0, .ref z1, .int 0, .int 0, .int z4, .int z5, .ref z6, .ref z7, .ref z8, .ref z9, .int z10, .ref z11, .ref z12, .ref z13, .ref z14, .ref z15, .int z16, .ref z17, .int z18, .ref z19]))] sz) := by
  refine Met.ofW (cc := cX13_loose) (maxL := 6) (ret := (some .int)) (by decide) rfl ?_
  intro p e s m args below meth c s₁ B hml hv
  obtain ⟨rfl, hsz, hP, hK, hD0, hN⟩ := hv
  have hx := B.exec
  have hb := B.bytes
  have hr := B.returns
  have hts := atoms_spec (ws := (wsM yX13_loose cX13_loose 6 (some .int))) B.pre
  have hg : ∀ w ∈ lw_good, w.before _ s = true := fun w h => hts w (List.mem_cons_of_mem _ h)
  have hown : s.vm.findClass RX13 = some m.cls := findClass_of_methodNamed B.named
  have hlocks := B.notSynchronized
  subst hsz
  have hD := hD0.self (sz := s.heap.size)
  generalize hAe : va_A [(za, .inr (13, [.int z0, .ref z1, .int 0, .int 0, .int z4, .int z5, .ref z6, .ref z7, .ref z8, .ref z9, .int z10, .ref z11, .ref z12, .ref z13, .ref z14, .ref z15, .int z16, .ref z17, .int z18, .ref z19]))] s.heap.size = A at hD ⊢
  have hA : ∀ q : Nat, s.heap.size ≤ q → A q := fun q h => by rw [← hAe]; exact Or.inr h
  have hS : va_S A s.heap s.heap [] := va_S.rf
  have hP : va_P D vwCl [(za, .inr (13, [.int z0, .ref z1, .int 0, .int 0, .int z4, .int z5, .ref z6, .ref z7, .ref z8, .ref z9, .int z10, .ref z11, .ref z12, .ref z13, .ref z14, .ref z15, .int z16, .ref z17, .int z18, .ref z19]))] s.heap := hP
  have hl := lv_entry ([.ref za, .int k1, .int k2]) (n := 6) (Nat.le_of_ble_eq_true rfl)
  rw [lg_entry_eq]
  generalize (lg_sl ([.ref za, .int k1, .int k2]) ++ List.replicate (6 - (lg_sl ([.ref za, .int k1, .int k2])).length) Slot.unset).toArray = ls at hl ⊢
  have hl : lv_has ls 6 [(0, .ref za), (1, .int k1), (2, .int k2)] := hl
  refine lv_aload_n hx hb dX13_loose_0 rfl (lv_at hl 0 rfl) ?_
  refine lv_iconst (v := 0) hx hb dX13_loose_1 (by decide) ?_
  refine va_put (D := D) (ci := 13) (v := .int 0) (ty := .int) (C := RX13) (T := TX13) (N := 20) hx hb hg inG13 tyX13 tyX13_ok nmX13 hown hK hP hD hS 0 rfl rfl 0 (by decide) (hg _ wd_149) (fun _ h9 => h9) rfl (by decide +kernel) rfl rfl (Nat.le_of_ble_eq_true rfl) dX13_loose_2 (fun H_1 locs hP hD hS => ?_)
  have hP : va_P D vwCl [(za, .inr (13, [.int 0, .ref z1, .int 0, .int 0, .int z4, .int z5, .ref z6, .ref z7, .ref z8, .ref z9, .int z10, .ref z11, .ref z12, .ref z13, .ref z14, .ref z15, .int z16, .ref z17, .int z18, .ref z19]))] H_1 := hP
  have hD : va_D A [(za, .inr (13, [.int 0, .ref z1, .int 0, .int 0, .int z4, .int z5, .ref z6, .ref z7, .ref z8, .ref z9, .int z10, .ref z11, .ref z12, .ref z13, .ref z14, .ref z15, .int z16, .ref z17, .int z18, .ref z19]))] := hD
  refine lv_aload_n hx hb dX13_loose_5 rfl (lv_at hl 0 rfl) ?_
  refine lv_iload_n hx hb dX13_loose_6 rfl (lv_at hl 1 rfl) ?_
  have hPc := hP.sub (ws' := [(za, .inr (13, [.int 0, .ref z1, .int 0, .int 0, .int z4, .int z5, .ref z6, .ref z7, .ref z8, .ref z9, .int z10, .ref z11, .ref z12, .ref z13, .ref z14, .ref z15, .int z16, .ref z17, .int z18, .ref z19]))]) [0] rfl
  have hDc := hD.sub (ws' := [(za, .inr (13, [.int 0, .ref z1, .int 0, .int 0, .int z4, .int z5, .ref z6, .ref z7, .ref z8, .ref z9, .int z10, .ref z11, .ref z12, .ref z13, .ref z14, .ref z15, .int z16, .ref z17, .int z18, .ref z19]))]) [0] (by decide) rfl
  have hKc := hK.sub (tys' := []) [] rfl
  have hFc := va_free (wc := [(za, .inr (13, [.int 0, .ref z1, .int 0, .int 0, .int z4, .int z5, .ref z6, .ref z7, .ref z8, .ref z9, .int z10, .ref z11, .ref z12, .ref z13, .ref z14, .ref z15, .int z16, .ref z17, .int z18, .ref z19]))]) hD hS hA [0] rfl
  refine va_calli (va_runV (As := [.int k1]) (rest := []) ⟨hx, hb, hml, hown, hg⟩ (m_isHouse0 l D H_1.size za 0 z1 0 z4 z5 z6 z7 z8 z9 z10 z11 z12 z13 z14 z15 z16 z17 z18 z19 k1) (cwV 1 hg (gV wd_144 wd_145 wd_146 wd_147 wd_148) rfl rfl rfl (by decide +kernel) ⟨(Nat.le_of_ble_eq_true rfl), (Nat.le_of_ble_eq_true rfl)⟩) ⟨Pr.blind, va_recv hKc hPc (ci := 13) (q0 := 0) rfl rfl, fun U hU hW => ⟨rfl, Pr.at hPc hKc hDc hN hU hW⟩⟩ rfl rfl hl.1 rfl (lv_room (Nat.le_of_ble_eq_true rfl)) dX13_loose_7 ⟨(Nat.le_of_ble_eq_true rfl), (Nat.le_of_ble_eq_true rfl)⟩) hS (fun q _ h => hFc q h) hFc (fun r_3 u t H_2 locs ht hvm hw hB hz1 hk1 hS => ?_)
  obtain ⟨hP1, hK1, hD1⟩ := hB
  rw [ht] at hP1
  have hK1 := va_K.moved hvm.symm hK1
  obtain ⟨hP, hD⟩ := va_join (wr := []) (w1 := [(za, .inr (13, [.int 0, .ref z1, .int 0, .int 0, .int z4, .int z5, .ref z6, .ref z7, .ref z8, .ref z9, .int z10, .ref z11, .ref z12, .ref z13, .ref z14, .ref z15, .int z16, .ref z17, .int z18, .ref z19]))]) hP hD [0] [] rfl rfl (by decide) (by decide) hk1 hFc hP1 hD1
  have hP : va_P D vwCl [(za, .inr (13, [.int 0, .ref z1, .int 0, .int 0, .int z4, .int z5, .ref z6, .ref z7, .ref z8, .ref z9, .int z10, .ref z11, .ref z12, .ref z13, .ref z14, .ref z15, .int z16, .ref z17, .int z18, .ref z19]))] H_2 := hP
  have hD : va_D A [(za, .inr (13, [.int 0, .ref z1, .int 0, .int 0, .int z4, .int z5, .ref z6, .ref z7, .ref z8, .ref z9, .int z10, .ref z11, .ref z12, .ref z13, .ref z14, .ref z15, .int z16, .ref z17, .int z18, .ref z19]))] := hD
  subst hw
  refine lv_if_ne (tgt := 19) hx hb dX13_loose_10 (by decide) (fun c_4 => absurd c_4 (by decide)) (fun _ => ?_)
  refine lv_aload_n hx hb dX13_loose_13 rfl (lv_at hl 0 rfl) ?_
  refine lv_iconst (v := 1) hx hb dX13_loose_14 (by decide) ?_
  have hPc := hP.sub (ws' := [(za, .inr (13, [.int 0, .ref z1, .int 0, .int 0, .int z4, .int z5, .ref z6, .ref z7, .ref z8, .ref z9, .int z10, .ref z11, .ref z12, .ref z13, .ref z14, .ref z15, .int z16, .ref z17, .int z18, .ref z19]))]) [0] rfl
  have hDc := hD.sub (ws' := [(za, .inr (13, [.int 0, .ref z1, .int 0, .int 0, .int z4, .int z5, .ref z6, .ref z7, .ref z8, .ref z9, .int z10, .ref z11, .ref z12, .ref z13, .ref z14, .ref z15, .int z16, .ref z17, .int z18, .ref z19]))]) [0] (by decide) rfl
  have hKc := hK.sub (tys' := []) [] rfl
  have hFc := va_free (wc := [(za, .inr (13, [.int 0, .ref z1, .int 0, .int 0, .int z4, .int z5, .ref z6, .ref z7, .ref z8, .ref z9, .int z10, .ref z11, .ref z12, .ref z13, .ref z14, .ref z15, .int z16, .ref z17, .int z18, .ref z19]))]) hD hS hA [0] rfl
  refine va_calli (va_runV (As := [.int 1]) (rest := []) ⟨hx, hb, hml, hown, hg⟩ (m_refused l D H_2.size za 0 z1 0 0 z4 z5 z6 z7 z8 z9 z10 z11 z12 z13 z14 z15 z16 z17 z18 z19 1) (cwV 1 hg (gV wd_150 wd_151 wd_152 wd_147 wd_153) rfl rfl rfl (by decide +kernel) ⟨(Nat.le_of_ble_eq_true rfl), (Nat.le_of_ble_eq_true rfl)⟩) ⟨Pr.blind, va_recv hKc hPc (ci := 13) (q0 := 0) rfl rfl, fun U hU hW => ⟨rfl, Pr.at hPc hKc hDc hN hU hW⟩⟩ rfl rfl hl.1 rfl (lv_room (Nat.le_of_ble_eq_true rfl)) dX13_loose_15 ⟨(Nat.le_of_ble_eq_true rfl), (Nat.le_of_ble_eq_true rfl)⟩) hS (fun q _ h => hFc q h) hFc (fun r_6 u t H_5 locs ht hvm hw hB hz1 hk1 hS => ?_)
  obtain ⟨hP1, hK1, hD1⟩ := hB
  rw [ht] at hP1
  have hK1 := va_K.moved hvm.symm hK1
  obtain ⟨hP, hD⟩ := va_join (wr := []) (w1 := [(za, .inr (13, [.int 0, .ref z1, .int 0, .int 0, .int 1, .int (-1), .ref z6, .ref z7, .ref z8, .ref z9, .int z10, .ref z11, .ref z12, .ref z13, .ref z14, .ref z15, .int z16, .ref z17, .int z18, .ref z19]))]) hP hD [0] [] rfl rfl (by decide) (by decide) hk1 hFc hP1 hD1
  have hP : va_P D vwCl [(za, .inr (13, [.int 0, .ref z1, .int 0, .int 0, .int 1, .int (-1), .ref z6, .ref z7, .ref z8, .ref z9, .int z10, .ref z11, .ref z12, .ref z13, .ref z14, .ref z15, .int z16, .ref z17, .int z18, .ref z19]))] H_5 := hP
  have hD : va_D A [(za, .inr (13, [.int 0, .ref z1, .int 0, .int 0, .int 1, .int (-1), .ref z6, .ref z7, .ref z8, .ref z9, .int z10, .ref z11, .ref z12, .ref z13, .ref z14, .ref z15, .int z16, .ref z17, .int z18, .ref z19]))] := hD
  subst hw
  exact W.iret (v := (-1)) hx hb hr (fun t ht hW => ⟨⟨(-1), (), rfl, rfl, trivial⟩, hS.F ht⟩) hS.2.2 dX13_loose_18
set_option maxHeartbeats 4000000 in
set_option maxRecDepth 100000 in
theorem m_move (l : Launch) (D : va_G) (sz : Nat) (za : Nat) (z0 : Int32) (z1 : Nat) (z4 : Int32) (z5 : Int32) (z6 : Nat) (z7 : Nat) (z8 : Nat) (z9 : Nat) (z10 : Int32) (z11 : Nat) (z12 : Nat) (z13 : Nat) (z14 : Nat) (z15 : Nat) (z16 : Int32) (z17 : Nat) (z18 : Int32) (z19 : Nat) (k1 : Int32) (k2 : Int32) (k3 : Int32) (k4 : Int32) (k5 : Int32) : Met l yX13_move (wsM yX13_move cX13_move 7 (some .int)) ({ frames := 2, cells := 0, slots := 0, locals := 43 }) (va_Pc [.ref za, .int k1, .int k2, .int k3, .int k4, .int k5] (Pr D [(za, .inr (13, [.int z0, .ref z1, .int 0, .int 0, .int z4, .int z5, .ref z6, .ref z7, .ref z8, .ref z9, .int z10, .ref z11, .ref z12, .ref z13, .ref z14, .ref z15, .int z16, .ref z17, .int z18, .ref z19]))] [] sz)) (va_Qi (fun (r : Int32) (_ : Unit) => r = (-1)) (fun _ _ => True) (va_A [(za, .inr (13, [.int z0, .ref z1, .int 0, .int 0, .int z4, .int z5, .ref z6, .ref z7, .ref z8, .ref z9, .int z10, .ref z11, .ref z12, .ref z13, .ref z14, .ref z15, .int z16, .ref z17, .int z18, .ref z19]))] sz)) 0 0 (va_A [(za, .inr (13, [.int z0, .ref z1, .int 0, .int 0, .int z4, .int z5, .ref z6, .ref z7, .ref z8, .ref z9, .int z10, .ref z11, .ref z12, .ref z13, .ref z14, .ref z15, .int z16, .ref z17, .int z18, .ref z19]))] sz) := by
  refine Met.ofW (cc := cX13_move) (maxL := 7) (ret := (some .int)) (by decide) rfl ?_
  intro p e s m args below meth c s₁ B hml hv
  obtain ⟨rfl, hsz, hP, hK, hD0, hN⟩ := hv
  have hx := B.exec
  have hb := B.bytes
  have hr := B.returns
  have hts := atoms_spec (ws := (wsM yX13_move cX13_move 7 (some .int))) B.pre
  have hg : ∀ w ∈ lw_good, w.before _ s = true := fun w h => hts w (List.mem_cons_of_mem _ h)
  have hown : s.vm.findClass RX13 = some m.cls := findClass_of_methodNamed B.named
  have hlocks := B.notSynchronized
  subst hsz
  have hD := hD0.self (sz := s.heap.size)
  generalize hAe : va_A [(za, .inr (13, [.int z0, .ref z1, .int 0, .int 0, .int z4, .int z5, .ref z6, .ref z7, .ref z8, .ref z9, .int z10, .ref z11, .ref z12, .ref z13, .ref z14, .ref z15, .int z16, .ref z17, .int z18, .ref z19]))] s.heap.size = A at hD ⊢
  have hA : ∀ q : Nat, s.heap.size ≤ q → A q := fun q h => by rw [← hAe]; exact Or.inr h
  have hS : va_S A s.heap s.heap [] := va_S.rf
  have hP : va_P D vwCl [(za, .inr (13, [.int z0, .ref z1, .int 0, .int 0, .int z4, .int z5, .ref z6, .ref z7, .ref z8, .ref z9, .int z10, .ref z11, .ref z12, .ref z13, .ref z14, .ref z15, .int z16, .ref z17, .int z18, .ref z19]))] s.heap := hP
  have hl := lv_entry ([.ref za, .int k1, .int k2, .int k3, .int k4, .int k5]) (n := 7) (Nat.le_of_ble_eq_true rfl)
  rw [lg_entry_eq]
  generalize (lg_sl ([.ref za, .int k1, .int k2, .int k3, .int k4, .int k5]) ++ List.replicate (7 - (lg_sl ([.ref za, .int k1, .int k2, .int k3, .int k4, .int k5])).length) Slot.unset).toArray = ls at hl ⊢
  have hl : lv_has ls 7 [(0, .ref za), (1, .int k1), (2, .int k2), (3, .int k3), (4, .int k4), (5, .int k5)] := hl
  refine lv_aload_n hx hb dX13_move_0 rfl (lv_at hl 0 rfl) ?_
  refine lv_iconst (v := 0) hx hb dX13_move_1 (by decide) ?_
  refine va_put (D := D) (ci := 13) (v := .int 0) (ty := .int) (C := RX13) (T := TX13) (N := 20) hx hb hg inG13 tyX13 tyX13_ok nmX13 hown hK hP hD hS 0 rfl rfl 0 (by decide) (hg _ wd_149) (fun _ h9 => h9) rfl (by decide +kernel) rfl rfl (Nat.le_of_ble_eq_true rfl) dX13_move_2 (fun H_1 locs hP hD hS => ?_)
  have hP : va_P D vwCl [(za, .inr (13, [.int 0, .ref z1, .int 0, .int 0, .int z4, .int z5, .ref z6, .ref z7, .ref z8, .ref z9, .int z10, .ref z11, .ref z12, .ref z13, .ref z14, .ref z15, .int z16, .ref z17, .int z18, .ref z19]))] H_1 := hP
  have hD : va_D A [(za, .inr (13, [.int 0, .ref z1, .int 0, .int 0, .int z4, .int z5, .ref z6, .ref z7, .ref z8, .ref z9, .int z10, .ref z11, .ref z12, .ref z13, .ref z14, .ref z15, .int z16, .ref z17, .int z18, .ref z19]))] := hD
  refine lv_aload_n hx hb dX13_move_5 rfl (lv_at hl 0 rfl) ?_
  refine lv_iload_n hx hb dX13_move_6 rfl (lv_at hl 1 rfl) ?_
  refine lv_iload_n hx hb dX13_move_7 rfl (lv_at hl 2 rfl) ?_
  have hPc := hP.sub (ws' := [(za, .inr (13, [.int 0, .ref z1, .int 0, .int 0, .int z4, .int z5, .ref z6, .ref z7, .ref z8, .ref z9, .int z10, .ref z11, .ref z12, .ref z13, .ref z14, .ref z15, .int z16, .ref z17, .int z18, .ref z19]))]) [0] rfl
  have hDc := hD.sub (ws' := [(za, .inr (13, [.int 0, .ref z1, .int 0, .int 0, .int z4, .int z5, .ref z6, .ref z7, .ref z8, .ref z9, .int z10, .ref z11, .ref z12, .ref z13, .ref z14, .ref z15, .int z16, .ref z17, .int z18, .ref z19]))]) [0] (by decide) rfl
  have hKc := hK.sub (tys' := []) [] rfl
  have hFc := va_free (wc := [(za, .inr (13, [.int 0, .ref z1, .int 0, .int 0, .int z4, .int z5, .ref z6, .ref z7, .ref z8, .ref z9, .int z10, .ref z11, .ref z12, .ref z13, .ref z14, .ref z15, .int z16, .ref z17, .int z18, .ref z19]))]) hD hS hA [0] rfl
  refine va_calli (va_runV (As := [.int k1, .int k2]) (rest := []) ⟨hx, hb, hml, hown, hg⟩ (m_isTenure0 l D H_1.size za 0 z1 0 z4 z5 z6 z7 z8 z9 z10 z11 z12 z13 z14 z15 z16 z17 z18 z19 k1 k2) (cwV 2 hg (gV wd_163 wd_164 wd_165 wd_147 wd_166) rfl rfl rfl (by decide +kernel) ⟨(Nat.le_of_ble_eq_true rfl), (Nat.le_of_ble_eq_true rfl)⟩) ⟨Pr.blind, va_recv hKc hPc (ci := 13) (q0 := 0) rfl rfl, fun U hU hW => ⟨rfl, Pr.at hPc hKc hDc hN hU hW⟩⟩ rfl rfl hl.1 rfl (lv_room (Nat.le_of_ble_eq_true rfl)) dX13_move_8 ⟨(Nat.le_of_ble_eq_true rfl), (Nat.le_of_ble_eq_true rfl)⟩) hS (fun q _ h => hFc q h) hFc (fun r_3 u t H_2 locs ht hvm hw hB hz1 hk1 hS => ?_)
  obtain ⟨hP1, hK1, hD1⟩ := hB
  rw [ht] at hP1
  have hK1 := va_K.moved hvm.symm hK1
  obtain ⟨hP, hD⟩ := va_join (wr := []) (w1 := [(za, .inr (13, [.int 0, .ref z1, .int 0, .int 0, .int z4, .int z5, .ref z6, .ref z7, .ref z8, .ref z9, .int z10, .ref z11, .ref z12, .ref z13, .ref z14, .ref z15, .int z16, .ref z17, .int z18, .ref z19]))]) hP hD [0] [] rfl rfl (by decide) (by decide) hk1 hFc hP1 hD1
  have hP : va_P D vwCl [(za, .inr (13, [.int 0, .ref z1, .int 0, .int 0, .int z4, .int z5, .ref z6, .ref z7, .ref z8, .ref z9, .int z10, .ref z11, .ref z12, .ref z13, .ref z14, .ref z15, .int z16, .ref z17, .int z18, .ref z19]))] H_2 := hP
  have hD : va_D A [(za, .inr (13, [.int 0, .ref z1, .int 0, .int 0, .int z4, .int z5, .ref z6, .ref z7, .ref z8, .ref z9, .int z10, .ref z11, .ref z12, .ref z13, .ref z14, .ref z15, .int z16, .ref z17, .int z18, .ref z19]))] := hD
  subst hw
  refine lv_if_ne (tgt := 20) hx hb dX13_move_11 (by decide) (fun c_4 => absurd c_4 (by decide)) (fun _ => ?_)
  refine lv_aload_n hx hb dX13_move_14 rfl (lv_at hl 0 rfl) ?_
  refine lv_iconst (v := 1) hx hb dX13_move_15 (by decide) ?_
  have hPc := hP.sub (ws' := [(za, .inr (13, [.int 0, .ref z1, .int 0, .int 0, .int z4, .int z5, .ref z6, .ref z7, .ref z8, .ref z9, .int z10, .ref z11, .ref z12, .ref z13, .ref z14, .ref z15, .int z16, .ref z17, .int z18, .ref z19]))]) [0] rfl
  have hDc := hD.sub (ws' := [(za, .inr (13, [.int 0, .ref z1, .int 0, .int 0, .int z4, .int z5, .ref z6, .ref z7, .ref z8, .ref z9, .int z10, .ref z11, .ref z12, .ref z13, .ref z14, .ref z15, .int z16, .ref z17, .int z18, .ref z19]))]) [0] (by decide) rfl
  have hKc := hK.sub (tys' := []) [] rfl
  have hFc := va_free (wc := [(za, .inr (13, [.int 0, .ref z1, .int 0, .int 0, .int z4, .int z5, .ref z6, .ref z7, .ref z8, .ref z9, .int z10, .ref z11, .ref z12, .ref z13, .ref z14, .ref z15, .int z16, .ref z17, .int z18, .ref z19]))]) hD hS hA [0] rfl
  refine va_calli (va_runV (As := [.int 1]) (rest := []) ⟨hx, hb, hml, hown, hg⟩ (m_refused l D H_2.size za 0 z1 0 0 z4 z5 z6 z7 z8 z9 z10 z11 z12 z13 z14 z15 z16 z17 z18 z19 1) (cwV 1 hg (gV wd_150 wd_151 wd_152 wd_147 wd_153) rfl rfl rfl (by decide +kernel) ⟨(Nat.le_of_ble_eq_true rfl), (Nat.le_of_ble_eq_true rfl)⟩) ⟨Pr.blind, va_recv hKc hPc (ci := 13) (q0 := 0) rfl rfl, fun U hU hW => ⟨rfl, Pr.at hPc hKc hDc hN hU hW⟩⟩ rfl rfl hl.1 rfl (lv_room (Nat.le_of_ble_eq_true rfl)) dX13_move_16 ⟨(Nat.le_of_ble_eq_true rfl), (Nat.le_of_ble_eq_true rfl)⟩) hS (fun q _ h => hFc q h) hFc (fun r_6 u t H_5 locs ht hvm hw hB hz1 hk1 hS => ?_)
  obtain ⟨hP1, hK1, hD1⟩ := hB
  rw [ht] at hP1
  have hK1 := va_K.moved hvm.symm hK1
  obtain ⟨hP, hD⟩ := va_join (wr := []) (w1 := [(za, .inr (13, [.int 0, .ref z1, .int 0, .int 0, .int 1, .int (-1), .ref z6, .ref z7, .ref z8, .ref z9, .int z10, .ref z11, .ref z12, .ref z13, .ref z14, .ref z15, .int z16, .ref z17, .int z18, .ref z19]))]) hP hD [0] [] rfl rfl (by decide) (by decide) hk1 hFc hP1 hD1
  have hP : va_P D vwCl [(za, .inr (13, [.int 0, .ref z1, .int 0, .int 0, .int 1, .int (-1), .ref z6, .ref z7, .ref z8, .ref z9, .int z10, .ref z11, .ref z12, .ref z13, .ref z14, .ref z15, .int z16, .ref z17, .int z18, .ref z19]))] H_5 := hP
  have hD : va_D A [(za, .inr (13, [.int 0, .ref z1, .int 0, .int 0, .int 1, .int (-1), .ref z6, .ref z7, .ref z8, .ref z9, .int z10, .ref z11, .ref z12, .ref z13, .ref z14, .ref z15, .int z16, .ref z17, .int z18, .ref z19]))] := hD
  subst hw
  exact W.iret (v := (-1)) hx hb hr (fun t ht hW => ⟨⟨(-1), (), rfl, rfl, trivial⟩, hS.F ht⟩) hS.2.2 dX13_move_19
set_option maxHeartbeats 4000000 in
set_option maxRecDepth 100000 in
theorem m_lend (l : Launch) (D : va_G) (sz : Nat) (za : Nat) (z0 : Int32) (z1 : Nat) (z4 : Int32) (z5 : Int32) (z6 : Nat) (z7 : Nat) (z8 : Nat) (z9 : Nat) (z10 : Int32) (z11 : Nat) (z12 : Nat) (z13 : Nat) (z14 : Nat) (z15 : Nat) (z16 : Int32) (z17 : Nat) (z18 : Int32) (z19 : Nat) (k1 : Int32) (k2 : Int32) (k3 : Int32) (k4 : Int32) : Met l yX13_lend (wsM yX13_lend cX13_lend 6 (some .int)) ({ frames := 2, cells := 0, slots := 0, locals := 43 }) (va_Pc [.ref za, .int k1, .int k2, .int k3, .int k4] (Pr D [(za, .inr (13, [.int z0, .ref z1, .int 0, .int 0, .int z4, .int z5, .ref z6, .ref z7, .ref z8, .ref z9, .int z10, .ref z11, .ref z12, .ref z13, .ref z14, .ref z15, .int z16, .ref z17, .int z18, .ref z19]))] [] sz)) (va_Qi (fun (r : Int32) (_ : Unit) => r = (-1)) (fun _ _ => True) (va_A [(za, .inr (13, [.int z0, .ref z1, .int 0, .int 0, .int z4, .int z5, .ref z6, .ref z7, .ref z8, .ref z9, .int z10, .ref z11, .ref z12, .ref z13, .ref z14, .ref z15, .int z16, .ref z17, .int z18, .ref z19]))] sz)) 0 0 (va_A [(za, .inr (13, [.int z0, .ref z1, .int 0, .int 0, .int z4, .int z5, .ref z6, .ref z7, .ref z8, .ref z9, .int z10, .ref z11, .ref z12, .ref z13, .ref z14, .ref z15, .int z16, .ref z17, .int z18, .ref z19]))] sz) := by
  refine Met.ofW (cc := cX13_lend) (maxL := 6) (ret := (some .int)) (by decide) rfl ?_
  intro p e s m args below meth c s₁ B hml hv
  obtain ⟨rfl, hsz, hP, hK, hD0, hN⟩ := hv
  have hx := B.exec
  have hb := B.bytes
  have hr := B.returns
  have hts := atoms_spec (ws := (wsM yX13_lend cX13_lend 6 (some .int))) B.pre
  have hg : ∀ w ∈ lw_good, w.before _ s = true := fun w h => hts w (List.mem_cons_of_mem _ h)
  have hown : s.vm.findClass RX13 = some m.cls := findClass_of_methodNamed B.named
  have hlocks := B.notSynchronized
  subst hsz
  have hD := hD0.self (sz := s.heap.size)
  generalize hAe : va_A [(za, .inr (13, [.int z0, .ref z1, .int 0, .int 0, .int z4, .int z5, .ref z6, .ref z7, .ref z8, .ref z9, .int z10, .ref z11, .ref z12, .ref z13, .ref z14, .ref z15, .int z16, .ref z17, .int z18, .ref z19]))] s.heap.size = A at hD ⊢
  have hA : ∀ q : Nat, s.heap.size ≤ q → A q := fun q h => by rw [← hAe]; exact Or.inr h
  have hS : va_S A s.heap s.heap [] := va_S.rf
  have hP : va_P D vwCl [(za, .inr (13, [.int z0, .ref z1, .int 0, .int 0, .int z4, .int z5, .ref z6, .ref z7, .ref z8, .ref z9, .int z10, .ref z11, .ref z12, .ref z13, .ref z14, .ref z15, .int z16, .ref z17, .int z18, .ref z19]))] s.heap := hP
  have hl := lv_entry ([.ref za, .int k1, .int k2, .int k3, .int k4]) (n := 6) (Nat.le_of_ble_eq_true rfl)
  rw [lg_entry_eq]
  generalize (lg_sl ([.ref za, .int k1, .int k2, .int k3, .int k4]) ++ List.replicate (6 - (lg_sl ([.ref za, .int k1, .int k2, .int k3, .int k4])).length) Slot.unset).toArray = ls at hl ⊢
  have hl : lv_has ls 6 [(0, .ref za), (1, .int k1), (2, .int k2), (3, .int k3), (4, .int k4)] := hl
  refine lv_aload_n hx hb dX13_lend_0 rfl (lv_at hl 0 rfl) ?_
  refine lv_iconst (v := 0) hx hb dX13_lend_1 (by decide) ?_
  refine va_put (D := D) (ci := 13) (v := .int 0) (ty := .int) (C := RX13) (T := TX13) (N := 20) hx hb hg inG13 tyX13 tyX13_ok nmX13 hown hK hP hD hS 0 rfl rfl 0 (by decide) (hg _ wd_149) (fun _ h9 => h9) rfl (by decide +kernel) rfl rfl (Nat.le_of_ble_eq_true rfl) dX13_lend_2 (fun H_1 locs hP hD hS => ?_)
  have hP : va_P D vwCl [(za, .inr (13, [.int 0, .ref z1, .int 0, .int 0, .int z4, .int z5, .ref z6, .ref z7, .ref z8, .ref z9, .int z10, .ref z11, .ref z12, .ref z13, .ref z14, .ref z15, .int z16, .ref z17, .int z18, .ref z19]))] H_1 := hP
  have hD : va_D A [(za, .inr (13, [.int 0, .ref z1, .int 0, .int 0, .int z4, .int z5, .ref z6, .ref z7, .ref z8, .ref z9, .int z10, .ref z11, .ref z12, .ref z13, .ref z14, .ref z15, .int z16, .ref z17, .int z18, .ref z19]))] := hD
  refine lv_aload_n hx hb dX13_lend_5 rfl (lv_at hl 0 rfl) ?_
  refine lv_iload_n hx hb dX13_lend_6 rfl (lv_at hl 1 rfl) ?_
  refine lv_iload_n hx hb dX13_lend_7 rfl (lv_at hl 2 rfl) ?_
  have hPc := hP.sub (ws' := [(za, .inr (13, [.int 0, .ref z1, .int 0, .int 0, .int z4, .int z5, .ref z6, .ref z7, .ref z8, .ref z9, .int z10, .ref z11, .ref z12, .ref z13, .ref z14, .ref z15, .int z16, .ref z17, .int z18, .ref z19]))]) [0] rfl
  have hDc := hD.sub (ws' := [(za, .inr (13, [.int 0, .ref z1, .int 0, .int 0, .int z4, .int z5, .ref z6, .ref z7, .ref z8, .ref z9, .int z10, .ref z11, .ref z12, .ref z13, .ref z14, .ref z15, .int z16, .ref z17, .int z18, .ref z19]))]) [0] (by decide) rfl
  have hKc := hK.sub (tys' := []) [] rfl
  have hFc := va_free (wc := [(za, .inr (13, [.int 0, .ref z1, .int 0, .int 0, .int z4, .int z5, .ref z6, .ref z7, .ref z8, .ref z9, .int z10, .ref z11, .ref z12, .ref z13, .ref z14, .ref z15, .int z16, .ref z17, .int z18, .ref z19]))]) hD hS hA [0] rfl
  refine va_calli (va_runV (As := [.int k1, .int k2]) (rest := []) ⟨hx, hb, hml, hown, hg⟩ (m_isTenure0 l D H_1.size za 0 z1 0 z4 z5 z6 z7 z8 z9 z10 z11 z12 z13 z14 z15 z16 z17 z18 z19 k1 k2) (cwV 2 hg (gV wd_163 wd_164 wd_165 wd_147 wd_166) rfl rfl rfl (by decide +kernel) ⟨(Nat.le_of_ble_eq_true rfl), (Nat.le_of_ble_eq_true rfl)⟩) ⟨Pr.blind, va_recv hKc hPc (ci := 13) (q0 := 0) rfl rfl, fun U hU hW => ⟨rfl, Pr.at hPc hKc hDc hN hU hW⟩⟩ rfl rfl hl.1 rfl (lv_room (Nat.le_of_ble_eq_true rfl)) dX13_lend_8 ⟨(Nat.le_of_ble_eq_true rfl), (Nat.le_of_ble_eq_true rfl)⟩) hS (fun q _ h => hFc q h) hFc (fun r_3 u t H_2 locs ht hvm hw hB hz1 hk1 hS => ?_)
  obtain ⟨hP1, hK1, hD1⟩ := hB
  rw [ht] at hP1
  have hK1 := va_K.moved hvm.symm hK1
  obtain ⟨hP, hD⟩ := va_join (wr := []) (w1 := [(za, .inr (13, [.int 0, .ref z1, .int 0, .int 0, .int z4, .int z5, .ref z6, .ref z7, .ref z8, .ref z9, .int z10, .ref z11, .ref z12, .ref z13, .ref z14, .ref z15, .int z16, .ref z17, .int z18, .ref z19]))]) hP hD [0] [] rfl rfl (by decide) (by decide) hk1 hFc hP1 hD1
  have hP : va_P D vwCl [(za, .inr (13, [.int 0, .ref z1, .int 0, .int 0, .int z4, .int z5, .ref z6, .ref z7, .ref z8, .ref z9, .int z10, .ref z11, .ref z12, .ref z13, .ref z14, .ref z15, .int z16, .ref z17, .int z18, .ref z19]))] H_2 := hP
  have hD : va_D A [(za, .inr (13, [.int 0, .ref z1, .int 0, .int 0, .int z4, .int z5, .ref z6, .ref z7, .ref z8, .ref z9, .int z10, .ref z11, .ref z12, .ref z13, .ref z14, .ref z15, .int z16, .ref z17, .int z18, .ref z19]))] := hD
  subst hw
  refine lv_if_ne (tgt := 20) hx hb dX13_lend_11 (by decide) (fun c_4 => absurd c_4 (by decide)) (fun _ => ?_)
  refine lv_aload_n hx hb dX13_lend_14 rfl (lv_at hl 0 rfl) ?_
  refine lv_iconst (v := 1) hx hb dX13_lend_15 (by decide) ?_
  have hPc := hP.sub (ws' := [(za, .inr (13, [.int 0, .ref z1, .int 0, .int 0, .int z4, .int z5, .ref z6, .ref z7, .ref z8, .ref z9, .int z10, .ref z11, .ref z12, .ref z13, .ref z14, .ref z15, .int z16, .ref z17, .int z18, .ref z19]))]) [0] rfl
  have hDc := hD.sub (ws' := [(za, .inr (13, [.int 0, .ref z1, .int 0, .int 0, .int z4, .int z5, .ref z6, .ref z7, .ref z8, .ref z9, .int z10, .ref z11, .ref z12, .ref z13, .ref z14, .ref z15, .int z16, .ref z17, .int z18, .ref z19]))]) [0] (by decide) rfl
  have hKc := hK.sub (tys' := []) [] rfl
  have hFc := va_free (wc := [(za, .inr (13, [.int 0, .ref z1, .int 0, .int 0, .int z4, .int z5, .ref z6, .ref z7, .ref z8, .ref z9, .int z10, .ref z11, .ref z12, .ref z13, .ref z14, .ref z15, .int z16, .ref z17, .int z18, .ref z19]))]) hD hS hA [0] rfl
  refine va_calli (va_runV (As := [.int 1]) (rest := []) ⟨hx, hb, hml, hown, hg⟩ (m_refused l D H_2.size za 0 z1 0 0 z4 z5 z6 z7 z8 z9 z10 z11 z12 z13 z14 z15 z16 z17 z18 z19 1) (cwV 1 hg (gV wd_150 wd_151 wd_152 wd_147 wd_153) rfl rfl rfl (by decide +kernel) ⟨(Nat.le_of_ble_eq_true rfl), (Nat.le_of_ble_eq_true rfl)⟩) ⟨Pr.blind, va_recv hKc hPc (ci := 13) (q0 := 0) rfl rfl, fun U hU hW => ⟨rfl, Pr.at hPc hKc hDc hN hU hW⟩⟩ rfl rfl hl.1 rfl (lv_room (Nat.le_of_ble_eq_true rfl)) dX13_lend_16 ⟨(Nat.le_of_ble_eq_true rfl), (Nat.le_of_ble_eq_true rfl)⟩) hS (fun q _ h => hFc q h) hFc (fun r_6 u t H_5 locs ht hvm hw hB hz1 hk1 hS => ?_)
  obtain ⟨hP1, hK1, hD1⟩ := hB
  rw [ht] at hP1
  have hK1 := va_K.moved hvm.symm hK1
  obtain ⟨hP, hD⟩ := va_join (wr := []) (w1 := [(za, .inr (13, [.int 0, .ref z1, .int 0, .int 0, .int 1, .int (-1), .ref z6, .ref z7, .ref z8, .ref z9, .int z10, .ref z11, .ref z12, .ref z13, .ref z14, .ref z15, .int z16, .ref z17, .int z18, .ref z19]))]) hP hD [0] [] rfl rfl (by decide) (by decide) hk1 hFc hP1 hD1
  have hP : va_P D vwCl [(za, .inr (13, [.int 0, .ref z1, .int 0, .int 0, .int 1, .int (-1), .ref z6, .ref z7, .ref z8, .ref z9, .int z10, .ref z11, .ref z12, .ref z13, .ref z14, .ref z15, .int z16, .ref z17, .int z18, .ref z19]))] H_5 := hP
  have hD : va_D A [(za, .inr (13, [.int 0, .ref z1, .int 0, .int 0, .int 1, .int (-1), .ref z6, .ref z7, .ref z8, .ref z9, .int z10, .ref z11, .ref z12, .ref z13, .ref z14, .ref z15, .int z16, .ref z17, .int z18, .ref z19]))] := hD
  subst hw
  exact W.iret (v := (-1)) hx hb hr (fun t ht hW => ⟨⟨(-1), (), rfl, rfl, trivial⟩, hS.F ht⟩) hS.2.2 dX13_lend_19
set_option maxHeartbeats 4000000 in
set_option maxRecDepth 100000 in
theorem m_undo (l : Launch) (D : va_G) (sz : Nat) (za : Nat) (z0 : Int32) (z1 : Nat) (z4 : Int32) (z5 : Int32) (z6 : Nat) (z7 : Nat) (z8 : Nat) (z9 : Nat) (z10 : Int32) (z11 : Nat) (z12 : Nat) (z13 : Nat) (z14 : Nat) (z15 : Nat) (z16 : Int32) (z17 : Nat) (z18 : Int32) (z19 : Nat) (k1 : Int32) : Met l yX13_undo (wsM yX13_undo cX13_undo 4 (some .int)) ({ frames := 1, cells := 0, slots := 0, locals := 21 }) (va_Pc [.ref za, .int k1] (Pr D [(za, .inr (13, [.int z0, .ref z1, .int 0, .int 0, .int z4, .int z5, .ref z6, .ref z7, .ref z8, .ref z9, .int z10, .ref z11, .ref z12, .ref z13, .ref z14, .ref z15, .int z16, .ref z17, .int z18, .ref z19]))] [] sz)) (va_Qi (fun (r : Int32) (_ : Unit) => r = (-1)) (fun _ _ => True) (va_A [(za, .inr (13, [.int z0, .ref z1, .int 0, .int 0, .int z4, .int z5, .ref z6, .ref z7, .ref z8, .ref z9, .int z10, .ref z11, .ref z12, .ref z13, .ref z14, .ref z15, .int z16, .ref z17, .int z18, .ref z19]))] sz)) 0 0 (va_A [(za, .inr (13, [.int z0, .ref z1, .int 0, .int 0, .int z4, .int z5, .ref z6, .ref z7, .ref z8, .ref z9, .int z10, .ref z11, .ref z12, .ref z13, .ref z14, .ref z15, .int z16, .ref z17, .int z18, .ref z19]))] sz) := by
  refine Met.ofW (cc := cX13_undo) (maxL := 4) (ret := (some .int)) (by decide) rfl ?_
  intro p e s m args below meth c s₁ B hml hv
  obtain ⟨rfl, hsz, hP, hK, hD0, hN⟩ := hv
  have hx := B.exec
  have hb := B.bytes
  have hr := B.returns
  have hts := atoms_spec (ws := (wsM yX13_undo cX13_undo 4 (some .int))) B.pre
  have hg : ∀ w ∈ lw_good, w.before _ s = true := fun w h => hts w (List.mem_cons_of_mem _ h)
  have hown : s.vm.findClass RX13 = some m.cls := findClass_of_methodNamed B.named
  have hlocks := B.notSynchronized
  subst hsz
  have hD := hD0.self (sz := s.heap.size)
  generalize hAe : va_A [(za, .inr (13, [.int z0, .ref z1, .int 0, .int 0, .int z4, .int z5, .ref z6, .ref z7, .ref z8, .ref z9, .int z10, .ref z11, .ref z12, .ref z13, .ref z14, .ref z15, .int z16, .ref z17, .int z18, .ref z19]))] s.heap.size = A at hD ⊢
  have hA : ∀ q : Nat, s.heap.size ≤ q → A q := fun q h => by rw [← hAe]; exact Or.inr h
  have hS : va_S A s.heap s.heap [] := va_S.rf
  have hP : va_P D vwCl [(za, .inr (13, [.int z0, .ref z1, .int 0, .int 0, .int z4, .int z5, .ref z6, .ref z7, .ref z8, .ref z9, .int z10, .ref z11, .ref z12, .ref z13, .ref z14, .ref z15, .int z16, .ref z17, .int z18, .ref z19]))] s.heap := hP
  have hl := lv_entry ([.ref za, .int k1]) (n := 4) (Nat.le_of_ble_eq_true rfl)
  rw [lg_entry_eq]
  generalize (lg_sl ([.ref za, .int k1]) ++ List.replicate (4 - (lg_sl ([.ref za, .int k1])).length) Slot.unset).toArray = ls at hl ⊢
  have hl : lv_has ls 4 [(0, .ref za), (1, .int k1)] := hl
  refine lv_aload_n hx hb dX13_undo_0 rfl (lv_at hl 0 rfl) ?_
  refine lv_iconst (v := 0) hx hb dX13_undo_1 (by decide) ?_
  refine va_put (D := D) (ci := 13) (v := .int 0) (ty := .int) (C := RX13) (T := TX13) (N := 20) hx hb hg inG13 tyX13 tyX13_ok nmX13 hown hK hP hD hS 0 rfl rfl 0 (by decide) (hg _ wd_149) (fun _ h9 => h9) rfl (by decide +kernel) rfl rfl (Nat.le_of_ble_eq_true rfl) dX13_undo_2 (fun H_1 locs hP hD hS => ?_)
  have hP : va_P D vwCl [(za, .inr (13, [.int 0, .ref z1, .int 0, .int 0, .int z4, .int z5, .ref z6, .ref z7, .ref z8, .ref z9, .int z10, .ref z11, .ref z12, .ref z13, .ref z14, .ref z15, .int z16, .ref z17, .int z18, .ref z19]))] H_1 := hP
  have hD : va_D A [(za, .inr (13, [.int 0, .ref z1, .int 0, .int 0, .int z4, .int z5, .ref z6, .ref z7, .ref z8, .ref z9, .int z10, .ref z11, .ref z12, .ref z13, .ref z14, .ref z15, .int z16, .ref z17, .int z18, .ref z19]))] := hD
  refine lv_aload_n hx hb dX13_undo_5 rfl (lv_at hl 0 rfl) ?_
  refine lv_iload_n hx hb dX13_undo_6 rfl (lv_at hl 1 rfl) ?_
  have hPc := hP.sub (ws' := [(za, .inr (13, [.int 0, .ref z1, .int 0, .int 0, .int z4, .int z5, .ref z6, .ref z7, .ref z8, .ref z9, .int z10, .ref z11, .ref z12, .ref z13, .ref z14, .ref z15, .int z16, .ref z17, .int z18, .ref z19]))]) [0] rfl
  have hDc := hD.sub (ws' := [(za, .inr (13, [.int 0, .ref z1, .int 0, .int 0, .int z4, .int z5, .ref z6, .ref z7, .ref z8, .ref z9, .int z10, .ref z11, .ref z12, .ref z13, .ref z14, .ref z15, .int z16, .ref z17, .int z18, .ref z19]))]) [0] (by decide) rfl
  have hKc := hK.sub (tys' := []) [] rfl
  have hFc := va_free (wc := [(za, .inr (13, [.int 0, .ref z1, .int 0, .int 0, .int z4, .int z5, .ref z6, .ref z7, .ref z8, .ref z9, .int z10, .ref z11, .ref z12, .ref z13, .ref z14, .ref z15, .int z16, .ref z17, .int z18, .ref z19]))]) hD hS hA [0] rfl
  refine va_calli (va_runV (As := [.int k1]) (rest := []) ⟨hx, hb, hml, hown, hg⟩ (m_isHouse0 l D H_1.size za 0 z1 0 z4 z5 z6 z7 z8 z9 z10 z11 z12 z13 z14 z15 z16 z17 z18 z19 k1) (cwV 1 hg (gV wd_144 wd_145 wd_146 wd_147 wd_148) rfl rfl rfl (by decide +kernel) ⟨(Nat.le_of_ble_eq_true rfl), (Nat.le_of_ble_eq_true rfl)⟩) ⟨Pr.blind, va_recv hKc hPc (ci := 13) (q0 := 0) rfl rfl, fun U hU hW => ⟨rfl, Pr.at hPc hKc hDc hN hU hW⟩⟩ rfl rfl hl.1 rfl (lv_room (Nat.le_of_ble_eq_true rfl)) dX13_undo_7 ⟨(Nat.le_of_ble_eq_true rfl), (Nat.le_of_ble_eq_true rfl)⟩) hS (fun q _ h => hFc q h) hFc (fun r_3 u t H_2 locs ht hvm hw hB hz1 hk1 hS => ?_)
  obtain ⟨hP1, hK1, hD1⟩ := hB
  rw [ht] at hP1
  have hK1 := va_K.moved hvm.symm hK1
  obtain ⟨hP, hD⟩ := va_join (wr := []) (w1 := [(za, .inr (13, [.int 0, .ref z1, .int 0, .int 0, .int z4, .int z5, .ref z6, .ref z7, .ref z8, .ref z9, .int z10, .ref z11, .ref z12, .ref z13, .ref z14, .ref z15, .int z16, .ref z17, .int z18, .ref z19]))]) hP hD [0] [] rfl rfl (by decide) (by decide) hk1 hFc hP1 hD1
  have hP : va_P D vwCl [(za, .inr (13, [.int 0, .ref z1, .int 0, .int 0, .int z4, .int z5, .ref z6, .ref z7, .ref z8, .ref z9, .int z10, .ref z11, .ref z12, .ref z13, .ref z14, .ref z15, .int z16, .ref z17, .int z18, .ref z19]))] H_2 := hP
  have hD : va_D A [(za, .inr (13, [.int 0, .ref z1, .int 0, .int 0, .int z4, .int z5, .ref z6, .ref z7, .ref z8, .ref z9, .int z10, .ref z11, .ref z12, .ref z13, .ref z14, .ref z15, .int z16, .ref z17, .int z18, .ref z19]))] := hD
  subst hw
  refine lv_if_ne (tgt := 19) hx hb dX13_undo_10 (by decide) (fun c_4 => absurd c_4 (by decide)) (fun _ => ?_)
  refine lv_aload_n hx hb dX13_undo_13 rfl (lv_at hl 0 rfl) ?_
  refine lv_iconst (v := 1) hx hb dX13_undo_14 (by decide) ?_
  have hPc := hP.sub (ws' := [(za, .inr (13, [.int 0, .ref z1, .int 0, .int 0, .int z4, .int z5, .ref z6, .ref z7, .ref z8, .ref z9, .int z10, .ref z11, .ref z12, .ref z13, .ref z14, .ref z15, .int z16, .ref z17, .int z18, .ref z19]))]) [0] rfl
  have hDc := hD.sub (ws' := [(za, .inr (13, [.int 0, .ref z1, .int 0, .int 0, .int z4, .int z5, .ref z6, .ref z7, .ref z8, .ref z9, .int z10, .ref z11, .ref z12, .ref z13, .ref z14, .ref z15, .int z16, .ref z17, .int z18, .ref z19]))]) [0] (by decide) rfl
  have hKc := hK.sub (tys' := []) [] rfl
  have hFc := va_free (wc := [(za, .inr (13, [.int 0, .ref z1, .int 0, .int 0, .int z4, .int z5, .ref z6, .ref z7, .ref z8, .ref z9, .int z10, .ref z11, .ref z12, .ref z13, .ref z14, .ref z15, .int z16, .ref z17, .int z18, .ref z19]))]) hD hS hA [0] rfl
  refine va_calli (va_runV (As := [.int 1]) (rest := []) ⟨hx, hb, hml, hown, hg⟩ (m_refused l D H_2.size za 0 z1 0 0 z4 z5 z6 z7 z8 z9 z10 z11 z12 z13 z14 z15 z16 z17 z18 z19 1) (cwV 1 hg (gV wd_150 wd_151 wd_152 wd_147 wd_153) rfl rfl rfl (by decide +kernel) ⟨(Nat.le_of_ble_eq_true rfl), (Nat.le_of_ble_eq_true rfl)⟩) ⟨Pr.blind, va_recv hKc hPc (ci := 13) (q0 := 0) rfl rfl, fun U hU hW => ⟨rfl, Pr.at hPc hKc hDc hN hU hW⟩⟩ rfl rfl hl.1 rfl (lv_room (Nat.le_of_ble_eq_true rfl)) dX13_undo_15 ⟨(Nat.le_of_ble_eq_true rfl), (Nat.le_of_ble_eq_true rfl)⟩) hS (fun q _ h => hFc q h) hFc (fun r_6 u t H_5 locs ht hvm hw hB hz1 hk1 hS => ?_)
  obtain ⟨hP1, hK1, hD1⟩ := hB
  rw [ht] at hP1
  have hK1 := va_K.moved hvm.symm hK1
  obtain ⟨hP, hD⟩ := va_join (wr := []) (w1 := [(za, .inr (13, [.int 0, .ref z1, .int 0, .int 0, .int 1, .int (-1), .ref z6, .ref z7, .ref z8, .ref z9, .int z10, .ref z11, .ref z12, .ref z13, .ref z14, .ref z15, .int z16, .ref z17, .int z18, .ref z19]))]) hP hD [0] [] rfl rfl (by decide) (by decide) hk1 hFc hP1 hD1
  have hP : va_P D vwCl [(za, .inr (13, [.int 0, .ref z1, .int 0, .int 0, .int 1, .int (-1), .ref z6, .ref z7, .ref z8, .ref z9, .int z10, .ref z11, .ref z12, .ref z13, .ref z14, .ref z15, .int z16, .ref z17, .int z18, .ref z19]))] H_5 := hP
  have hD : va_D A [(za, .inr (13, [.int 0, .ref z1, .int 0, .int 0, .int 1, .int (-1), .ref z6, .ref z7, .ref z8, .ref z9, .int z10, .ref z11, .ref z12, .ref z13, .ref z14, .ref z15, .int z16, .ref z17, .int z18, .ref z19]))] := hD
  subst hw
  exact W.iret (v := (-1)) hx hb hr (fun t ht hW => ⟨⟨(-1), (), rfl, rfl, trivial⟩, hS.F ht⟩) hS.2.2 dX13_undo_18
set_option maxHeartbeats 4000000 in
set_option maxRecDepth 100000 in
theorem m_end (l : Launch) (D : va_G) (sz : Nat) (za : Nat) (z0 : Int32) (z1 : Nat) (z4 : Int32) (z5 : Int32) (z6 : Nat) (z7 : Nat) (z8 : Nat) (z9 : Nat) (z10 : Int32) (z11 : Nat) (z12 : Nat) (z13 : Nat) (z14 : Nat) (z15 : Nat) (z16 : Int32) (z17 : Nat) (z18 : Int32) (z19 : Nat) (k1 : Int32) (k2 : Int32) : Met l yX13_end (wsM yX13_end cX13_end 5 (some .int)) ({ frames := 1, cells := 0, slots := 0, locals := 21 }) (va_Pc [.ref za, .int k1, .int k2] (Pr D [(za, .inr (13, [.int z0, .ref z1, .int 0, .int 0, .int z4, .int z5, .ref z6, .ref z7, .ref z8, .ref z9, .int z10, .ref z11, .ref z12, .ref z13, .ref z14, .ref z15, .int z16, .ref z17, .int z18, .ref z19]))] [] sz)) (va_Qi (fun (r : Int32) (_ : Unit) => r = (-1)) (fun _ _ => True) (va_A [(za, .inr (13, [.int z0, .ref z1, .int 0, .int 0, .int z4, .int z5, .ref z6, .ref z7, .ref z8, .ref z9, .int z10, .ref z11, .ref z12, .ref z13, .ref z14, .ref z15, .int z16, .ref z17, .int z18, .ref z19]))] sz)) 0 0 (va_A [(za, .inr (13, [.int z0, .ref z1, .int 0, .int 0, .int z4, .int z5, .ref z6, .ref z7, .ref z8, .ref z9, .int z10, .ref z11, .ref z12, .ref z13, .ref z14, .ref z15, .int z16, .ref z17, .int z18, .ref z19]))] sz) := by
  refine Met.ofW (cc := cX13_end) (maxL := 5) (ret := (some .int)) (by decide) rfl ?_
  intro p e s m args below meth c s₁ B hml hv
  obtain ⟨rfl, hsz, hP, hK, hD0, hN⟩ := hv
  have hx := B.exec
  have hb := B.bytes
  have hr := B.returns
  have hts := atoms_spec (ws := (wsM yX13_end cX13_end 5 (some .int))) B.pre
  have hg : ∀ w ∈ lw_good, w.before _ s = true := fun w h => hts w (List.mem_cons_of_mem _ h)
  have hown : s.vm.findClass RX13 = some m.cls := findClass_of_methodNamed B.named
  have hlocks := B.notSynchronized
  subst hsz
  have hD := hD0.self (sz := s.heap.size)
  generalize hAe : va_A [(za, .inr (13, [.int z0, .ref z1, .int 0, .int 0, .int z4, .int z5, .ref z6, .ref z7, .ref z8, .ref z9, .int z10, .ref z11, .ref z12, .ref z13, .ref z14, .ref z15, .int z16, .ref z17, .int z18, .ref z19]))] s.heap.size = A at hD ⊢
  have hA : ∀ q : Nat, s.heap.size ≤ q → A q := fun q h => by rw [← hAe]; exact Or.inr h
  have hS : va_S A s.heap s.heap [] := va_S.rf
  have hP : va_P D vwCl [(za, .inr (13, [.int z0, .ref z1, .int 0, .int 0, .int z4, .int z5, .ref z6, .ref z7, .ref z8, .ref z9, .int z10, .ref z11, .ref z12, .ref z13, .ref z14, .ref z15, .int z16, .ref z17, .int z18, .ref z19]))] s.heap := hP
  have hl := lv_entry ([.ref za, .int k1, .int k2]) (n := 5) (Nat.le_of_ble_eq_true rfl)
  rw [lg_entry_eq]
  generalize (lg_sl ([.ref za, .int k1, .int k2]) ++ List.replicate (5 - (lg_sl ([.ref za, .int k1, .int k2])).length) Slot.unset).toArray = ls at hl ⊢
  have hl : lv_has ls 5 [(0, .ref za), (1, .int k1), (2, .int k2)] := hl
  refine lv_aload_n hx hb dX13_end_0 rfl (lv_at hl 0 rfl) ?_
  refine lv_iconst (v := 0) hx hb dX13_end_1 (by decide) ?_
  refine va_put (D := D) (ci := 13) (v := .int 0) (ty := .int) (C := RX13) (T := TX13) (N := 20) hx hb hg inG13 tyX13 tyX13_ok nmX13 hown hK hP hD hS 0 rfl rfl 0 (by decide) (hg _ wd_149) (fun _ h9 => h9) rfl (by decide +kernel) rfl rfl (Nat.le_of_ble_eq_true rfl) dX13_end_2 (fun H_1 locs hP hD hS => ?_)
  have hP : va_P D vwCl [(za, .inr (13, [.int 0, .ref z1, .int 0, .int 0, .int z4, .int z5, .ref z6, .ref z7, .ref z8, .ref z9, .int z10, .ref z11, .ref z12, .ref z13, .ref z14, .ref z15, .int z16, .ref z17, .int z18, .ref z19]))] H_1 := hP
  have hD : va_D A [(za, .inr (13, [.int 0, .ref z1, .int 0, .int 0, .int z4, .int z5, .ref z6, .ref z7, .ref z8, .ref z9, .int z10, .ref z11, .ref z12, .ref z13, .ref z14, .ref z15, .int z16, .ref z17, .int z18, .ref z19]))] := hD
  refine lv_aload_n hx hb dX13_end_5 rfl (lv_at hl 0 rfl) ?_
  refine lv_iload_n hx hb dX13_end_6 rfl (lv_at hl 1 rfl) ?_
  have hPc := hP.sub (ws' := [(za, .inr (13, [.int 0, .ref z1, .int 0, .int 0, .int z4, .int z5, .ref z6, .ref z7, .ref z8, .ref z9, .int z10, .ref z11, .ref z12, .ref z13, .ref z14, .ref z15, .int z16, .ref z17, .int z18, .ref z19]))]) [0] rfl
  have hDc := hD.sub (ws' := [(za, .inr (13, [.int 0, .ref z1, .int 0, .int 0, .int z4, .int z5, .ref z6, .ref z7, .ref z8, .ref z9, .int z10, .ref z11, .ref z12, .ref z13, .ref z14, .ref z15, .int z16, .ref z17, .int z18, .ref z19]))]) [0] (by decide) rfl
  have hKc := hK.sub (tys' := []) [] rfl
  have hFc := va_free (wc := [(za, .inr (13, [.int 0, .ref z1, .int 0, .int 0, .int z4, .int z5, .ref z6, .ref z7, .ref z8, .ref z9, .int z10, .ref z11, .ref z12, .ref z13, .ref z14, .ref z15, .int z16, .ref z17, .int z18, .ref z19]))]) hD hS hA [0] rfl
  refine va_calli (va_runV (As := [.int k1]) (rest := []) ⟨hx, hb, hml, hown, hg⟩ (m_isHouse0 l D H_1.size za 0 z1 0 z4 z5 z6 z7 z8 z9 z10 z11 z12 z13 z14 z15 z16 z17 z18 z19 k1) (cwV 1 hg (gV wd_144 wd_145 wd_146 wd_147 wd_148) rfl rfl rfl (by decide +kernel) ⟨(Nat.le_of_ble_eq_true rfl), (Nat.le_of_ble_eq_true rfl)⟩) ⟨Pr.blind, va_recv hKc hPc (ci := 13) (q0 := 0) rfl rfl, fun U hU hW => ⟨rfl, Pr.at hPc hKc hDc hN hU hW⟩⟩ rfl rfl hl.1 rfl (lv_room (Nat.le_of_ble_eq_true rfl)) dX13_end_7 ⟨(Nat.le_of_ble_eq_true rfl), (Nat.le_of_ble_eq_true rfl)⟩) hS (fun q _ h => hFc q h) hFc (fun r_3 u t H_2 locs ht hvm hw hB hz1 hk1 hS => ?_)
  obtain ⟨hP1, hK1, hD1⟩ := hB
  rw [ht] at hP1
  have hK1 := va_K.moved hvm.symm hK1
  obtain ⟨hP, hD⟩ := va_join (wr := []) (w1 := [(za, .inr (13, [.int 0, .ref z1, .int 0, .int 0, .int z4, .int z5, .ref z6, .ref z7, .ref z8, .ref z9, .int z10, .ref z11, .ref z12, .ref z13, .ref z14, .ref z15, .int z16, .ref z17, .int z18, .ref z19]))]) hP hD [0] [] rfl rfl (by decide) (by decide) hk1 hFc hP1 hD1
  have hP : va_P D vwCl [(za, .inr (13, [.int 0, .ref z1, .int 0, .int 0, .int z4, .int z5, .ref z6, .ref z7, .ref z8, .ref z9, .int z10, .ref z11, .ref z12, .ref z13, .ref z14, .ref z15, .int z16, .ref z17, .int z18, .ref z19]))] H_2 := hP
  have hD : va_D A [(za, .inr (13, [.int 0, .ref z1, .int 0, .int 0, .int z4, .int z5, .ref z6, .ref z7, .ref z8, .ref z9, .int z10, .ref z11, .ref z12, .ref z13, .ref z14, .ref z15, .int z16, .ref z17, .int z18, .ref z19]))] := hD
  subst hw
  refine lv_if_ne (tgt := 19) hx hb dX13_end_10 (by decide) (fun c_4 => absurd c_4 (by decide)) (fun _ => ?_)
  refine lv_aload_n hx hb dX13_end_13 rfl (lv_at hl 0 rfl) ?_
  refine lv_iconst (v := 1) hx hb dX13_end_14 (by decide) ?_
  have hPc := hP.sub (ws' := [(za, .inr (13, [.int 0, .ref z1, .int 0, .int 0, .int z4, .int z5, .ref z6, .ref z7, .ref z8, .ref z9, .int z10, .ref z11, .ref z12, .ref z13, .ref z14, .ref z15, .int z16, .ref z17, .int z18, .ref z19]))]) [0] rfl
  have hDc := hD.sub (ws' := [(za, .inr (13, [.int 0, .ref z1, .int 0, .int 0, .int z4, .int z5, .ref z6, .ref z7, .ref z8, .ref z9, .int z10, .ref z11, .ref z12, .ref z13, .ref z14, .ref z15, .int z16, .ref z17, .int z18, .ref z19]))]) [0] (by decide) rfl
  have hKc := hK.sub (tys' := []) [] rfl
  have hFc := va_free (wc := [(za, .inr (13, [.int 0, .ref z1, .int 0, .int 0, .int z4, .int z5, .ref z6, .ref z7, .ref z8, .ref z9, .int z10, .ref z11, .ref z12, .ref z13, .ref z14, .ref z15, .int z16, .ref z17, .int z18, .ref z19]))]) hD hS hA [0] rfl
  refine va_calli (va_runV (As := [.int 1]) (rest := []) ⟨hx, hb, hml, hown, hg⟩ (m_refused l D H_2.size za 0 z1 0 0 z4 z5 z6 z7 z8 z9 z10 z11 z12 z13 z14 z15 z16 z17 z18 z19 1) (cwV 1 hg (gV wd_150 wd_151 wd_152 wd_147 wd_153) rfl rfl rfl (by decide +kernel) ⟨(Nat.le_of_ble_eq_true rfl), (Nat.le_of_ble_eq_true rfl)⟩) ⟨Pr.blind, va_recv hKc hPc (ci := 13) (q0 := 0) rfl rfl, fun U hU hW => ⟨rfl, Pr.at hPc hKc hDc hN hU hW⟩⟩ rfl rfl hl.1 rfl (lv_room (Nat.le_of_ble_eq_true rfl)) dX13_end_15 ⟨(Nat.le_of_ble_eq_true rfl), (Nat.le_of_ble_eq_true rfl)⟩) hS (fun q _ h => hFc q h) hFc (fun r_6 u t H_5 locs ht hvm hw hB hz1 hk1 hS => ?_)
  obtain ⟨hP1, hK1, hD1⟩ := hB
  rw [ht] at hP1
  have hK1 := va_K.moved hvm.symm hK1
  obtain ⟨hP, hD⟩ := va_join (wr := []) (w1 := [(za, .inr (13, [.int 0, .ref z1, .int 0, .int 0, .int 1, .int (-1), .ref z6, .ref z7, .ref z8, .ref z9, .int z10, .ref z11, .ref z12, .ref z13, .ref z14, .ref z15, .int z16, .ref z17, .int z18, .ref z19]))]) hP hD [0] [] rfl rfl (by decide) (by decide) hk1 hFc hP1 hD1
  have hP : va_P D vwCl [(za, .inr (13, [.int 0, .ref z1, .int 0, .int 0, .int 1, .int (-1), .ref z6, .ref z7, .ref z8, .ref z9, .int z10, .ref z11, .ref z12, .ref z13, .ref z14, .ref z15, .int z16, .ref z17, .int z18, .ref z19]))] H_5 := hP
  have hD : va_D A [(za, .inr (13, [.int 0, .ref z1, .int 0, .int 0, .int 1, .int (-1), .ref z6, .ref z7, .ref z8, .ref z9, .int z10, .ref z11, .ref z12, .ref z13, .ref z14, .ref z15, .int z16, .ref z17, .int z18, .ref z19]))] := hD
  subst hw
  exact W.iret (v := (-1)) hx hb hr (fun t ht hW => ⟨⟨(-1), (), rfl, rfl, trivial⟩, hS.F ht⟩) hS.2.2 dX13_end_18
set_option maxHeartbeats 4000000 in
set_option maxRecDepth 100000 in
theorem m_close (l : Launch) (D : va_G) (sz : Nat) (za : Nat) (z0 : Int32) (z1 : Nat) (z4 : Int32) (z5 : Int32) (z6 : Nat) (z7 : Nat) (z8 : Nat) (z9 : Nat) (z10 : Int32) (z11 : Nat) (z12 : Nat) (z13 : Nat) (z14 : Nat) (z15 : Nat) (z16 : Int32) (z17 : Nat) (z18 : Int32) (z19 : Nat) (k1 : Int32) : Met l yX13_close (wsM yX13_close cX13_close 8 (some .int)) ({ frames := 1, cells := 0, slots := 0, locals := 21 }) (va_Pc [.ref za, .int k1] (Pr D [(za, .inr (13, [.int z0, .ref z1, .int 0, .int 0, .int z4, .int z5, .ref z6, .ref z7, .ref z8, .ref z9, .int z10, .ref z11, .ref z12, .ref z13, .ref z14, .ref z15, .int z16, .ref z17, .int z18, .ref z19]))] [] sz)) (va_Qi (fun (r : Int32) (_ : Unit) => r = (-1)) (fun _ _ => True) (va_A [(za, .inr (13, [.int z0, .ref z1, .int 0, .int 0, .int z4, .int z5, .ref z6, .ref z7, .ref z8, .ref z9, .int z10, .ref z11, .ref z12, .ref z13, .ref z14, .ref z15, .int z16, .ref z17, .int z18, .ref z19]))] sz)) 0 0 (va_A [(za, .inr (13, [.int z0, .ref z1, .int 0, .int 0, .int z4, .int z5, .ref z6, .ref z7, .ref z8, .ref z9, .int z10, .ref z11, .ref z12, .ref z13, .ref z14, .ref z15, .int z16, .ref z17, .int z18, .ref z19]))] sz) := by
  refine Met.ofW (cc := cX13_close) (maxL := 8) (ret := (some .int)) (by decide) rfl ?_
  intro p e s m args below meth c s₁ B hml hv
  obtain ⟨rfl, hsz, hP, hK, hD0, hN⟩ := hv
  have hx := B.exec
  have hb := B.bytes
  have hr := B.returns
  have hts := atoms_spec (ws := (wsM yX13_close cX13_close 8 (some .int))) B.pre
  have hg : ∀ w ∈ lw_good, w.before _ s = true := fun w h => hts w (List.mem_cons_of_mem _ h)
  have hown : s.vm.findClass RX13 = some m.cls := findClass_of_methodNamed B.named
  have hlocks := B.notSynchronized
  subst hsz
  have hD := hD0.self (sz := s.heap.size)
  generalize hAe : va_A [(za, .inr (13, [.int z0, .ref z1, .int 0, .int 0, .int z4, .int z5, .ref z6, .ref z7, .ref z8, .ref z9, .int z10, .ref z11, .ref z12, .ref z13, .ref z14, .ref z15, .int z16, .ref z17, .int z18, .ref z19]))] s.heap.size = A at hD ⊢
  have hA : ∀ q : Nat, s.heap.size ≤ q → A q := fun q h => by rw [← hAe]; exact Or.inr h
  have hS : va_S A s.heap s.heap [] := va_S.rf
  have hP : va_P D vwCl [(za, .inr (13, [.int z0, .ref z1, .int 0, .int 0, .int z4, .int z5, .ref z6, .ref z7, .ref z8, .ref z9, .int z10, .ref z11, .ref z12, .ref z13, .ref z14, .ref z15, .int z16, .ref z17, .int z18, .ref z19]))] s.heap := hP
  have hl := lv_entry ([.ref za, .int k1]) (n := 8) (Nat.le_of_ble_eq_true rfl)
  rw [lg_entry_eq]
  generalize (lg_sl ([.ref za, .int k1]) ++ List.replicate (8 - (lg_sl ([.ref za, .int k1])).length) Slot.unset).toArray = ls at hl ⊢
  have hl : lv_has ls 8 [(0, .ref za), (1, .int k1)] := hl
  refine lv_aload_n hx hb dX13_close_0 rfl (lv_at hl 0 rfl) ?_
  refine lv_iconst (v := 0) hx hb dX13_close_1 (by decide) ?_
  refine va_put (D := D) (ci := 13) (v := .int 0) (ty := .int) (C := RX13) (T := TX13) (N := 20) hx hb hg inG13 tyX13 tyX13_ok nmX13 hown hK hP hD hS 0 rfl rfl 0 (by decide) (hg _ wd_149) (fun _ h9 => h9) rfl (by decide +kernel) rfl rfl (Nat.le_of_ble_eq_true rfl) dX13_close_2 (fun H_1 locs hP hD hS => ?_)
  have hP : va_P D vwCl [(za, .inr (13, [.int 0, .ref z1, .int 0, .int 0, .int z4, .int z5, .ref z6, .ref z7, .ref z8, .ref z9, .int z10, .ref z11, .ref z12, .ref z13, .ref z14, .ref z15, .int z16, .ref z17, .int z18, .ref z19]))] H_1 := hP
  have hD : va_D A [(za, .inr (13, [.int 0, .ref z1, .int 0, .int 0, .int z4, .int z5, .ref z6, .ref z7, .ref z8, .ref z9, .int z10, .ref z11, .ref z12, .ref z13, .ref z14, .ref z15, .int z16, .ref z17, .int z18, .ref z19]))] := hD
  refine lv_aload_n hx hb dX13_close_5 rfl (lv_at hl 0 rfl) ?_
  refine lv_iload_n hx hb dX13_close_6 rfl (lv_at hl 1 rfl) ?_
  have hPc := hP.sub (ws' := [(za, .inr (13, [.int 0, .ref z1, .int 0, .int 0, .int z4, .int z5, .ref z6, .ref z7, .ref z8, .ref z9, .int z10, .ref z11, .ref z12, .ref z13, .ref z14, .ref z15, .int z16, .ref z17, .int z18, .ref z19]))]) [0] rfl
  have hDc := hD.sub (ws' := [(za, .inr (13, [.int 0, .ref z1, .int 0, .int 0, .int z4, .int z5, .ref z6, .ref z7, .ref z8, .ref z9, .int z10, .ref z11, .ref z12, .ref z13, .ref z14, .ref z15, .int z16, .ref z17, .int z18, .ref z19]))]) [0] (by decide) rfl
  have hKc := hK.sub (tys' := []) [] rfl
  have hFc := va_free (wc := [(za, .inr (13, [.int 0, .ref z1, .int 0, .int 0, .int z4, .int z5, .ref z6, .ref z7, .ref z8, .ref z9, .int z10, .ref z11, .ref z12, .ref z13, .ref z14, .ref z15, .int z16, .ref z17, .int z18, .ref z19]))]) hD hS hA [0] rfl
  refine va_calli (va_runV (As := [.int k1]) (rest := []) ⟨hx, hb, hml, hown, hg⟩ (m_isHouse0 l D H_1.size za 0 z1 0 z4 z5 z6 z7 z8 z9 z10 z11 z12 z13 z14 z15 z16 z17 z18 z19 k1) (cwV 1 hg (gV wd_144 wd_145 wd_146 wd_147 wd_148) rfl rfl rfl (by decide +kernel) ⟨(Nat.le_of_ble_eq_true rfl), (Nat.le_of_ble_eq_true rfl)⟩) ⟨Pr.blind, va_recv hKc hPc (ci := 13) (q0 := 0) rfl rfl, fun U hU hW => ⟨rfl, Pr.at hPc hKc hDc hN hU hW⟩⟩ rfl rfl hl.1 rfl (lv_room (Nat.le_of_ble_eq_true rfl)) dX13_close_7 ⟨(Nat.le_of_ble_eq_true rfl), (Nat.le_of_ble_eq_true rfl)⟩) hS (fun q _ h => hFc q h) hFc (fun r_3 u t H_2 locs ht hvm hw hB hz1 hk1 hS => ?_)
  obtain ⟨hP1, hK1, hD1⟩ := hB
  rw [ht] at hP1
  have hK1 := va_K.moved hvm.symm hK1
  obtain ⟨hP, hD⟩ := va_join (wr := []) (w1 := [(za, .inr (13, [.int 0, .ref z1, .int 0, .int 0, .int z4, .int z5, .ref z6, .ref z7, .ref z8, .ref z9, .int z10, .ref z11, .ref z12, .ref z13, .ref z14, .ref z15, .int z16, .ref z17, .int z18, .ref z19]))]) hP hD [0] [] rfl rfl (by decide) (by decide) hk1 hFc hP1 hD1
  have hP : va_P D vwCl [(za, .inr (13, [.int 0, .ref z1, .int 0, .int 0, .int z4, .int z5, .ref z6, .ref z7, .ref z8, .ref z9, .int z10, .ref z11, .ref z12, .ref z13, .ref z14, .ref z15, .int z16, .ref z17, .int z18, .ref z19]))] H_2 := hP
  have hD : va_D A [(za, .inr (13, [.int 0, .ref z1, .int 0, .int 0, .int z4, .int z5, .ref z6, .ref z7, .ref z8, .ref z9, .int z10, .ref z11, .ref z12, .ref z13, .ref z14, .ref z15, .int z16, .ref z17, .int z18, .ref z19]))] := hD
  subst hw
  refine lv_if_ne (tgt := 19) hx hb dX13_close_10 (by decide) (fun c_4 => absurd c_4 (by decide)) (fun _ => ?_)
  refine lv_aload_n hx hb dX13_close_13 rfl (lv_at hl 0 rfl) ?_
  refine lv_iconst (v := 1) hx hb dX13_close_14 (by decide) ?_
  have hPc := hP.sub (ws' := [(za, .inr (13, [.int 0, .ref z1, .int 0, .int 0, .int z4, .int z5, .ref z6, .ref z7, .ref z8, .ref z9, .int z10, .ref z11, .ref z12, .ref z13, .ref z14, .ref z15, .int z16, .ref z17, .int z18, .ref z19]))]) [0] rfl
  have hDc := hD.sub (ws' := [(za, .inr (13, [.int 0, .ref z1, .int 0, .int 0, .int z4, .int z5, .ref z6, .ref z7, .ref z8, .ref z9, .int z10, .ref z11, .ref z12, .ref z13, .ref z14, .ref z15, .int z16, .ref z17, .int z18, .ref z19]))]) [0] (by decide) rfl
  have hKc := hK.sub (tys' := []) [] rfl
  have hFc := va_free (wc := [(za, .inr (13, [.int 0, .ref z1, .int 0, .int 0, .int z4, .int z5, .ref z6, .ref z7, .ref z8, .ref z9, .int z10, .ref z11, .ref z12, .ref z13, .ref z14, .ref z15, .int z16, .ref z17, .int z18, .ref z19]))]) hD hS hA [0] rfl
  refine va_calli (va_runV (As := [.int 1]) (rest := []) ⟨hx, hb, hml, hown, hg⟩ (m_refused l D H_2.size za 0 z1 0 0 z4 z5 z6 z7 z8 z9 z10 z11 z12 z13 z14 z15 z16 z17 z18 z19 1) (cwV 1 hg (gV wd_150 wd_151 wd_152 wd_147 wd_153) rfl rfl rfl (by decide +kernel) ⟨(Nat.le_of_ble_eq_true rfl), (Nat.le_of_ble_eq_true rfl)⟩) ⟨Pr.blind, va_recv hKc hPc (ci := 13) (q0 := 0) rfl rfl, fun U hU hW => ⟨rfl, Pr.at hPc hKc hDc hN hU hW⟩⟩ rfl rfl hl.1 rfl (lv_room (Nat.le_of_ble_eq_true rfl)) dX13_close_15 ⟨(Nat.le_of_ble_eq_true rfl), (Nat.le_of_ble_eq_true rfl)⟩) hS (fun q _ h => hFc q h) hFc (fun r_6 u t H_5 locs ht hvm hw hB hz1 hk1 hS => ?_)
  obtain ⟨hP1, hK1, hD1⟩ := hB
  rw [ht] at hP1
  have hK1 := va_K.moved hvm.symm hK1
  obtain ⟨hP, hD⟩ := va_join (wr := []) (w1 := [(za, .inr (13, [.int 0, .ref z1, .int 0, .int 0, .int 1, .int (-1), .ref z6, .ref z7, .ref z8, .ref z9, .int z10, .ref z11, .ref z12, .ref z13, .ref z14, .ref z15, .int z16, .ref z17, .int z18, .ref z19]))]) hP hD [0] [] rfl rfl (by decide) (by decide) hk1 hFc hP1 hD1
  have hP : va_P D vwCl [(za, .inr (13, [.int 0, .ref z1, .int 0, .int 0, .int 1, .int (-1), .ref z6, .ref z7, .ref z8, .ref z9, .int z10, .ref z11, .ref z12, .ref z13, .ref z14, .ref z15, .int z16, .ref z17, .int z18, .ref z19]))] H_5 := hP
  have hD : va_D A [(za, .inr (13, [.int 0, .ref z1, .int 0, .int 0, .int 1, .int (-1), .ref z6, .ref z7, .ref z8, .ref z9, .int z10, .ref z11, .ref z12, .ref z13, .ref z14, .ref z15, .int z16, .ref z17, .int z18, .ref z19]))] := hD
  subst hw
  exact W.iret (v := (-1)) hx hb hr (fun t ht hW => ⟨⟨(-1), (), rfl, rfl, trivial⟩, hS.F ht⟩) hS.2.2 dX13_close_18
set_option maxHeartbeats 4000000 in
set_option maxRecDepth 100000 in
theorem m_mend (l : Launch) (D : va_G) (sz : Nat) (za : Nat) (z0 : Int32) (z1 : Nat) (z4 : Int32) (z5 : Int32) (z6 : Nat) (z7 : Nat) (z8 : Nat) (z9 : Nat) (z10 : Int32) (z11 : Nat) (z12 : Nat) (z13 : Nat) (z14 : Nat) (z15 : Nat) (z16 : Int32) (z17 : Nat) (z18 : Int32) (z19 : Nat) (k1 : Int32) (k2 : Int32) (k3 : Int32) : Met l yX13_mend (wsM yX13_mend cX13_mend 5 (some .int)) ({ frames := 1, cells := 0, slots := 0, locals := 21 }) (va_Pc [.ref za, .int k1, .int k2, .int k3] (Pr D [(za, .inr (13, [.int z0, .ref z1, .int 0, .int 0, .int z4, .int z5, .ref z6, .ref z7, .ref z8, .ref z9, .int z10, .ref z11, .ref z12, .ref z13, .ref z14, .ref z15, .int z16, .ref z17, .int z18, .ref z19]))] [] sz)) (va_Qi (fun (r : Int32) (_ : Unit) => r = (-1)) (fun _ _ => True) (va_A [(za, .inr (13, [.int z0, .ref z1, .int 0, .int 0, .int z4, .int z5, .ref z6, .ref z7, .ref z8, .ref z9, .int z10, .ref z11, .ref z12, .ref z13, .ref z14, .ref z15, .int z16, .ref z17, .int z18, .ref z19]))] sz)) 0 0 (va_A [(za, .inr (13, [.int z0, .ref z1, .int 0, .int 0, .int z4, .int z5, .ref z6, .ref z7, .ref z8, .ref z9, .int z10, .ref z11, .ref z12, .ref z13, .ref z14, .ref z15, .int z16, .ref z17, .int z18, .ref z19]))] sz) := by
  refine Met.ofW (cc := cX13_mend) (maxL := 5) (ret := (some .int)) (by decide) rfl ?_
  intro p e s m args below meth c s₁ B hml hv
  obtain ⟨rfl, hsz, hP, hK, hD0, hN⟩ := hv
  have hx := B.exec
  have hb := B.bytes
  have hr := B.returns
  have hts := atoms_spec (ws := (wsM yX13_mend cX13_mend 5 (some .int))) B.pre
  have hg : ∀ w ∈ lw_good, w.before _ s = true := fun w h => hts w (List.mem_cons_of_mem _ h)
  have hown : s.vm.findClass RX13 = some m.cls := findClass_of_methodNamed B.named
  have hlocks := B.notSynchronized
  subst hsz
  have hD := hD0.self (sz := s.heap.size)
  generalize hAe : va_A [(za, .inr (13, [.int z0, .ref z1, .int 0, .int 0, .int z4, .int z5, .ref z6, .ref z7, .ref z8, .ref z9, .int z10, .ref z11, .ref z12, .ref z13, .ref z14, .ref z15, .int z16, .ref z17, .int z18, .ref z19]))] s.heap.size = A at hD ⊢
  have hA : ∀ q : Nat, s.heap.size ≤ q → A q := fun q h => by rw [← hAe]; exact Or.inr h
  have hS : va_S A s.heap s.heap [] := va_S.rf
  have hP : va_P D vwCl [(za, .inr (13, [.int z0, .ref z1, .int 0, .int 0, .int z4, .int z5, .ref z6, .ref z7, .ref z8, .ref z9, .int z10, .ref z11, .ref z12, .ref z13, .ref z14, .ref z15, .int z16, .ref z17, .int z18, .ref z19]))] s.heap := hP
  have hl := lv_entry ([.ref za, .int k1, .int k2, .int k3]) (n := 5) (Nat.le_of_ble_eq_true rfl)
  rw [lg_entry_eq]
  generalize (lg_sl ([.ref za, .int k1, .int k2, .int k3]) ++ List.replicate (5 - (lg_sl ([.ref za, .int k1, .int k2, .int k3])).length) Slot.unset).toArray = ls at hl ⊢
  have hl : lv_has ls 5 [(0, .ref za), (1, .int k1), (2, .int k2), (3, .int k3)] := hl
  refine lv_aload_n hx hb dX13_mend_0 rfl (lv_at hl 0 rfl) ?_
  refine lv_iconst (v := 0) hx hb dX13_mend_1 (by decide) ?_
  refine va_put (D := D) (ci := 13) (v := .int 0) (ty := .int) (C := RX13) (T := TX13) (N := 20) hx hb hg inG13 tyX13 tyX13_ok nmX13 hown hK hP hD hS 0 rfl rfl 0 (by decide) (hg _ wd_149) (fun _ h9 => h9) rfl (by decide +kernel) rfl rfl (Nat.le_of_ble_eq_true rfl) dX13_mend_2 (fun H_1 locs hP hD hS => ?_)
  have hP : va_P D vwCl [(za, .inr (13, [.int 0, .ref z1, .int 0, .int 0, .int z4, .int z5, .ref z6, .ref z7, .ref z8, .ref z9, .int z10, .ref z11, .ref z12, .ref z13, .ref z14, .ref z15, .int z16, .ref z17, .int z18, .ref z19]))] H_1 := hP
  have hD : va_D A [(za, .inr (13, [.int 0, .ref z1, .int 0, .int 0, .int z4, .int z5, .ref z6, .ref z7, .ref z8, .ref z9, .int z10, .ref z11, .ref z12, .ref z13, .ref z14, .ref z15, .int z16, .ref z17, .int z18, .ref z19]))] := hD
  refine lv_aload_n hx hb dX13_mend_5 rfl (lv_at hl 0 rfl) ?_
  refine lv_iload_n hx hb dX13_mend_6 rfl (lv_at hl 1 rfl) ?_
  have hPc := hP.sub (ws' := [(za, .inr (13, [.int 0, .ref z1, .int 0, .int 0, .int z4, .int z5, .ref z6, .ref z7, .ref z8, .ref z9, .int z10, .ref z11, .ref z12, .ref z13, .ref z14, .ref z15, .int z16, .ref z17, .int z18, .ref z19]))]) [0] rfl
  have hDc := hD.sub (ws' := [(za, .inr (13, [.int 0, .ref z1, .int 0, .int 0, .int z4, .int z5, .ref z6, .ref z7, .ref z8, .ref z9, .int z10, .ref z11, .ref z12, .ref z13, .ref z14, .ref z15, .int z16, .ref z17, .int z18, .ref z19]))]) [0] (by decide) rfl
  have hKc := hK.sub (tys' := []) [] rfl
  have hFc := va_free (wc := [(za, .inr (13, [.int 0, .ref z1, .int 0, .int 0, .int z4, .int z5, .ref z6, .ref z7, .ref z8, .ref z9, .int z10, .ref z11, .ref z12, .ref z13, .ref z14, .ref z15, .int z16, .ref z17, .int z18, .ref z19]))]) hD hS hA [0] rfl
  refine va_calli (va_runV (As := [.int k1]) (rest := []) ⟨hx, hb, hml, hown, hg⟩ (m_isHouse0 l D H_1.size za 0 z1 0 z4 z5 z6 z7 z8 z9 z10 z11 z12 z13 z14 z15 z16 z17 z18 z19 k1) (cwV 1 hg (gV wd_144 wd_145 wd_146 wd_147 wd_148) rfl rfl rfl (by decide +kernel) ⟨(Nat.le_of_ble_eq_true rfl), (Nat.le_of_ble_eq_true rfl)⟩) ⟨Pr.blind, va_recv hKc hPc (ci := 13) (q0 := 0) rfl rfl, fun U hU hW => ⟨rfl, Pr.at hPc hKc hDc hN hU hW⟩⟩ rfl rfl hl.1 rfl (lv_room (Nat.le_of_ble_eq_true rfl)) dX13_mend_7 ⟨(Nat.le_of_ble_eq_true rfl), (Nat.le_of_ble_eq_true rfl)⟩) hS (fun q _ h => hFc q h) hFc (fun r_3 u t H_2 locs ht hvm hw hB hz1 hk1 hS => ?_)
  obtain ⟨hP1, hK1, hD1⟩ := hB
  rw [ht] at hP1
  have hK1 := va_K.moved hvm.symm hK1
  obtain ⟨hP, hD⟩ := va_join (wr := []) (w1 := [(za, .inr (13, [.int 0, .ref z1, .int 0, .int 0, .int z4, .int z5, .ref z6, .ref z7, .ref z8, .ref z9, .int z10, .ref z11, .ref z12, .ref z13, .ref z14, .ref z15, .int z16, .ref z17, .int z18, .ref z19]))]) hP hD [0] [] rfl rfl (by decide) (by decide) hk1 hFc hP1 hD1
  have hP : va_P D vwCl [(za, .inr (13, [.int 0, .ref z1, .int 0, .int 0, .int z4, .int z5, .ref z6, .ref z7, .ref z8, .ref z9, .int z10, .ref z11, .ref z12, .ref z13, .ref z14, .ref z15, .int z16, .ref z17, .int z18, .ref z19]))] H_2 := hP
  have hD : va_D A [(za, .inr (13, [.int 0, .ref z1, .int 0, .int 0, .int z4, .int z5, .ref z6, .ref z7, .ref z8, .ref z9, .int z10, .ref z11, .ref z12, .ref z13, .ref z14, .ref z15, .int z16, .ref z17, .int z18, .ref z19]))] := hD
  subst hw
  refine lv_if_ne (tgt := 19) hx hb dX13_mend_10 (by decide) (fun c_4 => absurd c_4 (by decide)) (fun _ => ?_)
  refine lv_aload_n hx hb dX13_mend_13 rfl (lv_at hl 0 rfl) ?_
  refine lv_iconst (v := 1) hx hb dX13_mend_14 (by decide) ?_
  have hPc := hP.sub (ws' := [(za, .inr (13, [.int 0, .ref z1, .int 0, .int 0, .int z4, .int z5, .ref z6, .ref z7, .ref z8, .ref z9, .int z10, .ref z11, .ref z12, .ref z13, .ref z14, .ref z15, .int z16, .ref z17, .int z18, .ref z19]))]) [0] rfl
  have hDc := hD.sub (ws' := [(za, .inr (13, [.int 0, .ref z1, .int 0, .int 0, .int z4, .int z5, .ref z6, .ref z7, .ref z8, .ref z9, .int z10, .ref z11, .ref z12, .ref z13, .ref z14, .ref z15, .int z16, .ref z17, .int z18, .ref z19]))]) [0] (by decide) rfl
  have hKc := hK.sub (tys' := []) [] rfl
  have hFc := va_free (wc := [(za, .inr (13, [.int 0, .ref z1, .int 0, .int 0, .int z4, .int z5, .ref z6, .ref z7, .ref z8, .ref z9, .int z10, .ref z11, .ref z12, .ref z13, .ref z14, .ref z15, .int z16, .ref z17, .int z18, .ref z19]))]) hD hS hA [0] rfl
  refine va_calli (va_runV (As := [.int 1]) (rest := []) ⟨hx, hb, hml, hown, hg⟩ (m_refused l D H_2.size za 0 z1 0 0 z4 z5 z6 z7 z8 z9 z10 z11 z12 z13 z14 z15 z16 z17 z18 z19 1) (cwV 1 hg (gV wd_150 wd_151 wd_152 wd_147 wd_153) rfl rfl rfl (by decide +kernel) ⟨(Nat.le_of_ble_eq_true rfl), (Nat.le_of_ble_eq_true rfl)⟩) ⟨Pr.blind, va_recv hKc hPc (ci := 13) (q0 := 0) rfl rfl, fun U hU hW => ⟨rfl, Pr.at hPc hKc hDc hN hU hW⟩⟩ rfl rfl hl.1 rfl (lv_room (Nat.le_of_ble_eq_true rfl)) dX13_mend_15 ⟨(Nat.le_of_ble_eq_true rfl), (Nat.le_of_ble_eq_true rfl)⟩) hS (fun q _ h => hFc q h) hFc (fun r_6 u t H_5 locs ht hvm hw hB hz1 hk1 hS => ?_)
  obtain ⟨hP1, hK1, hD1⟩ := hB
  rw [ht] at hP1
  have hK1 := va_K.moved hvm.symm hK1
  obtain ⟨hP, hD⟩ := va_join (wr := []) (w1 := [(za, .inr (13, [.int 0, .ref z1, .int 0, .int 0, .int 1, .int (-1), .ref z6, .ref z7, .ref z8, .ref z9, .int z10, .ref z11, .ref z12, .ref z13, .ref z14, .ref z15, .int z16, .ref z17, .int z18, .ref z19]))]) hP hD [0] [] rfl rfl (by decide) (by decide) hk1 hFc hP1 hD1
  have hP : va_P D vwCl [(za, .inr (13, [.int 0, .ref z1, .int 0, .int 0, .int 1, .int (-1), .ref z6, .ref z7, .ref z8, .ref z9, .int z10, .ref z11, .ref z12, .ref z13, .ref z14, .ref z15, .int z16, .ref z17, .int z18, .ref z19]))] H_5 := hP
  have hD : va_D A [(za, .inr (13, [.int 0, .ref z1, .int 0, .int 0, .int 1, .int (-1), .ref z6, .ref z7, .ref z8, .ref z9, .int z10, .ref z11, .ref z12, .ref z13, .ref z14, .ref z15, .int z16, .ref z17, .int z18, .ref z19]))] := hD
  subst hw
  exact W.iret (v := (-1)) hx hb hr (fun t ht hW => ⟨⟨(-1), (), rfl, rfl, trivial⟩, hS.F ht⟩) hS.2.2 dX13_mend_18
set_option maxHeartbeats 4000000 in
set_option maxRecDepth 100000 in
theorem m_hidden (l : Launch) (D : va_G) (sz : Nat) (za : Nat) (z0 : Int32) (z1 : Nat) (z4 : Int32) (z5 : Int32) (z6 : Nat) (z7 : Nat) (z8 : Nat) (z9 : Nat) (z10 : Int32) (z11 : Nat) (z12 : Nat) (z13 : Nat) (z14 : Nat) (z15 : Nat) (z16 : Int32) (z17 : Nat) (z18 : Int32) (z19 : Nat) (k1 : Int32) (k2 : Int32) (k3 : Int32) : Met l yX13_hidden (wsM yX13_hidden cX13_hidden 6 (some .int)) ({ frames := 1, cells := 0, slots := 0, locals := 21 }) (va_Pc [.ref za, .int k1, .int k2, .int k3] (Pr D [(za, .inr (13, [.int z0, .ref z1, .int 0, .int 0, .int z4, .int z5, .ref z6, .ref z7, .ref z8, .ref z9, .int z10, .ref z11, .ref z12, .ref z13, .ref z14, .ref z15, .int z16, .ref z17, .int z18, .ref z19]))] [] sz)) (va_Qi (fun (r : Int32) (_ : Unit) => r = (-1)) (fun _ _ => True) (va_A [(za, .inr (13, [.int z0, .ref z1, .int 0, .int 0, .int z4, .int z5, .ref z6, .ref z7, .ref z8, .ref z9, .int z10, .ref z11, .ref z12, .ref z13, .ref z14, .ref z15, .int z16, .ref z17, .int z18, .ref z19]))] sz)) 0 0 (va_A [(za, .inr (13, [.int z0, .ref z1, .int 0, .int 0, .int z4, .int z5, .ref z6, .ref z7, .ref z8, .ref z9, .int z10, .ref z11, .ref z12, .ref z13, .ref z14, .ref z15, .int z16, .ref z17, .int z18, .ref z19]))] sz) := by
  refine Met.ofW (cc := cX13_hidden) (maxL := 6) (ret := (some .int)) (by decide) rfl ?_
  intro p e s m args below meth c s₁ B hml hv
  obtain ⟨rfl, hsz, hP, hK, hD0, hN⟩ := hv
  have hx := B.exec
  have hb := B.bytes
  have hr := B.returns
  have hts := atoms_spec (ws := (wsM yX13_hidden cX13_hidden 6 (some .int))) B.pre
  have hg : ∀ w ∈ lw_good, w.before _ s = true := fun w h => hts w (List.mem_cons_of_mem _ h)
  have hown : s.vm.findClass RX13 = some m.cls := findClass_of_methodNamed B.named
  have hlocks := B.notSynchronized
  subst hsz
  have hD := hD0.self (sz := s.heap.size)
  generalize hAe : va_A [(za, .inr (13, [.int z0, .ref z1, .int 0, .int 0, .int z4, .int z5, .ref z6, .ref z7, .ref z8, .ref z9, .int z10, .ref z11, .ref z12, .ref z13, .ref z14, .ref z15, .int z16, .ref z17, .int z18, .ref z19]))] s.heap.size = A at hD ⊢
  have hA : ∀ q : Nat, s.heap.size ≤ q → A q := fun q h => by rw [← hAe]; exact Or.inr h
  have hS : va_S A s.heap s.heap [] := va_S.rf
  have hP : va_P D vwCl [(za, .inr (13, [.int z0, .ref z1, .int 0, .int 0, .int z4, .int z5, .ref z6, .ref z7, .ref z8, .ref z9, .int z10, .ref z11, .ref z12, .ref z13, .ref z14, .ref z15, .int z16, .ref z17, .int z18, .ref z19]))] s.heap := hP
  have hl := lv_entry ([.ref za, .int k1, .int k2, .int k3]) (n := 6) (Nat.le_of_ble_eq_true rfl)
  rw [lg_entry_eq]
  generalize (lg_sl ([.ref za, .int k1, .int k2, .int k3]) ++ List.replicate (6 - (lg_sl ([.ref za, .int k1, .int k2, .int k3])).length) Slot.unset).toArray = ls at hl ⊢
  have hl : lv_has ls 6 [(0, .ref za), (1, .int k1), (2, .int k2), (3, .int k3)] := hl
  refine lv_aload_n hx hb dX13_hidden_0 rfl (lv_at hl 0 rfl) ?_
  refine lv_iconst (v := 0) hx hb dX13_hidden_1 (by decide) ?_
  refine va_put (D := D) (ci := 13) (v := .int 0) (ty := .int) (C := RX13) (T := TX13) (N := 20) hx hb hg inG13 tyX13 tyX13_ok nmX13 hown hK hP hD hS 0 rfl rfl 0 (by decide) (hg _ wd_149) (fun _ h9 => h9) rfl (by decide +kernel) rfl rfl (Nat.le_of_ble_eq_true rfl) dX13_hidden_2 (fun H_1 locs hP hD hS => ?_)
  have hP : va_P D vwCl [(za, .inr (13, [.int 0, .ref z1, .int 0, .int 0, .int z4, .int z5, .ref z6, .ref z7, .ref z8, .ref z9, .int z10, .ref z11, .ref z12, .ref z13, .ref z14, .ref z15, .int z16, .ref z17, .int z18, .ref z19]))] H_1 := hP
  have hD : va_D A [(za, .inr (13, [.int 0, .ref z1, .int 0, .int 0, .int z4, .int z5, .ref z6, .ref z7, .ref z8, .ref z9, .int z10, .ref z11, .ref z12, .ref z13, .ref z14, .ref z15, .int z16, .ref z17, .int z18, .ref z19]))] := hD
  refine lv_aload_n hx hb dX13_hidden_5 rfl (lv_at hl 0 rfl) ?_
  refine lv_iload_n hx hb dX13_hidden_6 rfl (lv_at hl 1 rfl) ?_
  have hPc := hP.sub (ws' := [(za, .inr (13, [.int 0, .ref z1, .int 0, .int 0, .int z4, .int z5, .ref z6, .ref z7, .ref z8, .ref z9, .int z10, .ref z11, .ref z12, .ref z13, .ref z14, .ref z15, .int z16, .ref z17, .int z18, .ref z19]))]) [0] rfl
  have hDc := hD.sub (ws' := [(za, .inr (13, [.int 0, .ref z1, .int 0, .int 0, .int z4, .int z5, .ref z6, .ref z7, .ref z8, .ref z9, .int z10, .ref z11, .ref z12, .ref z13, .ref z14, .ref z15, .int z16, .ref z17, .int z18, .ref z19]))]) [0] (by decide) rfl
  have hKc := hK.sub (tys' := []) [] rfl
  have hFc := va_free (wc := [(za, .inr (13, [.int 0, .ref z1, .int 0, .int 0, .int z4, .int z5, .ref z6, .ref z7, .ref z8, .ref z9, .int z10, .ref z11, .ref z12, .ref z13, .ref z14, .ref z15, .int z16, .ref z17, .int z18, .ref z19]))]) hD hS hA [0] rfl
  refine va_calli (va_runV (As := [.int k1]) (rest := []) ⟨hx, hb, hml, hown, hg⟩ (m_isHouse0 l D H_1.size za 0 z1 0 z4 z5 z6 z7 z8 z9 z10 z11 z12 z13 z14 z15 z16 z17 z18 z19 k1) (cwV 1 hg (gV wd_144 wd_145 wd_146 wd_147 wd_148) rfl rfl rfl (by decide +kernel) ⟨(Nat.le_of_ble_eq_true rfl), (Nat.le_of_ble_eq_true rfl)⟩) ⟨Pr.blind, va_recv hKc hPc (ci := 13) (q0 := 0) rfl rfl, fun U hU hW => ⟨rfl, Pr.at hPc hKc hDc hN hU hW⟩⟩ rfl rfl hl.1 rfl (lv_room (Nat.le_of_ble_eq_true rfl)) dX13_hidden_7 ⟨(Nat.le_of_ble_eq_true rfl), (Nat.le_of_ble_eq_true rfl)⟩) hS (fun q _ h => hFc q h) hFc (fun r_3 u t H_2 locs ht hvm hw hB hz1 hk1 hS => ?_)
  obtain ⟨hP1, hK1, hD1⟩ := hB
  rw [ht] at hP1
  have hK1 := va_K.moved hvm.symm hK1
  obtain ⟨hP, hD⟩ := va_join (wr := []) (w1 := [(za, .inr (13, [.int 0, .ref z1, .int 0, .int 0, .int z4, .int z5, .ref z6, .ref z7, .ref z8, .ref z9, .int z10, .ref z11, .ref z12, .ref z13, .ref z14, .ref z15, .int z16, .ref z17, .int z18, .ref z19]))]) hP hD [0] [] rfl rfl (by decide) (by decide) hk1 hFc hP1 hD1
  have hP : va_P D vwCl [(za, .inr (13, [.int 0, .ref z1, .int 0, .int 0, .int z4, .int z5, .ref z6, .ref z7, .ref z8, .ref z9, .int z10, .ref z11, .ref z12, .ref z13, .ref z14, .ref z15, .int z16, .ref z17, .int z18, .ref z19]))] H_2 := hP
  have hD : va_D A [(za, .inr (13, [.int 0, .ref z1, .int 0, .int 0, .int z4, .int z5, .ref z6, .ref z7, .ref z8, .ref z9, .int z10, .ref z11, .ref z12, .ref z13, .ref z14, .ref z15, .int z16, .ref z17, .int z18, .ref z19]))] := hD
  subst hw
  refine lv_if_eq (tgt := 25) hx hb dX13_hidden_10 (by decide) (fun _ => ?_) (fun c_4 => absurd c_4 (by decide))
  refine lv_aload_n hx hb dX13_hidden_25 rfl (lv_at hl 0 rfl) ?_
  refine lv_iconst (v := 1) hx hb dX13_hidden_26 (by decide) ?_
  have hPc := hP.sub (ws' := [(za, .inr (13, [.int 0, .ref z1, .int 0, .int 0, .int z4, .int z5, .ref z6, .ref z7, .ref z8, .ref z9, .int z10, .ref z11, .ref z12, .ref z13, .ref z14, .ref z15, .int z16, .ref z17, .int z18, .ref z19]))]) [0] rfl
  have hDc := hD.sub (ws' := [(za, .inr (13, [.int 0, .ref z1, .int 0, .int 0, .int z4, .int z5, .ref z6, .ref z7, .ref z8, .ref z9, .int z10, .ref z11, .ref z12, .ref z13, .ref z14, .ref z15, .int z16, .ref z17, .int z18, .ref z19]))]) [0] (by decide) rfl
  have hKc := hK.sub (tys' := []) [] rfl
  have hFc := va_free (wc := [(za, .inr (13, [.int 0, .ref z1, .int 0, .int 0, .int z4, .int z5, .ref z6, .ref z7, .ref z8, .ref z9, .int z10, .ref z11, .ref z12, .ref z13, .ref z14, .ref z15, .int z16, .ref z17, .int z18, .ref z19]))]) hD hS hA [0] rfl
  refine va_calli (va_runV (As := [.int 1]) (rest := []) ⟨hx, hb, hml, hown, hg⟩ (m_refused l D H_2.size za 0 z1 0 0 z4 z5 z6 z7 z8 z9 z10 z11 z12 z13 z14 z15 z16 z17 z18 z19 1) (cwV 1 hg (gV wd_150 wd_151 wd_152 wd_147 wd_153) rfl rfl rfl (by decide +kernel) ⟨(Nat.le_of_ble_eq_true rfl), (Nat.le_of_ble_eq_true rfl)⟩) ⟨Pr.blind, va_recv hKc hPc (ci := 13) (q0 := 0) rfl rfl, fun U hU hW => ⟨rfl, Pr.at hPc hKc hDc hN hU hW⟩⟩ rfl rfl hl.1 rfl (lv_room (Nat.le_of_ble_eq_true rfl)) dX13_hidden_27 ⟨(Nat.le_of_ble_eq_true rfl), (Nat.le_of_ble_eq_true rfl)⟩) hS (fun q _ h => hFc q h) hFc (fun r_6 u t H_5 locs ht hvm hw hB hz1 hk1 hS => ?_)
  obtain ⟨hP1, hK1, hD1⟩ := hB
  rw [ht] at hP1
  have hK1 := va_K.moved hvm.symm hK1
  obtain ⟨hP, hD⟩ := va_join (wr := []) (w1 := [(za, .inr (13, [.int 0, .ref z1, .int 0, .int 0, .int 1, .int (-1), .ref z6, .ref z7, .ref z8, .ref z9, .int z10, .ref z11, .ref z12, .ref z13, .ref z14, .ref z15, .int z16, .ref z17, .int z18, .ref z19]))]) hP hD [0] [] rfl rfl (by decide) (by decide) hk1 hFc hP1 hD1
  have hP : va_P D vwCl [(za, .inr (13, [.int 0, .ref z1, .int 0, .int 0, .int 1, .int (-1), .ref z6, .ref z7, .ref z8, .ref z9, .int z10, .ref z11, .ref z12, .ref z13, .ref z14, .ref z15, .int z16, .ref z17, .int z18, .ref z19]))] H_5 := hP
  have hD : va_D A [(za, .inr (13, [.int 0, .ref z1, .int 0, .int 0, .int 1, .int (-1), .ref z6, .ref z7, .ref z8, .ref z9, .int z10, .ref z11, .ref z12, .ref z13, .ref z14, .ref z15, .int z16, .ref z17, .int z18, .ref z19]))] := hD
  subst hw
  exact W.iret (v := (-1)) hx hb hr (fun t ht hW => ⟨⟨(-1), (), rfl, rfl, trivial⟩, hS.F ht⟩) hS.2.2 dX13_hidden_30
set_option maxHeartbeats 4000000 in
set_option maxRecDepth 100000 in
theorem m_bear (l : Launch) (D : va_G) (sz : Nat) (za : Nat) (z0 : Int32) (z1 : Nat) (z4 : Int32) (z5 : Int32) (z6 : Nat) (z7 : Nat) (z8 : Nat) (z9 : Nat) (z10 : Int32) (z11 : Nat) (z12 : Nat) (z13 : Nat) (z14 : Nat) (z15 : Nat) (z16 : Int32) (z17 : Nat) (z18 : Int32) (z19 : Nat) (k1 : Int32) (k2 : Int32) (k3 : Int32) : Met l yX13_bear (wsM yX13_bear cX13_bear 9 (some .int)) ({ frames := 1, cells := 0, slots := 0, locals := 21 }) (va_Pc [.ref za, .int k1, .int k2, .int k3] (Pr D [(za, .inr (13, [.int z0, .ref z1, .int 0, .int 0, .int z4, .int z5, .ref z6, .ref z7, .ref z8, .ref z9, .int z10, .ref z11, .ref z12, .ref z13, .ref z14, .ref z15, .int z16, .ref z17, .int z18, .ref z19]))] [] sz)) (va_Qi (fun (r : Int32) (_ : Unit) => r = (-1)) (fun _ _ => True) (va_A [(za, .inr (13, [.int z0, .ref z1, .int 0, .int 0, .int z4, .int z5, .ref z6, .ref z7, .ref z8, .ref z9, .int z10, .ref z11, .ref z12, .ref z13, .ref z14, .ref z15, .int z16, .ref z17, .int z18, .ref z19]))] sz)) 0 0 (va_A [(za, .inr (13, [.int z0, .ref z1, .int 0, .int 0, .int z4, .int z5, .ref z6, .ref z7, .ref z8, .ref z9, .int z10, .ref z11, .ref z12, .ref z13, .ref z14, .ref z15, .int z16, .ref z17, .int z18, .ref z19]))] sz) := by
  refine Met.ofW (cc := cX13_bear) (maxL := 9) (ret := (some .int)) (by decide) rfl ?_
  intro p e s m args below meth c s₁ B hml hv
  obtain ⟨rfl, hsz, hP, hK, hD0, hN⟩ := hv
  have hx := B.exec
  have hb := B.bytes
  have hr := B.returns
  have hts := atoms_spec (ws := (wsM yX13_bear cX13_bear 9 (some .int))) B.pre
  have hg : ∀ w ∈ lw_good, w.before _ s = true := fun w h => hts w (List.mem_cons_of_mem _ h)
  have hown : s.vm.findClass RX13 = some m.cls := findClass_of_methodNamed B.named
  have hlocks := B.notSynchronized
  subst hsz
  have hD := hD0.self (sz := s.heap.size)
  generalize hAe : va_A [(za, .inr (13, [.int z0, .ref z1, .int 0, .int 0, .int z4, .int z5, .ref z6, .ref z7, .ref z8, .ref z9, .int z10, .ref z11, .ref z12, .ref z13, .ref z14, .ref z15, .int z16, .ref z17, .int z18, .ref z19]))] s.heap.size = A at hD ⊢
  have hA : ∀ q : Nat, s.heap.size ≤ q → A q := fun q h => by rw [← hAe]; exact Or.inr h
  have hS : va_S A s.heap s.heap [] := va_S.rf
  have hP : va_P D vwCl [(za, .inr (13, [.int z0, .ref z1, .int 0, .int 0, .int z4, .int z5, .ref z6, .ref z7, .ref z8, .ref z9, .int z10, .ref z11, .ref z12, .ref z13, .ref z14, .ref z15, .int z16, .ref z17, .int z18, .ref z19]))] s.heap := hP
  have hl := lv_entry ([.ref za, .int k1, .int k2, .int k3]) (n := 9) (Nat.le_of_ble_eq_true rfl)
  rw [lg_entry_eq]
  generalize (lg_sl ([.ref za, .int k1, .int k2, .int k3]) ++ List.replicate (9 - (lg_sl ([.ref za, .int k1, .int k2, .int k3])).length) Slot.unset).toArray = ls at hl ⊢
  have hl : lv_has ls 9 [(0, .ref za), (1, .int k1), (2, .int k2), (3, .int k3)] := hl
  refine lv_aload_n hx hb dX13_bear_0 rfl (lv_at hl 0 rfl) ?_
  refine lv_iconst (v := 0) hx hb dX13_bear_1 (by decide) ?_
  refine va_put (D := D) (ci := 13) (v := .int 0) (ty := .int) (C := RX13) (T := TX13) (N := 20) hx hb hg inG13 tyX13 tyX13_ok nmX13 hown hK hP hD hS 0 rfl rfl 0 (by decide) (hg _ wd_149) (fun _ h9 => h9) rfl (by decide +kernel) rfl rfl (Nat.le_of_ble_eq_true rfl) dX13_bear_2 (fun H_1 locs hP hD hS => ?_)
  have hP : va_P D vwCl [(za, .inr (13, [.int 0, .ref z1, .int 0, .int 0, .int z4, .int z5, .ref z6, .ref z7, .ref z8, .ref z9, .int z10, .ref z11, .ref z12, .ref z13, .ref z14, .ref z15, .int z16, .ref z17, .int z18, .ref z19]))] H_1 := hP
  have hD : va_D A [(za, .inr (13, [.int 0, .ref z1, .int 0, .int 0, .int z4, .int z5, .ref z6, .ref z7, .ref z8, .ref z9, .int z10, .ref z11, .ref z12, .ref z13, .ref z14, .ref z15, .int z16, .ref z17, .int z18, .ref z19]))] := hD
  refine lv_aload_n hx hb dX13_bear_5 rfl (lv_at hl 0 rfl) ?_
  refine lv_iload_n hx hb dX13_bear_6 rfl (lv_at hl 1 rfl) ?_
  have hPc := hP.sub (ws' := [(za, .inr (13, [.int 0, .ref z1, .int 0, .int 0, .int z4, .int z5, .ref z6, .ref z7, .ref z8, .ref z9, .int z10, .ref z11, .ref z12, .ref z13, .ref z14, .ref z15, .int z16, .ref z17, .int z18, .ref z19]))]) [0] rfl
  have hDc := hD.sub (ws' := [(za, .inr (13, [.int 0, .ref z1, .int 0, .int 0, .int z4, .int z5, .ref z6, .ref z7, .ref z8, .ref z9, .int z10, .ref z11, .ref z12, .ref z13, .ref z14, .ref z15, .int z16, .ref z17, .int z18, .ref z19]))]) [0] (by decide) rfl
  have hKc := hK.sub (tys' := []) [] rfl
  have hFc := va_free (wc := [(za, .inr (13, [.int 0, .ref z1, .int 0, .int 0, .int z4, .int z5, .ref z6, .ref z7, .ref z8, .ref z9, .int z10, .ref z11, .ref z12, .ref z13, .ref z14, .ref z15, .int z16, .ref z17, .int z18, .ref z19]))]) hD hS hA [0] rfl
  refine va_calli (va_runV (As := [.int k1]) (rest := []) ⟨hx, hb, hml, hown, hg⟩ (m_isHouse0 l D H_1.size za 0 z1 0 z4 z5 z6 z7 z8 z9 z10 z11 z12 z13 z14 z15 z16 z17 z18 z19 k1) (cwV 1 hg (gV wd_144 wd_145 wd_146 wd_147 wd_148) rfl rfl rfl (by decide +kernel) ⟨(Nat.le_of_ble_eq_true rfl), (Nat.le_of_ble_eq_true rfl)⟩) ⟨Pr.blind, va_recv hKc hPc (ci := 13) (q0 := 0) rfl rfl, fun U hU hW => ⟨rfl, Pr.at hPc hKc hDc hN hU hW⟩⟩ rfl rfl hl.1 rfl (lv_room (Nat.le_of_ble_eq_true rfl)) dX13_bear_7 ⟨(Nat.le_of_ble_eq_true rfl), (Nat.le_of_ble_eq_true rfl)⟩) hS (fun q _ h => hFc q h) hFc (fun r_3 u t H_2 locs ht hvm hw hB hz1 hk1 hS => ?_)
  obtain ⟨hP1, hK1, hD1⟩ := hB
  rw [ht] at hP1
  have hK1 := va_K.moved hvm.symm hK1
  obtain ⟨hP, hD⟩ := va_join (wr := []) (w1 := [(za, .inr (13, [.int 0, .ref z1, .int 0, .int 0, .int z4, .int z5, .ref z6, .ref z7, .ref z8, .ref z9, .int z10, .ref z11, .ref z12, .ref z13, .ref z14, .ref z15, .int z16, .ref z17, .int z18, .ref z19]))]) hP hD [0] [] rfl rfl (by decide) (by decide) hk1 hFc hP1 hD1
  have hP : va_P D vwCl [(za, .inr (13, [.int 0, .ref z1, .int 0, .int 0, .int z4, .int z5, .ref z6, .ref z7, .ref z8, .ref z9, .int z10, .ref z11, .ref z12, .ref z13, .ref z14, .ref z15, .int z16, .ref z17, .int z18, .ref z19]))] H_2 := hP
  have hD : va_D A [(za, .inr (13, [.int 0, .ref z1, .int 0, .int 0, .int z4, .int z5, .ref z6, .ref z7, .ref z8, .ref z9, .int z10, .ref z11, .ref z12, .ref z13, .ref z14, .ref z15, .int z16, .ref z17, .int z18, .ref z19]))] := hD
  subst hw
  refine lv_if_eq (tgt := 25) hx hb dX13_bear_10 (by decide) (fun _ => ?_) (fun c_4 => absurd c_4 (by decide))
  refine lv_aload_n hx hb dX13_bear_25 rfl (lv_at hl 0 rfl) ?_
  refine lv_iconst (v := 1) hx hb dX13_bear_26 (by decide) ?_
  have hPc := hP.sub (ws' := [(za, .inr (13, [.int 0, .ref z1, .int 0, .int 0, .int z4, .int z5, .ref z6, .ref z7, .ref z8, .ref z9, .int z10, .ref z11, .ref z12, .ref z13, .ref z14, .ref z15, .int z16, .ref z17, .int z18, .ref z19]))]) [0] rfl
  have hDc := hD.sub (ws' := [(za, .inr (13, [.int 0, .ref z1, .int 0, .int 0, .int z4, .int z5, .ref z6, .ref z7, .ref z8, .ref z9, .int z10, .ref z11, .ref z12, .ref z13, .ref z14, .ref z15, .int z16, .ref z17, .int z18, .ref z19]))]) [0] (by decide) rfl
  have hKc := hK.sub (tys' := []) [] rfl
  have hFc := va_free (wc := [(za, .inr (13, [.int 0, .ref z1, .int 0, .int 0, .int z4, .int z5, .ref z6, .ref z7, .ref z8, .ref z9, .int z10, .ref z11, .ref z12, .ref z13, .ref z14, .ref z15, .int z16, .ref z17, .int z18, .ref z19]))]) hD hS hA [0] rfl
  refine va_calli (va_runV (As := [.int 1]) (rest := []) ⟨hx, hb, hml, hown, hg⟩ (m_refused l D H_2.size za 0 z1 0 0 z4 z5 z6 z7 z8 z9 z10 z11 z12 z13 z14 z15 z16 z17 z18 z19 1) (cwV 1 hg (gV wd_150 wd_151 wd_152 wd_147 wd_153) rfl rfl rfl (by decide +kernel) ⟨(Nat.le_of_ble_eq_true rfl), (Nat.le_of_ble_eq_true rfl)⟩) ⟨Pr.blind, va_recv hKc hPc (ci := 13) (q0 := 0) rfl rfl, fun U hU hW => ⟨rfl, Pr.at hPc hKc hDc hN hU hW⟩⟩ rfl rfl hl.1 rfl (lv_room (Nat.le_of_ble_eq_true rfl)) dX13_bear_27 ⟨(Nat.le_of_ble_eq_true rfl), (Nat.le_of_ble_eq_true rfl)⟩) hS (fun q _ h => hFc q h) hFc (fun r_6 u t H_5 locs ht hvm hw hB hz1 hk1 hS => ?_)
  obtain ⟨hP1, hK1, hD1⟩ := hB
  rw [ht] at hP1
  have hK1 := va_K.moved hvm.symm hK1
  obtain ⟨hP, hD⟩ := va_join (wr := []) (w1 := [(za, .inr (13, [.int 0, .ref z1, .int 0, .int 0, .int 1, .int (-1), .ref z6, .ref z7, .ref z8, .ref z9, .int z10, .ref z11, .ref z12, .ref z13, .ref z14, .ref z15, .int z16, .ref z17, .int z18, .ref z19]))]) hP hD [0] [] rfl rfl (by decide) (by decide) hk1 hFc hP1 hD1
  have hP : va_P D vwCl [(za, .inr (13, [.int 0, .ref z1, .int 0, .int 0, .int 1, .int (-1), .ref z6, .ref z7, .ref z8, .ref z9, .int z10, .ref z11, .ref z12, .ref z13, .ref z14, .ref z15, .int z16, .ref z17, .int z18, .ref z19]))] H_5 := hP
  have hD : va_D A [(za, .inr (13, [.int 0, .ref z1, .int 0, .int 0, .int 1, .int (-1), .ref z6, .ref z7, .ref z8, .ref z9, .int z10, .ref z11, .ref z12, .ref z13, .ref z14, .ref z15, .int z16, .ref z17, .int z18, .ref z19]))] := hD
  subst hw
  exact W.iret (v := (-1)) hx hb hr (fun t ht hW => ⟨⟨(-1), (), rfl, rfl, trivial⟩, hS.F ht⟩) hS.2.2 dX13_bear_30
set_option maxHeartbeats 4000000 in
set_option maxRecDepth 100000 in
theorem m_check (l : Launch) (D : va_G) (sz : Nat) (za : Nat) (z0 : Int32) (z1 : Nat) (z4 : Int32) (z5 : Int32) (z6 : Nat) (z7 : Nat) (z8 : Nat) (z9 : Nat) (z10 : Int32) (z11 : Nat) (z12 : Nat) (z13 : Nat) (z14 : Nat) (z15 : Nat) (z16 : Int32) (z17 : Nat) (z18 : Int32) (z19 : Nat) (k1 : Int32) : Met l yX13_check (wsM yX13_check cX13_check 8 (some .int)) ({ frames := 1, cells := 0, slots := 0, locals := 21 }) (va_Pc [.ref za, .int k1] (Pr D [(za, .inr (13, [.int z0, .ref z1, .int 0, .int 0, .int z4, .int z5, .ref z6, .ref z7, .ref z8, .ref z9, .int z10, .ref z11, .ref z12, .ref z13, .ref z14, .ref z15, .int z16, .ref z17, .int z18, .ref z19]))] [] sz)) (va_Qi (fun (r : Int32) (_ : Unit) => r = (-1)) (fun _ _ => True) (va_A [(za, .inr (13, [.int z0, .ref z1, .int 0, .int 0, .int z4, .int z5, .ref z6, .ref z7, .ref z8, .ref z9, .int z10, .ref z11, .ref z12, .ref z13, .ref z14, .ref z15, .int z16, .ref z17, .int z18, .ref z19]))] sz)) 0 0 (va_A [(za, .inr (13, [.int z0, .ref z1, .int 0, .int 0, .int z4, .int z5, .ref z6, .ref z7, .ref z8, .ref z9, .int z10, .ref z11, .ref z12, .ref z13, .ref z14, .ref z15, .int z16, .ref z17, .int z18, .ref z19]))] sz) := by
  refine Met.ofW (cc := cX13_check) (maxL := 8) (ret := (some .int)) (by decide) rfl ?_
  intro p e s m args below meth c s₁ B hml hv
  obtain ⟨rfl, hsz, hP, hK, hD0, hN⟩ := hv
  have hx := B.exec
  have hb := B.bytes
  have hr := B.returns
  have hts := atoms_spec (ws := (wsM yX13_check cX13_check 8 (some .int))) B.pre
  have hg : ∀ w ∈ lw_good, w.before _ s = true := fun w h => hts w (List.mem_cons_of_mem _ h)
  have hown : s.vm.findClass RX13 = some m.cls := findClass_of_methodNamed B.named
  have hlocks := B.notSynchronized
  subst hsz
  have hD := hD0.self (sz := s.heap.size)
  generalize hAe : va_A [(za, .inr (13, [.int z0, .ref z1, .int 0, .int 0, .int z4, .int z5, .ref z6, .ref z7, .ref z8, .ref z9, .int z10, .ref z11, .ref z12, .ref z13, .ref z14, .ref z15, .int z16, .ref z17, .int z18, .ref z19]))] s.heap.size = A at hD ⊢
  have hA : ∀ q : Nat, s.heap.size ≤ q → A q := fun q h => by rw [← hAe]; exact Or.inr h
  have hS : va_S A s.heap s.heap [] := va_S.rf
  have hP : va_P D vwCl [(za, .inr (13, [.int z0, .ref z1, .int 0, .int 0, .int z4, .int z5, .ref z6, .ref z7, .ref z8, .ref z9, .int z10, .ref z11, .ref z12, .ref z13, .ref z14, .ref z15, .int z16, .ref z17, .int z18, .ref z19]))] s.heap := hP
  have hl := lv_entry ([.ref za, .int k1]) (n := 8) (Nat.le_of_ble_eq_true rfl)
  rw [lg_entry_eq]
  generalize (lg_sl ([.ref za, .int k1]) ++ List.replicate (8 - (lg_sl ([.ref za, .int k1])).length) Slot.unset).toArray = ls at hl ⊢
  have hl : lv_has ls 8 [(0, .ref za), (1, .int k1)] := hl
  refine lv_aload_n hx hb dX13_check_0 rfl (lv_at hl 0 rfl) ?_
  refine lv_iconst (v := 0) hx hb dX13_check_1 (by decide) ?_
  refine va_put (D := D) (ci := 13) (v := .int 0) (ty := .int) (C := RX13) (T := TX13) (N := 20) hx hb hg inG13 tyX13 tyX13_ok nmX13 hown hK hP hD hS 0 rfl rfl 0 (by decide) (hg _ wd_149) (fun _ h9 => h9) rfl (by decide +kernel) rfl rfl (Nat.le_of_ble_eq_true rfl) dX13_check_2 (fun H_1 locs hP hD hS => ?_)
  have hP : va_P D vwCl [(za, .inr (13, [.int 0, .ref z1, .int 0, .int 0, .int z4, .int z5, .ref z6, .ref z7, .ref z8, .ref z9, .int z10, .ref z11, .ref z12, .ref z13, .ref z14, .ref z15, .int z16, .ref z17, .int z18, .ref z19]))] H_1 := hP
  have hD : va_D A [(za, .inr (13, [.int 0, .ref z1, .int 0, .int 0, .int z4, .int z5, .ref z6, .ref z7, .ref z8, .ref z9, .int z10, .ref z11, .ref z12, .ref z13, .ref z14, .ref z15, .int z16, .ref z17, .int z18, .ref z19]))] := hD
  refine lv_aload_n hx hb dX13_check_5 rfl (lv_at hl 0 rfl) ?_
  refine lv_iload_n hx hb dX13_check_6 rfl (lv_at hl 1 rfl) ?_
  have hPc := hP.sub (ws' := [(za, .inr (13, [.int 0, .ref z1, .int 0, .int 0, .int z4, .int z5, .ref z6, .ref z7, .ref z8, .ref z9, .int z10, .ref z11, .ref z12, .ref z13, .ref z14, .ref z15, .int z16, .ref z17, .int z18, .ref z19]))]) [0] rfl
  have hDc := hD.sub (ws' := [(za, .inr (13, [.int 0, .ref z1, .int 0, .int 0, .int z4, .int z5, .ref z6, .ref z7, .ref z8, .ref z9, .int z10, .ref z11, .ref z12, .ref z13, .ref z14, .ref z15, .int z16, .ref z17, .int z18, .ref z19]))]) [0] (by decide) rfl
  have hKc := hK.sub (tys' := []) [] rfl
  have hFc := va_free (wc := [(za, .inr (13, [.int 0, .ref z1, .int 0, .int 0, .int z4, .int z5, .ref z6, .ref z7, .ref z8, .ref z9, .int z10, .ref z11, .ref z12, .ref z13, .ref z14, .ref z15, .int z16, .ref z17, .int z18, .ref z19]))]) hD hS hA [0] rfl
  refine va_calli (va_runV (As := [.int k1]) (rest := []) ⟨hx, hb, hml, hown, hg⟩ (m_isHouse0 l D H_1.size za 0 z1 0 z4 z5 z6 z7 z8 z9 z10 z11 z12 z13 z14 z15 z16 z17 z18 z19 k1) (cwV 1 hg (gV wd_144 wd_145 wd_146 wd_147 wd_148) rfl rfl rfl (by decide +kernel) ⟨(Nat.le_of_ble_eq_true rfl), (Nat.le_of_ble_eq_true rfl)⟩) ⟨Pr.blind, va_recv hKc hPc (ci := 13) (q0 := 0) rfl rfl, fun U hU hW => ⟨rfl, Pr.at hPc hKc hDc hN hU hW⟩⟩ rfl rfl hl.1 rfl (lv_room (Nat.le_of_ble_eq_true rfl)) dX13_check_7 ⟨(Nat.le_of_ble_eq_true rfl), (Nat.le_of_ble_eq_true rfl)⟩) hS (fun q _ h => hFc q h) hFc (fun r_3 u t H_2 locs ht hvm hw hB hz1 hk1 hS => ?_)
  obtain ⟨hP1, hK1, hD1⟩ := hB
  rw [ht] at hP1
  have hK1 := va_K.moved hvm.symm hK1
  obtain ⟨hP, hD⟩ := va_join (wr := []) (w1 := [(za, .inr (13, [.int 0, .ref z1, .int 0, .int 0, .int z4, .int z5, .ref z6, .ref z7, .ref z8, .ref z9, .int z10, .ref z11, .ref z12, .ref z13, .ref z14, .ref z15, .int z16, .ref z17, .int z18, .ref z19]))]) hP hD [0] [] rfl rfl (by decide) (by decide) hk1 hFc hP1 hD1
  have hP : va_P D vwCl [(za, .inr (13, [.int 0, .ref z1, .int 0, .int 0, .int z4, .int z5, .ref z6, .ref z7, .ref z8, .ref z9, .int z10, .ref z11, .ref z12, .ref z13, .ref z14, .ref z15, .int z16, .ref z17, .int z18, .ref z19]))] H_2 := hP
  have hD : va_D A [(za, .inr (13, [.int 0, .ref z1, .int 0, .int 0, .int z4, .int z5, .ref z6, .ref z7, .ref z8, .ref z9, .int z10, .ref z11, .ref z12, .ref z13, .ref z14, .ref z15, .int z16, .ref z17, .int z18, .ref z19]))] := hD
  subst hw
  refine lv_if_eq (tgt := 25) hx hb dX13_check_10 (by decide) (fun _ => ?_) (fun c_4 => absurd c_4 (by decide))
  refine lv_aload_n hx hb dX13_check_25 rfl (lv_at hl 0 rfl) ?_
  refine lv_iconst (v := 1) hx hb dX13_check_26 (by decide) ?_
  have hPc := hP.sub (ws' := [(za, .inr (13, [.int 0, .ref z1, .int 0, .int 0, .int z4, .int z5, .ref z6, .ref z7, .ref z8, .ref z9, .int z10, .ref z11, .ref z12, .ref z13, .ref z14, .ref z15, .int z16, .ref z17, .int z18, .ref z19]))]) [0] rfl
  have hDc := hD.sub (ws' := [(za, .inr (13, [.int 0, .ref z1, .int 0, .int 0, .int z4, .int z5, .ref z6, .ref z7, .ref z8, .ref z9, .int z10, .ref z11, .ref z12, .ref z13, .ref z14, .ref z15, .int z16, .ref z17, .int z18, .ref z19]))]) [0] (by decide) rfl
  have hKc := hK.sub (tys' := []) [] rfl
  have hFc := va_free (wc := [(za, .inr (13, [.int 0, .ref z1, .int 0, .int 0, .int z4, .int z5, .ref z6, .ref z7, .ref z8, .ref z9, .int z10, .ref z11, .ref z12, .ref z13, .ref z14, .ref z15, .int z16, .ref z17, .int z18, .ref z19]))]) hD hS hA [0] rfl
  refine va_calli (va_runV (As := [.int 1]) (rest := []) ⟨hx, hb, hml, hown, hg⟩ (m_refused l D H_2.size za 0 z1 0 0 z4 z5 z6 z7 z8 z9 z10 z11 z12 z13 z14 z15 z16 z17 z18 z19 1) (cwV 1 hg (gV wd_150 wd_151 wd_152 wd_147 wd_153) rfl rfl rfl (by decide +kernel) ⟨(Nat.le_of_ble_eq_true rfl), (Nat.le_of_ble_eq_true rfl)⟩) ⟨Pr.blind, va_recv hKc hPc (ci := 13) (q0 := 0) rfl rfl, fun U hU hW => ⟨rfl, Pr.at hPc hKc hDc hN hU hW⟩⟩ rfl rfl hl.1 rfl (lv_room (Nat.le_of_ble_eq_true rfl)) dX13_check_27 ⟨(Nat.le_of_ble_eq_true rfl), (Nat.le_of_ble_eq_true rfl)⟩) hS (fun q _ h => hFc q h) hFc (fun r_6 u t H_5 locs ht hvm hw hB hz1 hk1 hS => ?_)
  obtain ⟨hP1, hK1, hD1⟩ := hB
  rw [ht] at hP1
  have hK1 := va_K.moved hvm.symm hK1
  obtain ⟨hP, hD⟩ := va_join (wr := []) (w1 := [(za, .inr (13, [.int 0, .ref z1, .int 0, .int 0, .int 1, .int (-1), .ref z6, .ref z7, .ref z8, .ref z9, .int z10, .ref z11, .ref z12, .ref z13, .ref z14, .ref z15, .int z16, .ref z17, .int z18, .ref z19]))]) hP hD [0] [] rfl rfl (by decide) (by decide) hk1 hFc hP1 hD1
  have hP : va_P D vwCl [(za, .inr (13, [.int 0, .ref z1, .int 0, .int 0, .int 1, .int (-1), .ref z6, .ref z7, .ref z8, .ref z9, .int z10, .ref z11, .ref z12, .ref z13, .ref z14, .ref z15, .int z16, .ref z17, .int z18, .ref z19]))] H_5 := hP
  have hD : va_D A [(za, .inr (13, [.int 0, .ref z1, .int 0, .int 0, .int 1, .int (-1), .ref z6, .ref z7, .ref z8, .ref z9, .int z10, .ref z11, .ref z12, .ref z13, .ref z14, .ref z15, .int z16, .ref z17, .int z18, .ref z19]))] := hD
  subst hw
  exact W.iret (v := (-1)) hx hb hr (fun t ht hW => ⟨⟨(-1), (), rfl, rfl, trivial⟩, hS.F ht⟩) hS.2.2 dX13_check_30
set_option maxHeartbeats 4000000 in
set_option maxRecDepth 100000 in
theorem m_circle (l : Launch) (D : va_G) (sz : Nat) (za : Nat) (z0 : Int32) (z1 : Nat) (z2 : Int32) (z3 : Int32) (z4 : Int32) (z5 : Int32) (z6 : Nat) (z7 : Nat) (z8 : Nat) (z9 : Nat) (z11 : Nat) (z12 : Nat) (z13 : Nat) (z14 : Nat) (z15 : Nat) (z16 : Int32) (z17 : Nat) (z18 : Int32) (z19 : Nat) (k1 : Int32) : Met l yX13_circle (wsM yX13_circle cX13_circle 2 (some .int)) ({ frames := 0, cells := 0, slots := 0, locals := 0 }) (va_Pc [.ref za, .int k1] (Pr D [(za, .inr (13, [.int z0, .ref z1, .int z2, .int z3, .int z4, .int z5, .ref z6, .ref z7, .ref z8, .ref z9, .int 0, .ref z11, .ref z12, .ref z13, .ref z14, .ref z15, .int z16, .ref z17, .int z18, .ref z19]))] [] sz)) (va_Qi (fun (r : Int32) (_ : Unit) => r = (-1)) (fun _ _ => True) (va_A [(za, .inr (13, [.int z0, .ref z1, .int z2, .int z3, .int z4, .int z5, .ref z6, .ref z7, .ref z8, .ref z9, .int 0, .ref z11, .ref z12, .ref z13, .ref z14, .ref z15, .int z16, .ref z17, .int z18, .ref z19]))] sz)) 0 0 (va_A [(za, .inr (13, [.int z0, .ref z1, .int z2, .int z3, .int z4, .int z5, .ref z6, .ref z7, .ref z8, .ref z9, .int 0, .ref z11, .ref z12, .ref z13, .ref z14, .ref z15, .int z16, .ref z17, .int z18, .ref z19]))] sz) := by
  refine Met.ofW (cc := cX13_circle) (maxL := 2) (ret := (some .int)) (by decide) rfl ?_
  intro p e s m args below meth c s₁ B hml hv
  obtain ⟨rfl, hsz, hP, hK, hD0, hN⟩ := hv
  have hx := B.exec
  have hb := B.bytes
  have hr := B.returns
  have hts := atoms_spec (ws := (wsM yX13_circle cX13_circle 2 (some .int))) B.pre
  have hg : ∀ w ∈ lw_good, w.before _ s = true := fun w h => hts w (List.mem_cons_of_mem _ h)
  have hown : s.vm.findClass RX13 = some m.cls := findClass_of_methodNamed B.named
  have hlocks := B.notSynchronized
  subst hsz
  have hD := hD0.self (sz := s.heap.size)
  generalize hAe : va_A [(za, .inr (13, [.int z0, .ref z1, .int z2, .int z3, .int z4, .int z5, .ref z6, .ref z7, .ref z8, .ref z9, .int 0, .ref z11, .ref z12, .ref z13, .ref z14, .ref z15, .int z16, .ref z17, .int z18, .ref z19]))] s.heap.size = A at hD ⊢
  have hA : ∀ q : Nat, s.heap.size ≤ q → A q := fun q h => by rw [← hAe]; exact Or.inr h
  have hS : va_S A s.heap s.heap [] := va_S.rf
  have hP : va_P D vwCl [(za, .inr (13, [.int z0, .ref z1, .int z2, .int z3, .int z4, .int z5, .ref z6, .ref z7, .ref z8, .ref z9, .int 0, .ref z11, .ref z12, .ref z13, .ref z14, .ref z15, .int z16, .ref z17, .int z18, .ref z19]))] s.heap := hP
  have hl := lv_entry ([.ref za, .int k1]) (n := 2) (Nat.le_of_ble_eq_true rfl)
  rw [lg_entry_eq]
  generalize (lg_sl ([.ref za, .int k1]) ++ List.replicate (2 - (lg_sl ([.ref za, .int k1])).length) Slot.unset).toArray = ls at hl ⊢
  have hl : lv_has ls 2 [(0, .ref za), (1, .int k1)] := hl
  refine lv_aload_n hx hb dX13_circle_0 rfl (lv_at hl 0 rfl) ?_
  refine lv_iconst (v := 0) hx hb dX13_circle_1 (by decide) ?_
  refine va_put (D := D) (ci := 13) (v := .int 0) (ty := .int) (C := RX13) (T := TX13) (N := 20) hx hb hg inG13 tyX13 tyX13_ok nmX13 hown hK hP hD hS 0 rfl rfl 0 (by decide) (hg _ wd_149) (fun _ h9 => h9) rfl (by decide +kernel) rfl rfl (Nat.le_of_ble_eq_true rfl) dX13_circle_2 (fun H_1 locs hP hD hS => ?_)
  have hP : va_P D vwCl [(za, .inr (13, [.int 0, .ref z1, .int z2, .int z3, .int z4, .int z5, .ref z6, .ref z7, .ref z8, .ref z9, .int 0, .ref z11, .ref z12, .ref z13, .ref z14, .ref z15, .int z16, .ref z17, .int z18, .ref z19]))] H_1 := hP
  have hD : va_D A [(za, .inr (13, [.int 0, .ref z1, .int z2, .int z3, .int z4, .int z5, .ref z6, .ref z7, .ref z8, .ref z9, .int 0, .ref z11, .ref z12, .ref z13, .ref z14, .ref z15, .int z16, .ref z17, .int z18, .ref z19]))] := hD
  refine lv_iload_n hx hb dX13_circle_5 rfl (lv_at hl 1 rfl) ?_
  refine lv_if_lt (tgt := 26) hx hb dX13_circle_6 (by decide) (fun c_2 => ?_) (fun c_2 => ?_)
  · refine lv_iconst (v := (-1)) hx hb dX13_circle_26 (by decide) ?_
    exact W.iret (v := (-1)) hx hb hr (fun t ht hW => ⟨⟨(-1), (), rfl, rfl, trivial⟩, hS.F ht⟩) hS.2.2 dX13_circle_27
  · refine lv_iload_n hx hb dX13_circle_9 rfl (lv_at hl 1 rfl) ?_
    refine lv_aload_n hx hb dX13_circle_10 rfl (lv_at hl 0 rfl) ?_
    refine va_get (D := D) (ci := 13) (v := .int 0) (C := RX13) (T := TX13) (N := 20) hx hb hg inG13 hown hK hP 0 rfl rfl 10 (by decide) (hg _ wd_158) (fun _ h9 => h9) rfl dX13_circle_11 ?_
    refine lv_icmp_ge (tgt := 26) hx hb dX13_circle_14 (by decide) (fun c_3 => ?_) (fun c_3 => absurd (Int32.not_lt.mp c_2) c_3)
    refine lv_iconst (v := (-1)) hx hb dX13_circle_26 (by decide) ?_
    exact W.iret (v := (-1)) hx hb hr (fun t ht hW => ⟨⟨(-1), (), rfl, rfl, trivial⟩, hS.F ht⟩) hS.2.2 dX13_circle_27
set_option maxHeartbeats 4000000 in
set_option maxRecDepth 100000 in
theorem m_tenure (l : Launch) (D : va_G) (sz : Nat) (za : Nat) (z0 : Int32) (z1 : Nat) (z4 : Int32) (z5 : Int32) (z6 : Nat) (z7 : Nat) (z8 : Nat) (z9 : Nat) (z10 : Int32) (z11 : Nat) (z12 : Nat) (z13 : Nat) (z14 : Nat) (z15 : Nat) (z16 : Int32) (z17 : Nat) (z18 : Int32) (z19 : Nat) (k1 : Int32) (k2 : Int32) (k3 : Int32) : Met l yX13_tenure (wsM yX13_tenure cX13_tenure 6 (some .int)) ({ frames := 2, cells := 0, slots := 0, locals := 43 }) (va_Pc [.ref za, .int k1, .int k2, .int k3] (Pr D [(za, .inr (13, [.int z0, .ref z1, .int 0, .int 0, .int z4, .int z5, .ref z6, .ref z7, .ref z8, .ref z9, .int z10, .ref z11, .ref z12, .ref z13, .ref z14, .ref z15, .int z16, .ref z17, .int z18, .ref z19]))] [] sz)) (va_Qi (fun (r : Int32) (_ : Unit) => r = (-1)) (fun _ _ => True) (va_A [(za, .inr (13, [.int z0, .ref z1, .int 0, .int 0, .int z4, .int z5, .ref z6, .ref z7, .ref z8, .ref z9, .int z10, .ref z11, .ref z12, .ref z13, .ref z14, .ref z15, .int z16, .ref z17, .int z18, .ref z19]))] sz)) 0 0 (va_A [(za, .inr (13, [.int z0, .ref z1, .int 0, .int 0, .int z4, .int z5, .ref z6, .ref z7, .ref z8, .ref z9, .int z10, .ref z11, .ref z12, .ref z13, .ref z14, .ref z15, .int z16, .ref z17, .int z18, .ref z19]))] sz) := by
  refine Met.ofW (cc := cX13_tenure) (maxL := 6) (ret := (some .int)) (by decide) rfl ?_
  intro p e s m args below meth c s₁ B hml hv
  obtain ⟨rfl, hsz, hP, hK, hD0, hN⟩ := hv
  have hx := B.exec
  have hb := B.bytes
  have hr := B.returns
  have hts := atoms_spec (ws := (wsM yX13_tenure cX13_tenure 6 (some .int))) B.pre
  have hg : ∀ w ∈ lw_good, w.before _ s = true := fun w h => hts w (List.mem_cons_of_mem _ h)
  have hown : s.vm.findClass RX13 = some m.cls := findClass_of_methodNamed B.named
  have hlocks := B.notSynchronized
  subst hsz
  have hD := hD0.self (sz := s.heap.size)
  generalize hAe : va_A [(za, .inr (13, [.int z0, .ref z1, .int 0, .int 0, .int z4, .int z5, .ref z6, .ref z7, .ref z8, .ref z9, .int z10, .ref z11, .ref z12, .ref z13, .ref z14, .ref z15, .int z16, .ref z17, .int z18, .ref z19]))] s.heap.size = A at hD ⊢
  have hA : ∀ q : Nat, s.heap.size ≤ q → A q := fun q h => by rw [← hAe]; exact Or.inr h
  have hS : va_S A s.heap s.heap [] := va_S.rf
  have hP : va_P D vwCl [(za, .inr (13, [.int z0, .ref z1, .int 0, .int 0, .int z4, .int z5, .ref z6, .ref z7, .ref z8, .ref z9, .int z10, .ref z11, .ref z12, .ref z13, .ref z14, .ref z15, .int z16, .ref z17, .int z18, .ref z19]))] s.heap := hP
  have hl := lv_entry ([.ref za, .int k1, .int k2, .int k3]) (n := 6) (Nat.le_of_ble_eq_true rfl)
  rw [lg_entry_eq]
  generalize (lg_sl ([.ref za, .int k1, .int k2, .int k3]) ++ List.replicate (6 - (lg_sl ([.ref za, .int k1, .int k2, .int k3])).length) Slot.unset).toArray = ls at hl ⊢
  have hl : lv_has ls 6 [(0, .ref za), (1, .int k1), (2, .int k2), (3, .int k3)] := hl
  refine lv_aload_n hx hb dX13_tenure_0 rfl (lv_at hl 0 rfl) ?_
  refine lv_iconst (v := 0) hx hb dX13_tenure_1 (by decide) ?_
  refine va_put (D := D) (ci := 13) (v := .int 0) (ty := .int) (C := RX13) (T := TX13) (N := 20) hx hb hg inG13 tyX13 tyX13_ok nmX13 hown hK hP hD hS 0 rfl rfl 0 (by decide) (hg _ wd_149) (fun _ h9 => h9) rfl (by decide +kernel) rfl rfl (Nat.le_of_ble_eq_true rfl) dX13_tenure_2 (fun H_1 locs hP hD hS => ?_)
  have hP : va_P D vwCl [(za, .inr (13, [.int 0, .ref z1, .int 0, .int 0, .int z4, .int z5, .ref z6, .ref z7, .ref z8, .ref z9, .int z10, .ref z11, .ref z12, .ref z13, .ref z14, .ref z15, .int z16, .ref z17, .int z18, .ref z19]))] H_1 := hP
  have hD : va_D A [(za, .inr (13, [.int 0, .ref z1, .int 0, .int 0, .int z4, .int z5, .ref z6, .ref z7, .ref z8, .ref z9, .int z10, .ref z11, .ref z12, .ref z13, .ref z14, .ref z15, .int z16, .ref z17, .int z18, .ref z19]))] := hD
  refine lv_aload_n hx hb dX13_tenure_5 rfl (lv_at hl 0 rfl) ?_
  refine lv_iload_n hx hb dX13_tenure_6 rfl (lv_at hl 1 rfl) ?_
  refine lv_iload_n hx hb dX13_tenure_7 rfl (lv_at hl 2 rfl) ?_
  have hPc := hP.sub (ws' := [(za, .inr (13, [.int 0, .ref z1, .int 0, .int 0, .int z4, .int z5, .ref z6, .ref z7, .ref z8, .ref z9, .int z10, .ref z11, .ref z12, .ref z13, .ref z14, .ref z15, .int z16, .ref z17, .int z18, .ref z19]))]) [0] rfl
  have hDc := hD.sub (ws' := [(za, .inr (13, [.int 0, .ref z1, .int 0, .int 0, .int z4, .int z5, .ref z6, .ref z7, .ref z8, .ref z9, .int z10, .ref z11, .ref z12, .ref z13, .ref z14, .ref z15, .int z16, .ref z17, .int z18, .ref z19]))]) [0] (by decide) rfl
  have hKc := hK.sub (tys' := []) [] rfl
  have hFc := va_free (wc := [(za, .inr (13, [.int 0, .ref z1, .int 0, .int 0, .int z4, .int z5, .ref z6, .ref z7, .ref z8, .ref z9, .int z10, .ref z11, .ref z12, .ref z13, .ref z14, .ref z15, .int z16, .ref z17, .int z18, .ref z19]))]) hD hS hA [0] rfl
  refine va_calli (va_runV (As := [.int k1, .int k2]) (rest := []) ⟨hx, hb, hml, hown, hg⟩ (m_isTenure0 l D H_1.size za 0 z1 0 z4 z5 z6 z7 z8 z9 z10 z11 z12 z13 z14 z15 z16 z17 z18 z19 k1 k2) (cwV 2 hg (gV wd_163 wd_164 wd_165 wd_147 wd_166) rfl rfl rfl (by decide +kernel) ⟨(Nat.le_of_ble_eq_true rfl), (Nat.le_of_ble_eq_true rfl)⟩) ⟨Pr.blind, va_recv hKc hPc (ci := 13) (q0 := 0) rfl rfl, fun U hU hW => ⟨rfl, Pr.at hPc hKc hDc hN hU hW⟩⟩ rfl rfl hl.1 rfl (lv_room (Nat.le_of_ble_eq_true rfl)) dX13_tenure_8 ⟨(Nat.le_of_ble_eq_true rfl), (Nat.le_of_ble_eq_true rfl)⟩) hS (fun q _ h => hFc q h) hFc (fun r_3 u t H_2 locs ht hvm hw hB hz1 hk1 hS => ?_)
  obtain ⟨hP1, hK1, hD1⟩ := hB
  rw [ht] at hP1
  have hK1 := va_K.moved hvm.symm hK1
  obtain ⟨hP, hD⟩ := va_join (wr := []) (w1 := [(za, .inr (13, [.int 0, .ref z1, .int 0, .int 0, .int z4, .int z5, .ref z6, .ref z7, .ref z8, .ref z9, .int z10, .ref z11, .ref z12, .ref z13, .ref z14, .ref z15, .int z16, .ref z17, .int z18, .ref z19]))]) hP hD [0] [] rfl rfl (by decide) (by decide) hk1 hFc hP1 hD1
  have hP : va_P D vwCl [(za, .inr (13, [.int 0, .ref z1, .int 0, .int 0, .int z4, .int z5, .ref z6, .ref z7, .ref z8, .ref z9, .int z10, .ref z11, .ref z12, .ref z13, .ref z14, .ref z15, .int z16, .ref z17, .int z18, .ref z19]))] H_2 := hP
  have hD : va_D A [(za, .inr (13, [.int 0, .ref z1, .int 0, .int 0, .int z4, .int z5, .ref z6, .ref z7, .ref z8, .ref z9, .int z10, .ref z11, .ref z12, .ref z13, .ref z14, .ref z15, .int z16, .ref z17, .int z18, .ref z19]))] := hD
  subst hw
  refine lv_if_ne (tgt := 16) hx hb dX13_tenure_11 (by decide) (fun c_4 => absurd c_4 (by decide)) (fun _ => ?_)
  refine lv_iconst (v := (-1)) hx hb dX13_tenure_14 (by decide) ?_
  exact W.iret (v := (-1)) hx hb hr (fun t ht hW => ⟨⟨(-1), (), rfl, rfl, trivial⟩, hS.F ht⟩) hS.2.2 dX13_tenure_15
set_option maxHeartbeats 4000000 in
set_option maxRecDepth 100000 in
theorem m_who (l : Launch) (D : va_G) (sz : Nat) (za : Nat) (z0 : Int32) (z1 : Nat) (z4 : Int32) (z5 : Int32) (z6 : Nat) (z7 : Nat) (z8 : Nat) (z9 : Nat) (z10 : Int32) (z11 : Nat) (z12 : Nat) (z13 : Nat) (z14 : Nat) (z15 : Nat) (z16 : Int32) (z17 : Nat) (z18 : Int32) (z19 : Nat) (k1 : Int32) (k2 : Int32) (k3 : Int32) : Met l yX13_who (wsM yX13_who cX13_who 7 (some .int)) ({ frames := 2, cells := 0, slots := 0, locals := 43 }) (va_Pc [.ref za, .int k1, .int k2, .int k3] (Pr D [(za, .inr (13, [.int z0, .ref z1, .int 0, .int 0, .int z4, .int z5, .ref z6, .ref z7, .ref z8, .ref z9, .int z10, .ref z11, .ref z12, .ref z13, .ref z14, .ref z15, .int z16, .ref z17, .int z18, .ref z19]))] [] sz)) (va_Qi (fun (r : Int32) (_ : Unit) => r = (-1)) (fun _ _ => True) (va_A [(za, .inr (13, [.int z0, .ref z1, .int 0, .int 0, .int z4, .int z5, .ref z6, .ref z7, .ref z8, .ref z9, .int z10, .ref z11, .ref z12, .ref z13, .ref z14, .ref z15, .int z16, .ref z17, .int z18, .ref z19]))] sz)) 0 0 (va_A [(za, .inr (13, [.int z0, .ref z1, .int 0, .int 0, .int z4, .int z5, .ref z6, .ref z7, .ref z8, .ref z9, .int z10, .ref z11, .ref z12, .ref z13, .ref z14, .ref z15, .int z16, .ref z17, .int z18, .ref z19]))] sz) := by
  refine Met.ofW (cc := cX13_who) (maxL := 7) (ret := (some .int)) (by decide) rfl ?_
  intro p e s m args below meth c s₁ B hml hv
  obtain ⟨rfl, hsz, hP, hK, hD0, hN⟩ := hv
  have hx := B.exec
  have hb := B.bytes
  have hr := B.returns
  have hts := atoms_spec (ws := (wsM yX13_who cX13_who 7 (some .int))) B.pre
  have hg : ∀ w ∈ lw_good, w.before _ s = true := fun w h => hts w (List.mem_cons_of_mem _ h)
  have hown : s.vm.findClass RX13 = some m.cls := findClass_of_methodNamed B.named
  have hlocks := B.notSynchronized
  subst hsz
  have hD := hD0.self (sz := s.heap.size)
  generalize hAe : va_A [(za, .inr (13, [.int z0, .ref z1, .int 0, .int 0, .int z4, .int z5, .ref z6, .ref z7, .ref z8, .ref z9, .int z10, .ref z11, .ref z12, .ref z13, .ref z14, .ref z15, .int z16, .ref z17, .int z18, .ref z19]))] s.heap.size = A at hD ⊢
  have hA : ∀ q : Nat, s.heap.size ≤ q → A q := fun q h => by rw [← hAe]; exact Or.inr h
  have hS : va_S A s.heap s.heap [] := va_S.rf
  have hP : va_P D vwCl [(za, .inr (13, [.int z0, .ref z1, .int 0, .int 0, .int z4, .int z5, .ref z6, .ref z7, .ref z8, .ref z9, .int z10, .ref z11, .ref z12, .ref z13, .ref z14, .ref z15, .int z16, .ref z17, .int z18, .ref z19]))] s.heap := hP
  have hl := lv_entry ([.ref za, .int k1, .int k2, .int k3]) (n := 7) (Nat.le_of_ble_eq_true rfl)
  rw [lg_entry_eq]
  generalize (lg_sl ([.ref za, .int k1, .int k2, .int k3]) ++ List.replicate (7 - (lg_sl ([.ref za, .int k1, .int k2, .int k3])).length) Slot.unset).toArray = ls at hl ⊢
  have hl : lv_has ls 7 [(0, .ref za), (1, .int k1), (2, .int k2), (3, .int k3)] := hl
  refine lv_aload_n hx hb dX13_who_0 rfl (lv_at hl 0 rfl) ?_
  refine lv_iconst (v := 0) hx hb dX13_who_1 (by decide) ?_
  refine va_put (D := D) (ci := 13) (v := .int 0) (ty := .int) (C := RX13) (T := TX13) (N := 20) hx hb hg inG13 tyX13 tyX13_ok nmX13 hown hK hP hD hS 0 rfl rfl 0 (by decide) (hg _ wd_149) (fun _ h9 => h9) rfl (by decide +kernel) rfl rfl (Nat.le_of_ble_eq_true rfl) dX13_who_2 (fun H_1 locs hP hD hS => ?_)
  have hP : va_P D vwCl [(za, .inr (13, [.int 0, .ref z1, .int 0, .int 0, .int z4, .int z5, .ref z6, .ref z7, .ref z8, .ref z9, .int z10, .ref z11, .ref z12, .ref z13, .ref z14, .ref z15, .int z16, .ref z17, .int z18, .ref z19]))] H_1 := hP
  have hD : va_D A [(za, .inr (13, [.int 0, .ref z1, .int 0, .int 0, .int z4, .int z5, .ref z6, .ref z7, .ref z8, .ref z9, .int z10, .ref z11, .ref z12, .ref z13, .ref z14, .ref z15, .int z16, .ref z17, .int z18, .ref z19]))] := hD
  refine lv_aload_n hx hb dX13_who_5 rfl (lv_at hl 0 rfl) ?_
  refine lv_iload_n hx hb dX13_who_6 rfl (lv_at hl 1 rfl) ?_
  refine lv_iload_n hx hb dX13_who_7 rfl (lv_at hl 2 rfl) ?_
  have hPc := hP.sub (ws' := [(za, .inr (13, [.int 0, .ref z1, .int 0, .int 0, .int z4, .int z5, .ref z6, .ref z7, .ref z8, .ref z9, .int z10, .ref z11, .ref z12, .ref z13, .ref z14, .ref z15, .int z16, .ref z17, .int z18, .ref z19]))]) [0] rfl
  have hDc := hD.sub (ws' := [(za, .inr (13, [.int 0, .ref z1, .int 0, .int 0, .int z4, .int z5, .ref z6, .ref z7, .ref z8, .ref z9, .int z10, .ref z11, .ref z12, .ref z13, .ref z14, .ref z15, .int z16, .ref z17, .int z18, .ref z19]))]) [0] (by decide) rfl
  have hKc := hK.sub (tys' := []) [] rfl
  have hFc := va_free (wc := [(za, .inr (13, [.int 0, .ref z1, .int 0, .int 0, .int z4, .int z5, .ref z6, .ref z7, .ref z8, .ref z9, .int z10, .ref z11, .ref z12, .ref z13, .ref z14, .ref z15, .int z16, .ref z17, .int z18, .ref z19]))]) hD hS hA [0] rfl
  refine va_calli (va_runV (As := [.int k1, .int k2]) (rest := []) ⟨hx, hb, hml, hown, hg⟩ (m_isSeat0 l D H_1.size za 0 z1 0 z4 z5 z6 z7 z8 z9 z10 z11 z12 z13 z14 z15 z16 z17 z18 z19 k1 k2) (cwV 2 hg (gV wd_154 wd_155 wd_156 wd_147 wd_157) rfl rfl rfl (by decide +kernel) ⟨(Nat.le_of_ble_eq_true rfl), (Nat.le_of_ble_eq_true rfl)⟩) ⟨Pr.blind, va_recv hKc hPc (ci := 13) (q0 := 0) rfl rfl, fun U hU hW => ⟨rfl, Pr.at hPc hKc hDc hN hU hW⟩⟩ rfl rfl hl.1 rfl (lv_room (Nat.le_of_ble_eq_true rfl)) dX13_who_8 ⟨(Nat.le_of_ble_eq_true rfl), (Nat.le_of_ble_eq_true rfl)⟩) hS (fun q _ h => hFc q h) hFc (fun r_3 u t H_2 locs ht hvm hw hB hz1 hk1 hS => ?_)
  obtain ⟨hP1, hK1, hD1⟩ := hB
  rw [ht] at hP1
  have hK1 := va_K.moved hvm.symm hK1
  obtain ⟨hP, hD⟩ := va_join (wr := []) (w1 := [(za, .inr (13, [.int 0, .ref z1, .int 0, .int 0, .int z4, .int z5, .ref z6, .ref z7, .ref z8, .ref z9, .int z10, .ref z11, .ref z12, .ref z13, .ref z14, .ref z15, .int z16, .ref z17, .int z18, .ref z19]))]) hP hD [0] [] rfl rfl (by decide) (by decide) hk1 hFc hP1 hD1
  have hP : va_P D vwCl [(za, .inr (13, [.int 0, .ref z1, .int 0, .int 0, .int z4, .int z5, .ref z6, .ref z7, .ref z8, .ref z9, .int z10, .ref z11, .ref z12, .ref z13, .ref z14, .ref z15, .int z16, .ref z17, .int z18, .ref z19]))] H_2 := hP
  have hD : va_D A [(za, .inr (13, [.int 0, .ref z1, .int 0, .int 0, .int z4, .int z5, .ref z6, .ref z7, .ref z8, .ref z9, .int z10, .ref z11, .ref z12, .ref z13, .ref z14, .ref z15, .int z16, .ref z17, .int z18, .ref z19]))] := hD
  subst hw
  refine lv_if_ne (tgt := 16) hx hb dX13_who_11 (by decide) (fun c_4 => absurd c_4 (by decide)) (fun _ => ?_)
  refine lv_iconst (v := (-1)) hx hb dX13_who_14 (by decide) ?_
  exact W.iret (v := (-1)) hx hb hr (fun t ht hW => ⟨⟨(-1), (), rfl, rfl, trivial⟩, hS.F ht⟩) hS.2.2 dX13_who_15
set_option maxHeartbeats 4000000 in
set_option maxRecDepth 100000 in
theorem m_told (l : Launch) (D : va_G) (sz : Nat) (za : Nat) (z0 : Int32) (z1 : Nat) (z4 : Int32) (z5 : Int32) (z6 : Nat) (z7 : Nat) (z8 : Nat) (z9 : Nat) (z10 : Int32) (z11 : Nat) (z12 : Nat) (z13 : Nat) (z14 : Nat) (z15 : Nat) (z16 : Int32) (z17 : Nat) (z18 : Int32) (z19 : Nat) (k1 : Int32) (k2 : Int32) : Met l yX13_told (wsM yX13_told cX13_told 5 (some .int)) ({ frames := 1, cells := 0, slots := 0, locals := 21 }) (va_Pc [.ref za, .int k1, .int k2] (Pr D [(za, .inr (13, [.int z0, .ref z1, .int 0, .int 0, .int z4, .int z5, .ref z6, .ref z7, .ref z8, .ref z9, .int z10, .ref z11, .ref z12, .ref z13, .ref z14, .ref z15, .int z16, .ref z17, .int z18, .ref z19]))] [] sz)) (va_Qi (fun (r : Int32) (_ : Unit) => r = (-1)) (fun _ _ => True) (va_A [(za, .inr (13, [.int z0, .ref z1, .int 0, .int 0, .int z4, .int z5, .ref z6, .ref z7, .ref z8, .ref z9, .int z10, .ref z11, .ref z12, .ref z13, .ref z14, .ref z15, .int z16, .ref z17, .int z18, .ref z19]))] sz)) 0 0 (va_A [(za, .inr (13, [.int z0, .ref z1, .int 0, .int 0, .int z4, .int z5, .ref z6, .ref z7, .ref z8, .ref z9, .int z10, .ref z11, .ref z12, .ref z13, .ref z14, .ref z15, .int z16, .ref z17, .int z18, .ref z19]))] sz) := by
  refine Met.ofW (cc := cX13_told) (maxL := 5) (ret := (some .int)) (by decide) rfl ?_
  intro p e s m args below meth c s₁ B hml hv
  obtain ⟨rfl, hsz, hP, hK, hD0, hN⟩ := hv
  have hx := B.exec
  have hb := B.bytes
  have hr := B.returns
  have hts := atoms_spec (ws := (wsM yX13_told cX13_told 5 (some .int))) B.pre
  have hg : ∀ w ∈ lw_good, w.before _ s = true := fun w h => hts w (List.mem_cons_of_mem _ h)
  have hown : s.vm.findClass RX13 = some m.cls := findClass_of_methodNamed B.named
  have hlocks := B.notSynchronized
  subst hsz
  have hD := hD0.self (sz := s.heap.size)
  generalize hAe : va_A [(za, .inr (13, [.int z0, .ref z1, .int 0, .int 0, .int z4, .int z5, .ref z6, .ref z7, .ref z8, .ref z9, .int z10, .ref z11, .ref z12, .ref z13, .ref z14, .ref z15, .int z16, .ref z17, .int z18, .ref z19]))] s.heap.size = A at hD ⊢
  have hA : ∀ q : Nat, s.heap.size ≤ q → A q := fun q h => by rw [← hAe]; exact Or.inr h
  have hS : va_S A s.heap s.heap [] := va_S.rf
  have hP : va_P D vwCl [(za, .inr (13, [.int z0, .ref z1, .int 0, .int 0, .int z4, .int z5, .ref z6, .ref z7, .ref z8, .ref z9, .int z10, .ref z11, .ref z12, .ref z13, .ref z14, .ref z15, .int z16, .ref z17, .int z18, .ref z19]))] s.heap := hP
  have hl := lv_entry ([.ref za, .int k1, .int k2]) (n := 5) (Nat.le_of_ble_eq_true rfl)
  rw [lg_entry_eq]
  generalize (lg_sl ([.ref za, .int k1, .int k2]) ++ List.replicate (5 - (lg_sl ([.ref za, .int k1, .int k2])).length) Slot.unset).toArray = ls at hl ⊢
  have hl : lv_has ls 5 [(0, .ref za), (1, .int k1), (2, .int k2)] := hl
  refine lv_aload_n hx hb dX13_told_0 rfl (lv_at hl 0 rfl) ?_
  refine lv_iconst (v := 0) hx hb dX13_told_1 (by decide) ?_
  refine va_put (D := D) (ci := 13) (v := .int 0) (ty := .int) (C := RX13) (T := TX13) (N := 20) hx hb hg inG13 tyX13 tyX13_ok nmX13 hown hK hP hD hS 0 rfl rfl 0 (by decide) (hg _ wd_149) (fun _ h9 => h9) rfl (by decide +kernel) rfl rfl (Nat.le_of_ble_eq_true rfl) dX13_told_2 (fun H_1 locs hP hD hS => ?_)
  have hP : va_P D vwCl [(za, .inr (13, [.int 0, .ref z1, .int 0, .int 0, .int z4, .int z5, .ref z6, .ref z7, .ref z8, .ref z9, .int z10, .ref z11, .ref z12, .ref z13, .ref z14, .ref z15, .int z16, .ref z17, .int z18, .ref z19]))] H_1 := hP
  have hD : va_D A [(za, .inr (13, [.int 0, .ref z1, .int 0, .int 0, .int z4, .int z5, .ref z6, .ref z7, .ref z8, .ref z9, .int z10, .ref z11, .ref z12, .ref z13, .ref z14, .ref z15, .int z16, .ref z17, .int z18, .ref z19]))] := hD
  refine lv_aload_n hx hb dX13_told_5 rfl (lv_at hl 0 rfl) ?_
  refine lv_iload_n hx hb dX13_told_6 rfl (lv_at hl 1 rfl) ?_
  have hPc := hP.sub (ws' := [(za, .inr (13, [.int 0, .ref z1, .int 0, .int 0, .int z4, .int z5, .ref z6, .ref z7, .ref z8, .ref z9, .int z10, .ref z11, .ref z12, .ref z13, .ref z14, .ref z15, .int z16, .ref z17, .int z18, .ref z19]))]) [0] rfl
  have hDc := hD.sub (ws' := [(za, .inr (13, [.int 0, .ref z1, .int 0, .int 0, .int z4, .int z5, .ref z6, .ref z7, .ref z8, .ref z9, .int z10, .ref z11, .ref z12, .ref z13, .ref z14, .ref z15, .int z16, .ref z17, .int z18, .ref z19]))]) [0] (by decide) rfl
  have hKc := hK.sub (tys' := []) [] rfl
  have hFc := va_free (wc := [(za, .inr (13, [.int 0, .ref z1, .int 0, .int 0, .int z4, .int z5, .ref z6, .ref z7, .ref z8, .ref z9, .int z10, .ref z11, .ref z12, .ref z13, .ref z14, .ref z15, .int z16, .ref z17, .int z18, .ref z19]))]) hD hS hA [0] rfl
  refine va_calli (va_runV (As := [.int k1]) (rest := []) ⟨hx, hb, hml, hown, hg⟩ (m_isHouse0 l D H_1.size za 0 z1 0 z4 z5 z6 z7 z8 z9 z10 z11 z12 z13 z14 z15 z16 z17 z18 z19 k1) (cwV 1 hg (gV wd_144 wd_145 wd_146 wd_147 wd_148) rfl rfl rfl (by decide +kernel) ⟨(Nat.le_of_ble_eq_true rfl), (Nat.le_of_ble_eq_true rfl)⟩) ⟨Pr.blind, va_recv hKc hPc (ci := 13) (q0 := 0) rfl rfl, fun U hU hW => ⟨rfl, Pr.at hPc hKc hDc hN hU hW⟩⟩ rfl rfl hl.1 rfl (lv_room (Nat.le_of_ble_eq_true rfl)) dX13_told_7 ⟨(Nat.le_of_ble_eq_true rfl), (Nat.le_of_ble_eq_true rfl)⟩) hS (fun q _ h => hFc q h) hFc (fun r_3 u t H_2 locs ht hvm hw hB hz1 hk1 hS => ?_)
  obtain ⟨hP1, hK1, hD1⟩ := hB
  rw [ht] at hP1
  have hK1 := va_K.moved hvm.symm hK1
  obtain ⟨hP, hD⟩ := va_join (wr := []) (w1 := [(za, .inr (13, [.int 0, .ref z1, .int 0, .int 0, .int z4, .int z5, .ref z6, .ref z7, .ref z8, .ref z9, .int z10, .ref z11, .ref z12, .ref z13, .ref z14, .ref z15, .int z16, .ref z17, .int z18, .ref z19]))]) hP hD [0] [] rfl rfl (by decide) (by decide) hk1 hFc hP1 hD1
  have hP : va_P D vwCl [(za, .inr (13, [.int 0, .ref z1, .int 0, .int 0, .int z4, .int z5, .ref z6, .ref z7, .ref z8, .ref z9, .int z10, .ref z11, .ref z12, .ref z13, .ref z14, .ref z15, .int z16, .ref z17, .int z18, .ref z19]))] H_2 := hP
  have hD : va_D A [(za, .inr (13, [.int 0, .ref z1, .int 0, .int 0, .int z4, .int z5, .ref z6, .ref z7, .ref z8, .ref z9, .int z10, .ref z11, .ref z12, .ref z13, .ref z14, .ref z15, .int z16, .ref z17, .int z18, .ref z19]))] := hD
  subst hw
  refine lv_if_ne (tgt := 15) hx hb dX13_told_10 (by decide) (fun c_4 => absurd c_4 (by decide)) (fun _ => ?_)
  refine lv_iconst (v := (-1)) hx hb dX13_told_13 (by decide) ?_
  exact W.iret (v := (-1)) hx hb hr (fun t ht hW => ⟨⟨(-1), (), rfl, rfl, trivial⟩, hS.F ht⟩) hS.2.2 dX13_told_14
set_option maxHeartbeats 4000000 in
set_option maxRecDepth 100000 in
theorem m_account (l : Launch) (D : va_G) (sz : Nat) (za : Nat) (z0 : Int32) (z1 : Nat) (z4 : Int32) (z5 : Int32) (z6 : Nat) (z7 : Nat) (z8 : Nat) (z9 : Nat) (z10 : Int32) (z11 : Nat) (z12 : Nat) (z13 : Nat) (z14 : Nat) (z15 : Nat) (z16 : Int32) (z17 : Nat) (z18 : Int32) (z19 : Nat) (k1 : Int32) (k2 : Int32) (k3 : Int32) : Met l yX13_account (wsM yX13_account cX13_account 5 (some .long)) ({ frames := 2, cells := 0, slots := 0, locals := 43 }) (va_Pc [.ref za, .int k1, .int k2, .int k3] (Pr D [(za, .inr (13, [.int z0, .ref z1, .int 0, .int 0, .int z4, .int z5, .ref z6, .ref z7, .ref z8, .ref z9, .int z10, .ref z11, .ref z12, .ref z13, .ref z14, .ref z15, .int z16, .ref z17, .int z18, .ref z19]))] [] sz)) (va_Ql (fun (r : Int64) (_ : Unit) => r = 0) (fun _ _ => True) (va_A [(za, .inr (13, [.int z0, .ref z1, .int 0, .int 0, .int z4, .int z5, .ref z6, .ref z7, .ref z8, .ref z9, .int z10, .ref z11, .ref z12, .ref z13, .ref z14, .ref z15, .int z16, .ref z17, .int z18, .ref z19]))] sz)) 0 0 (va_A [(za, .inr (13, [.int z0, .ref z1, .int 0, .int 0, .int z4, .int z5, .ref z6, .ref z7, .ref z8, .ref z9, .int z10, .ref z11, .ref z12, .ref z13, .ref z14, .ref z15, .int z16, .ref z17, .int z18, .ref z19]))] sz) := by
  refine Met.ofW (cc := cX13_account) (maxL := 5) (ret := (some .long)) (by decide) rfl ?_
  intro p e s m args below meth c s₁ B hml hv
  obtain ⟨rfl, hsz, hP, hK, hD0, hN⟩ := hv
  have hx := B.exec
  have hb := B.bytes
  have hr := B.returns
  have hts := atoms_spec (ws := (wsM yX13_account cX13_account 5 (some .long))) B.pre
  have hg : ∀ w ∈ lw_good, w.before _ s = true := fun w h => hts w (List.mem_cons_of_mem _ h)
  have hown : s.vm.findClass RX13 = some m.cls := findClass_of_methodNamed B.named
  have hlocks := B.notSynchronized
  subst hsz
  have hD := hD0.self (sz := s.heap.size)
  generalize hAe : va_A [(za, .inr (13, [.int z0, .ref z1, .int 0, .int 0, .int z4, .int z5, .ref z6, .ref z7, .ref z8, .ref z9, .int z10, .ref z11, .ref z12, .ref z13, .ref z14, .ref z15, .int z16, .ref z17, .int z18, .ref z19]))] s.heap.size = A at hD ⊢
  have hA : ∀ q : Nat, s.heap.size ≤ q → A q := fun q h => by rw [← hAe]; exact Or.inr h
  have hS : va_S A s.heap s.heap [] := va_S.rf
  have hP : va_P D vwCl [(za, .inr (13, [.int z0, .ref z1, .int 0, .int 0, .int z4, .int z5, .ref z6, .ref z7, .ref z8, .ref z9, .int z10, .ref z11, .ref z12, .ref z13, .ref z14, .ref z15, .int z16, .ref z17, .int z18, .ref z19]))] s.heap := hP
  have hl := lv_entry ([.ref za, .int k1, .int k2, .int k3]) (n := 5) (Nat.le_of_ble_eq_true rfl)
  rw [lg_entry_eq]
  generalize (lg_sl ([.ref za, .int k1, .int k2, .int k3]) ++ List.replicate (5 - (lg_sl ([.ref za, .int k1, .int k2, .int k3])).length) Slot.unset).toArray = ls at hl ⊢
  have hl : lv_has ls 5 [(0, .ref za), (1, .int k1), (2, .int k2), (3, .int k3)] := hl
  refine lv_aload_n hx hb dX13_account_0 rfl (lv_at hl 0 rfl) ?_
  refine lv_iconst (v := 0) hx hb dX13_account_1 (by decide) ?_
  refine va_put (D := D) (ci := 13) (v := .int 0) (ty := .int) (C := RX13) (T := TX13) (N := 20) hx hb hg inG13 tyX13 tyX13_ok nmX13 hown hK hP hD hS 0 rfl rfl 0 (by decide) (hg _ wd_149) (fun _ h9 => h9) rfl (by decide +kernel) rfl rfl (Nat.le_of_ble_eq_true rfl) dX13_account_2 (fun H_1 locs hP hD hS => ?_)
  have hP : va_P D vwCl [(za, .inr (13, [.int 0, .ref z1, .int 0, .int 0, .int z4, .int z5, .ref z6, .ref z7, .ref z8, .ref z9, .int z10, .ref z11, .ref z12, .ref z13, .ref z14, .ref z15, .int z16, .ref z17, .int z18, .ref z19]))] H_1 := hP
  have hD : va_D A [(za, .inr (13, [.int 0, .ref z1, .int 0, .int 0, .int z4, .int z5, .ref z6, .ref z7, .ref z8, .ref z9, .int z10, .ref z11, .ref z12, .ref z13, .ref z14, .ref z15, .int z16, .ref z17, .int z18, .ref z19]))] := hD
  refine lv_aload_n hx hb dX13_account_5 rfl (lv_at hl 0 rfl) ?_
  refine lv_iload_n hx hb dX13_account_6 rfl (lv_at hl 1 rfl) ?_
  refine lv_iload_n hx hb dX13_account_7 rfl (lv_at hl 2 rfl) ?_
  have hPc := hP.sub (ws' := [(za, .inr (13, [.int 0, .ref z1, .int 0, .int 0, .int z4, .int z5, .ref z6, .ref z7, .ref z8, .ref z9, .int z10, .ref z11, .ref z12, .ref z13, .ref z14, .ref z15, .int z16, .ref z17, .int z18, .ref z19]))]) [0] rfl
  have hDc := hD.sub (ws' := [(za, .inr (13, [.int 0, .ref z1, .int 0, .int 0, .int z4, .int z5, .ref z6, .ref z7, .ref z8, .ref z9, .int z10, .ref z11, .ref z12, .ref z13, .ref z14, .ref z15, .int z16, .ref z17, .int z18, .ref z19]))]) [0] (by decide) rfl
  have hKc := hK.sub (tys' := []) [] rfl
  have hFc := va_free (wc := [(za, .inr (13, [.int 0, .ref z1, .int 0, .int 0, .int z4, .int z5, .ref z6, .ref z7, .ref z8, .ref z9, .int z10, .ref z11, .ref z12, .ref z13, .ref z14, .ref z15, .int z16, .ref z17, .int z18, .ref z19]))]) hD hS hA [0] rfl
  refine va_calli (va_runV (As := [.int k1, .int k2]) (rest := []) ⟨hx, hb, hml, hown, hg⟩ (m_isTenure0 l D H_1.size za 0 z1 0 z4 z5 z6 z7 z8 z9 z10 z11 z12 z13 z14 z15 z16 z17 z18 z19 k1 k2) (cwV 2 hg (gV wd_163 wd_164 wd_165 wd_147 wd_166) rfl rfl rfl (by decide +kernel) ⟨(Nat.le_of_ble_eq_true rfl), (Nat.le_of_ble_eq_true rfl)⟩) ⟨Pr.blind, va_recv hKc hPc (ci := 13) (q0 := 0) rfl rfl, fun U hU hW => ⟨rfl, Pr.at hPc hKc hDc hN hU hW⟩⟩ rfl rfl hl.1 rfl (lv_room (Nat.le_of_ble_eq_true rfl)) dX13_account_8 ⟨(Nat.le_of_ble_eq_true rfl), (Nat.le_of_ble_eq_true rfl)⟩) hS (fun q _ h => hFc q h) hFc (fun r_3 u t H_2 locs ht hvm hw hB hz1 hk1 hS => ?_)
  obtain ⟨hP1, hK1, hD1⟩ := hB
  rw [ht] at hP1
  have hK1 := va_K.moved hvm.symm hK1
  obtain ⟨hP, hD⟩ := va_join (wr := []) (w1 := [(za, .inr (13, [.int 0, .ref z1, .int 0, .int 0, .int z4, .int z5, .ref z6, .ref z7, .ref z8, .ref z9, .int z10, .ref z11, .ref z12, .ref z13, .ref z14, .ref z15, .int z16, .ref z17, .int z18, .ref z19]))]) hP hD [0] [] rfl rfl (by decide) (by decide) hk1 hFc hP1 hD1
  have hP : va_P D vwCl [(za, .inr (13, [.int 0, .ref z1, .int 0, .int 0, .int z4, .int z5, .ref z6, .ref z7, .ref z8, .ref z9, .int z10, .ref z11, .ref z12, .ref z13, .ref z14, .ref z15, .int z16, .ref z17, .int z18, .ref z19]))] H_2 := hP
  have hD : va_D A [(za, .inr (13, [.int 0, .ref z1, .int 0, .int 0, .int z4, .int z5, .ref z6, .ref z7, .ref z8, .ref z9, .int z10, .ref z11, .ref z12, .ref z13, .ref z14, .ref z15, .int z16, .ref z17, .int z18, .ref z19]))] := hD
  subst hw
  refine lv_if_ne (tgt := 16) hx hb dX13_account_11 (by decide) (fun c_4 => absurd c_4 (by decide)) (fun _ => ?_)
  refine lv_lconst (v := 0) hx hb dX13_account_14 (by decide) ?_
  exact W.lret (v := 0) hx hb hr (fun t ht hW => ⟨⟨0, (), rfl, rfl, trivial⟩, hS.F ht⟩) hS.2.2 dX13_account_15
set_option maxHeartbeats 4000000 in
set_option maxRecDepth 100000 in
theorem m_stretchL (l : Launch) (D : va_G) (sz : Nat) (za : Nat) (z0 : Int32) (z1 : Nat) (z4 : Int32) (z5 : Int32) (z6 : Nat) (z7 : Nat) (z8 : Nat) (z9 : Nat) (z10 : Int32) (z11 : Nat) (z12 : Nat) (z13 : Nat) (z14 : Nat) (z15 : Nat) (z16 : Int32) (z17 : Nat) (z18 : Int32) (z19 : Nat) (k1 : Int32) (k2 : Int32) (k3 : Int32) : Met l yX13_stretch_ (wsM yX13_stretch_ cX13_stretch_ 5 (some .long)) ({ frames := 1, cells := 0, slots := 0, locals := 21 }) (va_Pc [.ref za, .int k1, .int k2, .int k3] (Pr D [(za, .inr (13, [.int z0, .ref z1, .int 0, .int 0, .int z4, .int z5, .ref z6, .ref z7, .ref z8, .ref z9, .int z10, .ref z11, .ref z12, .ref z13, .ref z14, .ref z15, .int z16, .ref z17, .int z18, .ref z19]))] [] sz)) (va_Ql (fun (r : Int64) (_ : Unit) => r = 0) (fun _ _ => True) (va_A [(za, .inr (13, [.int z0, .ref z1, .int 0, .int 0, .int z4, .int z5, .ref z6, .ref z7, .ref z8, .ref z9, .int z10, .ref z11, .ref z12, .ref z13, .ref z14, .ref z15, .int z16, .ref z17, .int z18, .ref z19]))] sz)) 0 0 (va_A [(za, .inr (13, [.int z0, .ref z1, .int 0, .int 0, .int z4, .int z5, .ref z6, .ref z7, .ref z8, .ref z9, .int z10, .ref z11, .ref z12, .ref z13, .ref z14, .ref z15, .int z16, .ref z17, .int z18, .ref z19]))] sz) := by
  refine Met.ofW (cc := cX13_stretch_) (maxL := 5) (ret := (some .long)) (by decide) rfl ?_
  intro p e s m args below meth c s₁ B hml hv
  obtain ⟨rfl, hsz, hP, hK, hD0, hN⟩ := hv
  have hx := B.exec
  have hb := B.bytes
  have hr := B.returns
  have hts := atoms_spec (ws := (wsM yX13_stretch_ cX13_stretch_ 5 (some .long))) B.pre
  have hg : ∀ w ∈ lw_good, w.before _ s = true := fun w h => hts w (List.mem_cons_of_mem _ h)
  have hown : s.vm.findClass RX13 = some m.cls := findClass_of_methodNamed B.named
  have hlocks := B.notSynchronized
  subst hsz
  have hD := hD0.self (sz := s.heap.size)
  generalize hAe : va_A [(za, .inr (13, [.int z0, .ref z1, .int 0, .int 0, .int z4, .int z5, .ref z6, .ref z7, .ref z8, .ref z9, .int z10, .ref z11, .ref z12, .ref z13, .ref z14, .ref z15, .int z16, .ref z17, .int z18, .ref z19]))] s.heap.size = A at hD ⊢
  have hA : ∀ q : Nat, s.heap.size ≤ q → A q := fun q h => by rw [← hAe]; exact Or.inr h
  have hS : va_S A s.heap s.heap [] := va_S.rf
  have hP : va_P D vwCl [(za, .inr (13, [.int z0, .ref z1, .int 0, .int 0, .int z4, .int z5, .ref z6, .ref z7, .ref z8, .ref z9, .int z10, .ref z11, .ref z12, .ref z13, .ref z14, .ref z15, .int z16, .ref z17, .int z18, .ref z19]))] s.heap := hP
  have hl := lv_entry ([.ref za, .int k1, .int k2, .int k3]) (n := 5) (Nat.le_of_ble_eq_true rfl)
  rw [lg_entry_eq]
  generalize (lg_sl ([.ref za, .int k1, .int k2, .int k3]) ++ List.replicate (5 - (lg_sl ([.ref za, .int k1, .int k2, .int k3])).length) Slot.unset).toArray = ls at hl ⊢
  have hl : lv_has ls 5 [(0, .ref za), (1, .int k1), (2, .int k2), (3, .int k3)] := hl
  refine lv_aload_n hx hb dX13_stretch__0 rfl (lv_at hl 0 rfl) ?_
  refine lv_iconst (v := 0) hx hb dX13_stretch__1 (by decide) ?_
  refine va_put (D := D) (ci := 13) (v := .int 0) (ty := .int) (C := RX13) (T := TX13) (N := 20) hx hb hg inG13 tyX13 tyX13_ok nmX13 hown hK hP hD hS 0 rfl rfl 0 (by decide) (hg _ wd_149) (fun _ h9 => h9) rfl (by decide +kernel) rfl rfl (Nat.le_of_ble_eq_true rfl) dX13_stretch__2 (fun H_1 locs hP hD hS => ?_)
  have hP : va_P D vwCl [(za, .inr (13, [.int 0, .ref z1, .int 0, .int 0, .int z4, .int z5, .ref z6, .ref z7, .ref z8, .ref z9, .int z10, .ref z11, .ref z12, .ref z13, .ref z14, .ref z15, .int z16, .ref z17, .int z18, .ref z19]))] H_1 := hP
  have hD : va_D A [(za, .inr (13, [.int 0, .ref z1, .int 0, .int 0, .int z4, .int z5, .ref z6, .ref z7, .ref z8, .ref z9, .int z10, .ref z11, .ref z12, .ref z13, .ref z14, .ref z15, .int z16, .ref z17, .int z18, .ref z19]))] := hD
  refine lv_aload_n hx hb dX13_stretch__5 rfl (lv_at hl 0 rfl) ?_
  refine lv_iload_n hx hb dX13_stretch__6 rfl (lv_at hl 1 rfl) ?_
  have hPc := hP.sub (ws' := [(za, .inr (13, [.int 0, .ref z1, .int 0, .int 0, .int z4, .int z5, .ref z6, .ref z7, .ref z8, .ref z9, .int z10, .ref z11, .ref z12, .ref z13, .ref z14, .ref z15, .int z16, .ref z17, .int z18, .ref z19]))]) [0] rfl
  have hDc := hD.sub (ws' := [(za, .inr (13, [.int 0, .ref z1, .int 0, .int 0, .int z4, .int z5, .ref z6, .ref z7, .ref z8, .ref z9, .int z10, .ref z11, .ref z12, .ref z13, .ref z14, .ref z15, .int z16, .ref z17, .int z18, .ref z19]))]) [0] (by decide) rfl
  have hKc := hK.sub (tys' := []) [] rfl
  have hFc := va_free (wc := [(za, .inr (13, [.int 0, .ref z1, .int 0, .int 0, .int z4, .int z5, .ref z6, .ref z7, .ref z8, .ref z9, .int z10, .ref z11, .ref z12, .ref z13, .ref z14, .ref z15, .int z16, .ref z17, .int z18, .ref z19]))]) hD hS hA [0] rfl
  refine va_calli (va_runV (As := [.int k1]) (rest := []) ⟨hx, hb, hml, hown, hg⟩ (m_isHouse0 l D H_1.size za 0 z1 0 z4 z5 z6 z7 z8 z9 z10 z11 z12 z13 z14 z15 z16 z17 z18 z19 k1) (cwV 1 hg (gV wd_144 wd_145 wd_146 wd_147 wd_148) rfl rfl rfl (by decide +kernel) ⟨(Nat.le_of_ble_eq_true rfl), (Nat.le_of_ble_eq_true rfl)⟩) ⟨Pr.blind, va_recv hKc hPc (ci := 13) (q0 := 0) rfl rfl, fun U hU hW => ⟨rfl, Pr.at hPc hKc hDc hN hU hW⟩⟩ rfl rfl hl.1 rfl (lv_room (Nat.le_of_ble_eq_true rfl)) dX13_stretch__7 ⟨(Nat.le_of_ble_eq_true rfl), (Nat.le_of_ble_eq_true rfl)⟩) hS (fun q _ h => hFc q h) hFc (fun r_3 u t H_2 locs ht hvm hw hB hz1 hk1 hS => ?_)
  obtain ⟨hP1, hK1, hD1⟩ := hB
  rw [ht] at hP1
  have hK1 := va_K.moved hvm.symm hK1
  obtain ⟨hP, hD⟩ := va_join (wr := []) (w1 := [(za, .inr (13, [.int 0, .ref z1, .int 0, .int 0, .int z4, .int z5, .ref z6, .ref z7, .ref z8, .ref z9, .int z10, .ref z11, .ref z12, .ref z13, .ref z14, .ref z15, .int z16, .ref z17, .int z18, .ref z19]))]) hP hD [0] [] rfl rfl (by decide) (by decide) hk1 hFc hP1 hD1
  have hP : va_P D vwCl [(za, .inr (13, [.int 0, .ref z1, .int 0, .int 0, .int z4, .int z5, .ref z6, .ref z7, .ref z8, .ref z9, .int z10, .ref z11, .ref z12, .ref z13, .ref z14, .ref z15, .int z16, .ref z17, .int z18, .ref z19]))] H_2 := hP
  have hD : va_D A [(za, .inr (13, [.int 0, .ref z1, .int 0, .int 0, .int z4, .int z5, .ref z6, .ref z7, .ref z8, .ref z9, .int z10, .ref z11, .ref z12, .ref z13, .ref z14, .ref z15, .int z16, .ref z17, .int z18, .ref z19]))] := hD
  subst hw
  refine lv_if_eq (tgt := 30) hx hb dX13_stretch__10 (by decide) (fun _ => ?_) (fun c_4 => absurd c_4 (by decide))
  refine lv_lconst (v := 0) hx hb dX13_stretch__30 (by decide) ?_
  exact W.lret (v := 0) hx hb hr (fun t ht hW => ⟨⟨0, (), rfl, rfl, trivial⟩, hS.F ht⟩) hS.2.2 dX13_stretch__31
set_option maxHeartbeats 4000000 in
set_option maxRecDepth 100000 in
theorem m_due (l : Launch) (D : va_G) (sz : Nat) (za : Nat) (z0 : Int32) (z1 : Nat) (z4 : Int32) (z5 : Int32) (z6 : Nat) (z7 : Nat) (z8 : Nat) (z9 : Nat) (z10 : Int32) (z11 : Nat) (z12 : Nat) (z13 : Nat) (z14 : Nat) (z15 : Nat) (z16 : Int32) (z17 : Nat) (z18 : Int32) (z19 : Nat) (k1 : Int32) (k2 : Int32) (k3 : Int32) : Met l yX13_due (wsM yX13_due cX13_due 4 (some .long)) ({ frames := 2, cells := 0, slots := 0, locals := 43 }) (va_Pc [.ref za, .int k1, .int k2, .int k3] (Pr D [(za, .inr (13, [.int z0, .ref z1, .int 0, .int 0, .int z4, .int z5, .ref z6, .ref z7, .ref z8, .ref z9, .int z10, .ref z11, .ref z12, .ref z13, .ref z14, .ref z15, .int z16, .ref z17, .int z18, .ref z19]))] [] sz)) (va_Ql (fun (r : Int64) (_ : Unit) => r = 0) (fun _ _ => True) (va_A [(za, .inr (13, [.int z0, .ref z1, .int 0, .int 0, .int z4, .int z5, .ref z6, .ref z7, .ref z8, .ref z9, .int z10, .ref z11, .ref z12, .ref z13, .ref z14, .ref z15, .int z16, .ref z17, .int z18, .ref z19]))] sz)) 0 0 (va_A [(za, .inr (13, [.int z0, .ref z1, .int 0, .int 0, .int z4, .int z5, .ref z6, .ref z7, .ref z8, .ref z9, .int z10, .ref z11, .ref z12, .ref z13, .ref z14, .ref z15, .int z16, .ref z17, .int z18, .ref z19]))] sz) := by
  refine Met.ofW (cc := cX13_due) (maxL := 4) (ret := (some .long)) (by decide) rfl ?_
  intro p e s m args below meth c s₁ B hml hv
  obtain ⟨rfl, hsz, hP, hK, hD0, hN⟩ := hv
  have hx := B.exec
  have hb := B.bytes
  have hr := B.returns
  have hts := atoms_spec (ws := (wsM yX13_due cX13_due 4 (some .long))) B.pre
  have hg : ∀ w ∈ lw_good, w.before _ s = true := fun w h => hts w (List.mem_cons_of_mem _ h)
  have hown : s.vm.findClass RX13 = some m.cls := findClass_of_methodNamed B.named
  have hlocks := B.notSynchronized
  subst hsz
  have hD := hD0.self (sz := s.heap.size)
  generalize hAe : va_A [(za, .inr (13, [.int z0, .ref z1, .int 0, .int 0, .int z4, .int z5, .ref z6, .ref z7, .ref z8, .ref z9, .int z10, .ref z11, .ref z12, .ref z13, .ref z14, .ref z15, .int z16, .ref z17, .int z18, .ref z19]))] s.heap.size = A at hD ⊢
  have hA : ∀ q : Nat, s.heap.size ≤ q → A q := fun q h => by rw [← hAe]; exact Or.inr h
  have hS : va_S A s.heap s.heap [] := va_S.rf
  have hP : va_P D vwCl [(za, .inr (13, [.int z0, .ref z1, .int 0, .int 0, .int z4, .int z5, .ref z6, .ref z7, .ref z8, .ref z9, .int z10, .ref z11, .ref z12, .ref z13, .ref z14, .ref z15, .int z16, .ref z17, .int z18, .ref z19]))] s.heap := hP
  have hl := lv_entry ([.ref za, .int k1, .int k2, .int k3]) (n := 4) (Nat.le_of_ble_eq_true rfl)
  rw [lg_entry_eq]
  generalize (lg_sl ([.ref za, .int k1, .int k2, .int k3]) ++ List.replicate (4 - (lg_sl ([.ref za, .int k1, .int k2, .int k3])).length) Slot.unset).toArray = ls at hl ⊢
  have hl : lv_has ls 4 [(0, .ref za), (1, .int k1), (2, .int k2), (3, .int k3)] := hl
  refine lv_aload_n hx hb dX13_due_0 rfl (lv_at hl 0 rfl) ?_
  refine lv_iconst (v := 0) hx hb dX13_due_1 (by decide) ?_
  refine va_put (D := D) (ci := 13) (v := .int 0) (ty := .int) (C := RX13) (T := TX13) (N := 20) hx hb hg inG13 tyX13 tyX13_ok nmX13 hown hK hP hD hS 0 rfl rfl 0 (by decide) (hg _ wd_149) (fun _ h9 => h9) rfl (by decide +kernel) rfl rfl (Nat.le_of_ble_eq_true rfl) dX13_due_2 (fun H_1 locs hP hD hS => ?_)
  have hP : va_P D vwCl [(za, .inr (13, [.int 0, .ref z1, .int 0, .int 0, .int z4, .int z5, .ref z6, .ref z7, .ref z8, .ref z9, .int z10, .ref z11, .ref z12, .ref z13, .ref z14, .ref z15, .int z16, .ref z17, .int z18, .ref z19]))] H_1 := hP
  have hD : va_D A [(za, .inr (13, [.int 0, .ref z1, .int 0, .int 0, .int z4, .int z5, .ref z6, .ref z7, .ref z8, .ref z9, .int z10, .ref z11, .ref z12, .ref z13, .ref z14, .ref z15, .int z16, .ref z17, .int z18, .ref z19]))] := hD
  refine lv_aload_n hx hb dX13_due_5 rfl (lv_at hl 0 rfl) ?_
  refine lv_iload_n hx hb dX13_due_6 rfl (lv_at hl 1 rfl) ?_
  refine lv_iload_n hx hb dX13_due_7 rfl (lv_at hl 3 rfl) ?_
  have hPc := hP.sub (ws' := [(za, .inr (13, [.int 0, .ref z1, .int 0, .int 0, .int z4, .int z5, .ref z6, .ref z7, .ref z8, .ref z9, .int z10, .ref z11, .ref z12, .ref z13, .ref z14, .ref z15, .int z16, .ref z17, .int z18, .ref z19]))]) [0] rfl
  have hDc := hD.sub (ws' := [(za, .inr (13, [.int 0, .ref z1, .int 0, .int 0, .int z4, .int z5, .ref z6, .ref z7, .ref z8, .ref z9, .int z10, .ref z11, .ref z12, .ref z13, .ref z14, .ref z15, .int z16, .ref z17, .int z18, .ref z19]))]) [0] (by decide) rfl
  have hKc := hK.sub (tys' := []) [] rfl
  have hFc := va_free (wc := [(za, .inr (13, [.int 0, .ref z1, .int 0, .int 0, .int z4, .int z5, .ref z6, .ref z7, .ref z8, .ref z9, .int z10, .ref z11, .ref z12, .ref z13, .ref z14, .ref z15, .int z16, .ref z17, .int z18, .ref z19]))]) hD hS hA [0] rfl
  refine va_calli (va_runV (As := [.int k1, .int k3]) (rest := []) ⟨hx, hb, hml, hown, hg⟩ (m_isTenure0 l D H_1.size za 0 z1 0 z4 z5 z6 z7 z8 z9 z10 z11 z12 z13 z14 z15 z16 z17 z18 z19 k1 k3) (cwV 2 hg (gV wd_163 wd_164 wd_165 wd_147 wd_166) rfl rfl rfl (by decide +kernel) ⟨(Nat.le_of_ble_eq_true rfl), (Nat.le_of_ble_eq_true rfl)⟩) ⟨Pr.blind, va_recv hKc hPc (ci := 13) (q0 := 0) rfl rfl, fun U hU hW => ⟨rfl, Pr.at hPc hKc hDc hN hU hW⟩⟩ rfl rfl hl.1 rfl (lv_room (Nat.le_of_ble_eq_true rfl)) dX13_due_8 ⟨(Nat.le_of_ble_eq_true rfl), (Nat.le_of_ble_eq_true rfl)⟩) hS (fun q _ h => hFc q h) hFc (fun r_3 u t H_2 locs ht hvm hw hB hz1 hk1 hS => ?_)
  obtain ⟨hP1, hK1, hD1⟩ := hB
  rw [ht] at hP1
  have hK1 := va_K.moved hvm.symm hK1
  obtain ⟨hP, hD⟩ := va_join (wr := []) (w1 := [(za, .inr (13, [.int 0, .ref z1, .int 0, .int 0, .int z4, .int z5, .ref z6, .ref z7, .ref z8, .ref z9, .int z10, .ref z11, .ref z12, .ref z13, .ref z14, .ref z15, .int z16, .ref z17, .int z18, .ref z19]))]) hP hD [0] [] rfl rfl (by decide) (by decide) hk1 hFc hP1 hD1
  have hP : va_P D vwCl [(za, .inr (13, [.int 0, .ref z1, .int 0, .int 0, .int z4, .int z5, .ref z6, .ref z7, .ref z8, .ref z9, .int z10, .ref z11, .ref z12, .ref z13, .ref z14, .ref z15, .int z16, .ref z17, .int z18, .ref z19]))] H_2 := hP
  have hD : va_D A [(za, .inr (13, [.int 0, .ref z1, .int 0, .int 0, .int z4, .int z5, .ref z6, .ref z7, .ref z8, .ref z9, .int z10, .ref z11, .ref z12, .ref z13, .ref z14, .ref z15, .int z16, .ref z17, .int z18, .ref z19]))] := hD
  subst hw
  refine lv_if_eq (tgt := 50) hx hb dX13_due_11 (by decide) (fun _ => ?_) (fun c_4 => absurd c_4 (by decide))
  refine lv_lconst (v := 0) hx hb dX13_due_50 (by decide) ?_
  exact W.lret (v := 0) hx hb hr (fun t ht hW => ⟨⟨0, (), rfl, rfl, trivial⟩, hS.F ht⟩) hS.2.2 dX13_due_51
set_option maxHeartbeats 4000000 in
set_option maxRecDepth 100000 in
theorem m_sum (l : Launch) (D : va_G) (sz : Nat) (za : Nat) (z0 : Int32) (z1 : Nat) (z4 : Int32) (z5 : Int32) (z6 : Nat) (z7 : Nat) (z8 : Nat) (z9 : Nat) (z10 : Int32) (z11 : Nat) (z12 : Nat) (z13 : Nat) (z14 : Nat) (z15 : Nat) (z16 : Int32) (z17 : Nat) (z18 : Int32) (z19 : Nat) (k1 : Int32) (k2 : Int32) (k3 : Int32) : Met l yX13_sum (wsM yX13_sum cX13_sum 6 (some .long)) ({ frames := 1, cells := 0, slots := 0, locals := 21 }) (va_Pc [.ref za, .int k1, .int k2, .int k3] (Pr D [(za, .inr (13, [.int z0, .ref z1, .int 0, .int 0, .int z4, .int z5, .ref z6, .ref z7, .ref z8, .ref z9, .int z10, .ref z11, .ref z12, .ref z13, .ref z14, .ref z15, .int z16, .ref z17, .int z18, .ref z19]))] [] sz)) (va_Ql (fun (r : Int64) (_ : Unit) => r = 0) (fun _ _ => True) (va_A [(za, .inr (13, [.int z0, .ref z1, .int 0, .int 0, .int z4, .int z5, .ref z6, .ref z7, .ref z8, .ref z9, .int z10, .ref z11, .ref z12, .ref z13, .ref z14, .ref z15, .int z16, .ref z17, .int z18, .ref z19]))] sz)) 0 0 (va_A [(za, .inr (13, [.int z0, .ref z1, .int 0, .int 0, .int z4, .int z5, .ref z6, .ref z7, .ref z8, .ref z9, .int z10, .ref z11, .ref z12, .ref z13, .ref z14, .ref z15, .int z16, .ref z17, .int z18, .ref z19]))] sz) := by
  refine Met.ofW (cc := cX13_sum) (maxL := 6) (ret := (some .long)) (by decide) rfl ?_
  intro p e s m args below meth c s₁ B hml hv
  obtain ⟨rfl, hsz, hP, hK, hD0, hN⟩ := hv
  have hx := B.exec
  have hb := B.bytes
  have hr := B.returns
  have hts := atoms_spec (ws := (wsM yX13_sum cX13_sum 6 (some .long))) B.pre
  have hg : ∀ w ∈ lw_good, w.before _ s = true := fun w h => hts w (List.mem_cons_of_mem _ h)
  have hown : s.vm.findClass RX13 = some m.cls := findClass_of_methodNamed B.named
  have hlocks := B.notSynchronized
  subst hsz
  have hD := hD0.self (sz := s.heap.size)
  generalize hAe : va_A [(za, .inr (13, [.int z0, .ref z1, .int 0, .int 0, .int z4, .int z5, .ref z6, .ref z7, .ref z8, .ref z9, .int z10, .ref z11, .ref z12, .ref z13, .ref z14, .ref z15, .int z16, .ref z17, .int z18, .ref z19]))] s.heap.size = A at hD ⊢
  have hA : ∀ q : Nat, s.heap.size ≤ q → A q := fun q h => by rw [← hAe]; exact Or.inr h
  have hS : va_S A s.heap s.heap [] := va_S.rf
  have hP : va_P D vwCl [(za, .inr (13, [.int z0, .ref z1, .int 0, .int 0, .int z4, .int z5, .ref z6, .ref z7, .ref z8, .ref z9, .int z10, .ref z11, .ref z12, .ref z13, .ref z14, .ref z15, .int z16, .ref z17, .int z18, .ref z19]))] s.heap := hP
  have hl := lv_entry ([.ref za, .int k1, .int k2, .int k3]) (n := 6) (Nat.le_of_ble_eq_true rfl)
  rw [lg_entry_eq]
  generalize (lg_sl ([.ref za, .int k1, .int k2, .int k3]) ++ List.replicate (6 - (lg_sl ([.ref za, .int k1, .int k2, .int k3])).length) Slot.unset).toArray = ls at hl ⊢
  have hl : lv_has ls 6 [(0, .ref za), (1, .int k1), (2, .int k2), (3, .int k3)] := hl
  refine lv_aload_n hx hb dX13_sum_0 rfl (lv_at hl 0 rfl) ?_
  refine lv_iconst (v := 0) hx hb dX13_sum_1 (by decide) ?_
  refine va_put (D := D) (ci := 13) (v := .int 0) (ty := .int) (C := RX13) (T := TX13) (N := 20) hx hb hg inG13 tyX13 tyX13_ok nmX13 hown hK hP hD hS 0 rfl rfl 0 (by decide) (hg _ wd_149) (fun _ h9 => h9) rfl (by decide +kernel) rfl rfl (Nat.le_of_ble_eq_true rfl) dX13_sum_2 (fun H_1 locs hP hD hS => ?_)
  have hP : va_P D vwCl [(za, .inr (13, [.int 0, .ref z1, .int 0, .int 0, .int z4, .int z5, .ref z6, .ref z7, .ref z8, .ref z9, .int z10, .ref z11, .ref z12, .ref z13, .ref z14, .ref z15, .int z16, .ref z17, .int z18, .ref z19]))] H_1 := hP
  have hD : va_D A [(za, .inr (13, [.int 0, .ref z1, .int 0, .int 0, .int z4, .int z5, .ref z6, .ref z7, .ref z8, .ref z9, .int z10, .ref z11, .ref z12, .ref z13, .ref z14, .ref z15, .int z16, .ref z17, .int z18, .ref z19]))] := hD
  refine lv_aload_n hx hb dX13_sum_5 rfl (lv_at hl 0 rfl) ?_
  refine lv_iload_n hx hb dX13_sum_6 rfl (lv_at hl 1 rfl) ?_
  have hPc := hP.sub (ws' := [(za, .inr (13, [.int 0, .ref z1, .int 0, .int 0, .int z4, .int z5, .ref z6, .ref z7, .ref z8, .ref z9, .int z10, .ref z11, .ref z12, .ref z13, .ref z14, .ref z15, .int z16, .ref z17, .int z18, .ref z19]))]) [0] rfl
  have hDc := hD.sub (ws' := [(za, .inr (13, [.int 0, .ref z1, .int 0, .int 0, .int z4, .int z5, .ref z6, .ref z7, .ref z8, .ref z9, .int z10, .ref z11, .ref z12, .ref z13, .ref z14, .ref z15, .int z16, .ref z17, .int z18, .ref z19]))]) [0] (by decide) rfl
  have hKc := hK.sub (tys' := []) [] rfl
  have hFc := va_free (wc := [(za, .inr (13, [.int 0, .ref z1, .int 0, .int 0, .int z4, .int z5, .ref z6, .ref z7, .ref z8, .ref z9, .int z10, .ref z11, .ref z12, .ref z13, .ref z14, .ref z15, .int z16, .ref z17, .int z18, .ref z19]))]) hD hS hA [0] rfl
  refine va_calli (va_runV (As := [.int k1]) (rest := []) ⟨hx, hb, hml, hown, hg⟩ (m_isHouse0 l D H_1.size za 0 z1 0 z4 z5 z6 z7 z8 z9 z10 z11 z12 z13 z14 z15 z16 z17 z18 z19 k1) (cwV 1 hg (gV wd_144 wd_145 wd_146 wd_147 wd_148) rfl rfl rfl (by decide +kernel) ⟨(Nat.le_of_ble_eq_true rfl), (Nat.le_of_ble_eq_true rfl)⟩) ⟨Pr.blind, va_recv hKc hPc (ci := 13) (q0 := 0) rfl rfl, fun U hU hW => ⟨rfl, Pr.at hPc hKc hDc hN hU hW⟩⟩ rfl rfl hl.1 rfl (lv_room (Nat.le_of_ble_eq_true rfl)) dX13_sum_7 ⟨(Nat.le_of_ble_eq_true rfl), (Nat.le_of_ble_eq_true rfl)⟩) hS (fun q _ h => hFc q h) hFc (fun r_3 u t H_2 locs ht hvm hw hB hz1 hk1 hS => ?_)
  obtain ⟨hP1, hK1, hD1⟩ := hB
  rw [ht] at hP1
  have hK1 := va_K.moved hvm.symm hK1
  obtain ⟨hP, hD⟩ := va_join (wr := []) (w1 := [(za, .inr (13, [.int 0, .ref z1, .int 0, .int 0, .int z4, .int z5, .ref z6, .ref z7, .ref z8, .ref z9, .int z10, .ref z11, .ref z12, .ref z13, .ref z14, .ref z15, .int z16, .ref z17, .int z18, .ref z19]))]) hP hD [0] [] rfl rfl (by decide) (by decide) hk1 hFc hP1 hD1
  have hP : va_P D vwCl [(za, .inr (13, [.int 0, .ref z1, .int 0, .int 0, .int z4, .int z5, .ref z6, .ref z7, .ref z8, .ref z9, .int z10, .ref z11, .ref z12, .ref z13, .ref z14, .ref z15, .int z16, .ref z17, .int z18, .ref z19]))] H_2 := hP
  have hD : va_D A [(za, .inr (13, [.int 0, .ref z1, .int 0, .int 0, .int z4, .int z5, .ref z6, .ref z7, .ref z8, .ref z9, .int z10, .ref z11, .ref z12, .ref z13, .ref z14, .ref z15, .int z16, .ref z17, .int z18, .ref z19]))] := hD
  subst hw
  refine lv_if_ne (tgt := 15) hx hb dX13_sum_10 (by decide) (fun c_4 => absurd c_4 (by decide)) (fun _ => ?_)
  refine lv_lconst (v := 0) hx hb dX13_sum_13 (by decide) ?_
  exact W.lret (v := 0) hx hb hr (fun t ht hW => ⟨⟨0, (), rfl, rfl, trivial⟩, hS.F ht⟩) hS.2.2 dX13_sum_14
set_option maxHeartbeats 4000000 in
set_option maxRecDepth 100000 in
theorem m_entry (l : Launch) (D : va_G) (sz : Nat) (za : Nat) (z0 : Int32) (z1 : Nat) (z4 : Int32) (z5 : Int32) (z6 : Nat) (z7 : Nat) (z8 : Nat) (z9 : Nat) (z10 : Int32) (z11 : Nat) (z12 : Nat) (z13 : Nat) (z14 : Nat) (z15 : Nat) (z16 : Int32) (z17 : Nat) (z18 : Int32) (z19 : Nat) (k1 : Int32) (k2 : Int32) (k3 : Int32) : Met l yX13_entry (wsM yX13_entry cX13_entry 4 (some .long)) ({ frames := 1, cells := 0, slots := 0, locals := 21 }) (va_Pc [.ref za, .int k1, .int k2, .int k3] (Pr D [(za, .inr (13, [.int z0, .ref z1, .int 0, .int 0, .int z4, .int z5, .ref z6, .ref z7, .ref z8, .ref z9, .int z10, .ref z11, .ref z12, .ref z13, .ref z14, .ref z15, .int z16, .ref z17, .int z18, .ref z19]))] [] sz)) (va_Ql (fun (r : Int64) (_ : Unit) => r = 0) (fun _ _ => True) (va_A [(za, .inr (13, [.int z0, .ref z1, .int 0, .int 0, .int z4, .int z5, .ref z6, .ref z7, .ref z8, .ref z9, .int z10, .ref z11, .ref z12, .ref z13, .ref z14, .ref z15, .int z16, .ref z17, .int z18, .ref z19]))] sz)) 0 0 (va_A [(za, .inr (13, [.int z0, .ref z1, .int 0, .int 0, .int z4, .int z5, .ref z6, .ref z7, .ref z8, .ref z9, .int z10, .ref z11, .ref z12, .ref z13, .ref z14, .ref z15, .int z16, .ref z17, .int z18, .ref z19]))] sz) := by
  refine Met.ofW (cc := cX13_entry) (maxL := 4) (ret := (some .long)) (by decide) rfl ?_
  intro p e s m args below meth c s₁ B hml hv
  obtain ⟨rfl, hsz, hP, hK, hD0, hN⟩ := hv
  have hx := B.exec
  have hb := B.bytes
  have hr := B.returns
  have hts := atoms_spec (ws := (wsM yX13_entry cX13_entry 4 (some .long))) B.pre
  have hg : ∀ w ∈ lw_good, w.before _ s = true := fun w h => hts w (List.mem_cons_of_mem _ h)
  have hown : s.vm.findClass RX13 = some m.cls := findClass_of_methodNamed B.named
  have hlocks := B.notSynchronized
  subst hsz
  have hD := hD0.self (sz := s.heap.size)
  generalize hAe : va_A [(za, .inr (13, [.int z0, .ref z1, .int 0, .int 0, .int z4, .int z5, .ref z6, .ref z7, .ref z8, .ref z9, .int z10, .ref z11, .ref z12, .ref z13, .ref z14, .ref z15, .int z16, .ref z17, .int z18, .ref z19]))] s.heap.size = A at hD ⊢
  have hA : ∀ q : Nat, s.heap.size ≤ q → A q := fun q h => by rw [← hAe]; exact Or.inr h
  have hS : va_S A s.heap s.heap [] := va_S.rf
  have hP : va_P D vwCl [(za, .inr (13, [.int z0, .ref z1, .int 0, .int 0, .int z4, .int z5, .ref z6, .ref z7, .ref z8, .ref z9, .int z10, .ref z11, .ref z12, .ref z13, .ref z14, .ref z15, .int z16, .ref z17, .int z18, .ref z19]))] s.heap := hP
  have hl := lv_entry ([.ref za, .int k1, .int k2, .int k3]) (n := 4) (Nat.le_of_ble_eq_true rfl)
  rw [lg_entry_eq]
  generalize (lg_sl ([.ref za, .int k1, .int k2, .int k3]) ++ List.replicate (4 - (lg_sl ([.ref za, .int k1, .int k2, .int k3])).length) Slot.unset).toArray = ls at hl ⊢
  have hl : lv_has ls 4 [(0, .ref za), (1, .int k1), (2, .int k2), (3, .int k3)] := hl
  refine lv_aload_n hx hb dX13_entry_0 rfl (lv_at hl 0 rfl) ?_
  refine lv_iconst (v := 0) hx hb dX13_entry_1 (by decide) ?_
  refine va_put (D := D) (ci := 13) (v := .int 0) (ty := .int) (C := RX13) (T := TX13) (N := 20) hx hb hg inG13 tyX13 tyX13_ok nmX13 hown hK hP hD hS 0 rfl rfl 0 (by decide) (hg _ wd_149) (fun _ h9 => h9) rfl (by decide +kernel) rfl rfl (Nat.le_of_ble_eq_true rfl) dX13_entry_2 (fun H_1 locs hP hD hS => ?_)
  have hP : va_P D vwCl [(za, .inr (13, [.int 0, .ref z1, .int 0, .int 0, .int z4, .int z5, .ref z6, .ref z7, .ref z8, .ref z9, .int z10, .ref z11, .ref z12, .ref z13, .ref z14, .ref z15, .int z16, .ref z17, .int z18, .ref z19]))] H_1 := hP
  have hD : va_D A [(za, .inr (13, [.int 0, .ref z1, .int 0, .int 0, .int z4, .int z5, .ref z6, .ref z7, .ref z8, .ref z9, .int z10, .ref z11, .ref z12, .ref z13, .ref z14, .ref z15, .int z16, .ref z17, .int z18, .ref z19]))] := hD
  refine lv_aload_n hx hb dX13_entry_5 rfl (lv_at hl 0 rfl) ?_
  refine lv_iload_n hx hb dX13_entry_6 rfl (lv_at hl 1 rfl) ?_
  have hPc := hP.sub (ws' := [(za, .inr (13, [.int 0, .ref z1, .int 0, .int 0, .int z4, .int z5, .ref z6, .ref z7, .ref z8, .ref z9, .int z10, .ref z11, .ref z12, .ref z13, .ref z14, .ref z15, .int z16, .ref z17, .int z18, .ref z19]))]) [0] rfl
  have hDc := hD.sub (ws' := [(za, .inr (13, [.int 0, .ref z1, .int 0, .int 0, .int z4, .int z5, .ref z6, .ref z7, .ref z8, .ref z9, .int z10, .ref z11, .ref z12, .ref z13, .ref z14, .ref z15, .int z16, .ref z17, .int z18, .ref z19]))]) [0] (by decide) rfl
  have hKc := hK.sub (tys' := []) [] rfl
  have hFc := va_free (wc := [(za, .inr (13, [.int 0, .ref z1, .int 0, .int 0, .int z4, .int z5, .ref z6, .ref z7, .ref z8, .ref z9, .int z10, .ref z11, .ref z12, .ref z13, .ref z14, .ref z15, .int z16, .ref z17, .int z18, .ref z19]))]) hD hS hA [0] rfl
  refine va_calli (va_runV (As := [.int k1]) (rest := []) ⟨hx, hb, hml, hown, hg⟩ (m_isHouse0 l D H_1.size za 0 z1 0 z4 z5 z6 z7 z8 z9 z10 z11 z12 z13 z14 z15 z16 z17 z18 z19 k1) (cwV 1 hg (gV wd_144 wd_145 wd_146 wd_147 wd_148) rfl rfl rfl (by decide +kernel) ⟨(Nat.le_of_ble_eq_true rfl), (Nat.le_of_ble_eq_true rfl)⟩) ⟨Pr.blind, va_recv hKc hPc (ci := 13) (q0 := 0) rfl rfl, fun U hU hW => ⟨rfl, Pr.at hPc hKc hDc hN hU hW⟩⟩ rfl rfl hl.1 rfl (lv_room (Nat.le_of_ble_eq_true rfl)) dX13_entry_7 ⟨(Nat.le_of_ble_eq_true rfl), (Nat.le_of_ble_eq_true rfl)⟩) hS (fun q _ h => hFc q h) hFc (fun r_3 u t H_2 locs ht hvm hw hB hz1 hk1 hS => ?_)
  obtain ⟨hP1, hK1, hD1⟩ := hB
  rw [ht] at hP1
  have hK1 := va_K.moved hvm.symm hK1
  obtain ⟨hP, hD⟩ := va_join (wr := []) (w1 := [(za, .inr (13, [.int 0, .ref z1, .int 0, .int 0, .int z4, .int z5, .ref z6, .ref z7, .ref z8, .ref z9, .int z10, .ref z11, .ref z12, .ref z13, .ref z14, .ref z15, .int z16, .ref z17, .int z18, .ref z19]))]) hP hD [0] [] rfl rfl (by decide) (by decide) hk1 hFc hP1 hD1
  have hP : va_P D vwCl [(za, .inr (13, [.int 0, .ref z1, .int 0, .int 0, .int z4, .int z5, .ref z6, .ref z7, .ref z8, .ref z9, .int z10, .ref z11, .ref z12, .ref z13, .ref z14, .ref z15, .int z16, .ref z17, .int z18, .ref z19]))] H_2 := hP
  have hD : va_D A [(za, .inr (13, [.int 0, .ref z1, .int 0, .int 0, .int z4, .int z5, .ref z6, .ref z7, .ref z8, .ref z9, .int z10, .ref z11, .ref z12, .ref z13, .ref z14, .ref z15, .int z16, .ref z17, .int z18, .ref z19]))] := hD
  subst hw
  refine lv_if_eq (tgt := 62) hx hb dX13_entry_10 (by decide) (fun _ => ?_) (fun c_4 => absurd c_4 (by decide))
  refine lv_lconst (v := 0) hx hb dX13_entry_62 (by decide) ?_
  exact W.lret (v := 0) hx hb hr (fun t ht hW => ⟨⟨0, (), rfl, rfl, trivial⟩, hS.F ht⟩) hS.2.2 dX13_entry_63
set_option maxHeartbeats 4000000 in
set_option maxRecDepth 100000 in
theorem m_status (l : Launch) (D : va_G) (sz : Nat) (za : Nat) (z0 : Int32) (z1 : Nat) (z2 : Int32) (z3 : Int32) (z5 : Int32) (z6 : Nat) (z7 : Nat) (z8 : Nat) (z9 : Nat) (z10 : Int32) (z11 : Nat) (z12 : Nat) (z13 : Nat) (z14 : Nat) (z15 : Nat) (z16 : Int32) (z17 : Nat) (z18 : Int32) (z19 : Nat) : Met l yX13_status (wsM yX13_status cX13_status 1 (some .int)) ({ frames := 0, cells := 0, slots := 0, locals := 0 }) (va_Pc [.ref za] (Pr D [(za, .inr (13, [.int z0, .ref z1, .int z2, .int z3, .int 0, .int z5, .ref z6, .ref z7, .ref z8, .ref z9, .int z10, .ref z11, .ref z12, .ref z13, .ref z14, .ref z15, .int z16, .ref z17, .int z18, .ref z19]))] [] sz)) (va_Qi (fun (r : Int32) (_ : Unit) => r = 0) (fun _ _ => True) (va_A [(za, .inr (13, [.int z0, .ref z1, .int z2, .int z3, .int 0, .int z5, .ref z6, .ref z7, .ref z8, .ref z9, .int z10, .ref z11, .ref z12, .ref z13, .ref z14, .ref z15, .int z16, .ref z17, .int z18, .ref z19]))] sz)) 0 0 (va_A [(za, .inr (13, [.int z0, .ref z1, .int z2, .int z3, .int 0, .int z5, .ref z6, .ref z7, .ref z8, .ref z9, .int z10, .ref z11, .ref z12, .ref z13, .ref z14, .ref z15, .int z16, .ref z17, .int z18, .ref z19]))] sz) := by
  refine Met.ofW (cc := cX13_status) (maxL := 1) (ret := (some .int)) (by decide) rfl ?_
  intro p e s m args below meth c s₁ B hml hv
  obtain ⟨rfl, hsz, hP, hK, hD0, hN⟩ := hv
  have hx := B.exec
  have hb := B.bytes
  have hr := B.returns
  have hts := atoms_spec (ws := (wsM yX13_status cX13_status 1 (some .int))) B.pre
  have hg : ∀ w ∈ lw_good, w.before _ s = true := fun w h => hts w (List.mem_cons_of_mem _ h)
  have hown : s.vm.findClass RX13 = some m.cls := findClass_of_methodNamed B.named
  have hlocks := B.notSynchronized
  subst hsz
  have hD := hD0.self (sz := s.heap.size)
  generalize hAe : va_A [(za, .inr (13, [.int z0, .ref z1, .int z2, .int z3, .int 0, .int z5, .ref z6, .ref z7, .ref z8, .ref z9, .int z10, .ref z11, .ref z12, .ref z13, .ref z14, .ref z15, .int z16, .ref z17, .int z18, .ref z19]))] s.heap.size = A at hD ⊢
  have hA : ∀ q : Nat, s.heap.size ≤ q → A q := fun q h => by rw [← hAe]; exact Or.inr h
  have hS : va_S A s.heap s.heap [] := va_S.rf
  have hP : va_P D vwCl [(za, .inr (13, [.int z0, .ref z1, .int z2, .int z3, .int 0, .int z5, .ref z6, .ref z7, .ref z8, .ref z9, .int z10, .ref z11, .ref z12, .ref z13, .ref z14, .ref z15, .int z16, .ref z17, .int z18, .ref z19]))] s.heap := hP
  have hl := lv_entry ([.ref za]) (n := 1) (Nat.le_of_ble_eq_true rfl)
  rw [lg_entry_eq]
  generalize (lg_sl ([.ref za]) ++ List.replicate (1 - (lg_sl ([.ref za])).length) Slot.unset).toArray = ls at hl ⊢
  have hl : lv_has ls 1 [(0, .ref za)] := hl
  refine lv_aload_n hx hb dX13_status_0 rfl (lv_at hl 0 rfl) ?_
  refine lv_iconst (v := 0) hx hb dX13_status_1 (by decide) ?_
  refine va_put (D := D) (ci := 13) (v := .int 0) (ty := .int) (C := RX13) (T := TX13) (N := 20) hx hb hg inG13 tyX13 tyX13_ok nmX13 hown hK hP hD hS 0 rfl rfl 0 (by decide) (hg _ wd_149) (fun _ h9 => h9) rfl (by decide +kernel) rfl rfl (Nat.le_of_ble_eq_true rfl) dX13_status_2 (fun H_1 locs hP hD hS => ?_)
  have hP : va_P D vwCl [(za, .inr (13, [.int 0, .ref z1, .int z2, .int z3, .int 0, .int z5, .ref z6, .ref z7, .ref z8, .ref z9, .int z10, .ref z11, .ref z12, .ref z13, .ref z14, .ref z15, .int z16, .ref z17, .int z18, .ref z19]))] H_1 := hP
  have hD : va_D A [(za, .inr (13, [.int 0, .ref z1, .int z2, .int z3, .int 0, .int z5, .ref z6, .ref z7, .ref z8, .ref z9, .int z10, .ref z11, .ref z12, .ref z13, .ref z14, .ref z15, .int z16, .ref z17, .int z18, .ref z19]))] := hD
  refine lv_aload_n hx hb dX13_status_5 rfl (lv_at hl 0 rfl) ?_
  refine va_get (D := D) (ci := 13) (v := .int 0) (C := RX13) (T := TX13) (N := 20) hx hb hg inG13 hown hK hP 0 rfl rfl 4 (by decide) (hg _ wd_141) (fun _ h9 => h9) rfl dX13_status_6 ?_
  exact W.iret (v := 0) hx hb hr (fun t ht hW => ⟨⟨0, (), rfl, rfl, trivial⟩, hS.F ht⟩) hS.2.2 dX13_status_9
set_option maxHeartbeats 4000000 in
set_option maxRecDepth 100000 in
theorem m_where (l : Launch) (D : va_G) (sz : Nat) (za : Nat) (z0 : Int32) (z1 : Nat) (z2 : Int32) (z3 : Int32) (z4 : Int32) (z6 : Nat) (z7 : Nat) (z8 : Nat) (z9 : Nat) (z10 : Int32) (z11 : Nat) (z12 : Nat) (z13 : Nat) (z14 : Nat) (z15 : Nat) (z16 : Int32) (z17 : Nat) (z18 : Int32) (z19 : Nat) : Met l yX13_where (wsM yX13_where cX13_where 1 (some .int)) ({ frames := 0, cells := 0, slots := 0, locals := 0 }) (va_Pc [.ref za] (Pr D [(za, .inr (13, [.int z0, .ref z1, .int z2, .int z3, .int z4, .int (-1), .ref z6, .ref z7, .ref z8, .ref z9, .int z10, .ref z11, .ref z12, .ref z13, .ref z14, .ref z15, .int z16, .ref z17, .int z18, .ref z19]))] [] sz)) (va_Qi (fun (r : Int32) (_ : Unit) => r = (-1)) (fun _ _ => True) (va_A [(za, .inr (13, [.int z0, .ref z1, .int z2, .int z3, .int z4, .int (-1), .ref z6, .ref z7, .ref z8, .ref z9, .int z10, .ref z11, .ref z12, .ref z13, .ref z14, .ref z15, .int z16, .ref z17, .int z18, .ref z19]))] sz)) 0 0 (va_A [(za, .inr (13, [.int z0, .ref z1, .int z2, .int z3, .int z4, .int (-1), .ref z6, .ref z7, .ref z8, .ref z9, .int z10, .ref z11, .ref z12, .ref z13, .ref z14, .ref z15, .int z16, .ref z17, .int z18, .ref z19]))] sz) := by
  refine Met.ofW (cc := cX13_where) (maxL := 1) (ret := (some .int)) (by decide) rfl ?_
  intro p e s m args below meth c s₁ B hml hv
  obtain ⟨rfl, hsz, hP, hK, hD0, hN⟩ := hv
  have hx := B.exec
  have hb := B.bytes
  have hr := B.returns
  have hts := atoms_spec (ws := (wsM yX13_where cX13_where 1 (some .int))) B.pre
  have hg : ∀ w ∈ lw_good, w.before _ s = true := fun w h => hts w (List.mem_cons_of_mem _ h)
  have hown : s.vm.findClass RX13 = some m.cls := findClass_of_methodNamed B.named
  have hlocks := B.notSynchronized
  subst hsz
  have hD := hD0.self (sz := s.heap.size)
  generalize hAe : va_A [(za, .inr (13, [.int z0, .ref z1, .int z2, .int z3, .int z4, .int (-1), .ref z6, .ref z7, .ref z8, .ref z9, .int z10, .ref z11, .ref z12, .ref z13, .ref z14, .ref z15, .int z16, .ref z17, .int z18, .ref z19]))] s.heap.size = A at hD ⊢
  have hA : ∀ q : Nat, s.heap.size ≤ q → A q := fun q h => by rw [← hAe]; exact Or.inr h
  have hS : va_S A s.heap s.heap [] := va_S.rf
  have hP : va_P D vwCl [(za, .inr (13, [.int z0, .ref z1, .int z2, .int z3, .int z4, .int (-1), .ref z6, .ref z7, .ref z8, .ref z9, .int z10, .ref z11, .ref z12, .ref z13, .ref z14, .ref z15, .int z16, .ref z17, .int z18, .ref z19]))] s.heap := hP
  have hl := lv_entry ([.ref za]) (n := 1) (Nat.le_of_ble_eq_true rfl)
  rw [lg_entry_eq]
  generalize (lg_sl ([.ref za]) ++ List.replicate (1 - (lg_sl ([.ref za])).length) Slot.unset).toArray = ls at hl ⊢
  have hl : lv_has ls 1 [(0, .ref za)] := hl
  refine lv_aload_n hx hb dX13_where_0 rfl (lv_at hl 0 rfl) ?_
  refine lv_iconst (v := 0) hx hb dX13_where_1 (by decide) ?_
  refine va_put (D := D) (ci := 13) (v := .int 0) (ty := .int) (C := RX13) (T := TX13) (N := 20) hx hb hg inG13 tyX13 tyX13_ok nmX13 hown hK hP hD hS 0 rfl rfl 0 (by decide) (hg _ wd_149) (fun _ h9 => h9) rfl (by decide +kernel) rfl rfl (Nat.le_of_ble_eq_true rfl) dX13_where_2 (fun H_1 locs hP hD hS => ?_)
  have hP : va_P D vwCl [(za, .inr (13, [.int 0, .ref z1, .int z2, .int z3, .int z4, .int (-1), .ref z6, .ref z7, .ref z8, .ref z9, .int z10, .ref z11, .ref z12, .ref z13, .ref z14, .ref z15, .int z16, .ref z17, .int z18, .ref z19]))] H_1 := hP
  have hD : va_D A [(za, .inr (13, [.int 0, .ref z1, .int z2, .int z3, .int z4, .int (-1), .ref z6, .ref z7, .ref z8, .ref z9, .int z10, .ref z11, .ref z12, .ref z13, .ref z14, .ref z15, .int z16, .ref z17, .int z18, .ref z19]))] := hD
  refine lv_aload_n hx hb dX13_where_5 rfl (lv_at hl 0 rfl) ?_
  refine va_get (D := D) (ci := 13) (v := .int (-1)) (C := RX13) (T := TX13) (N := 20) hx hb hg inG13 hown hK hP 0 rfl rfl 5 (by decide) (hg _ wd_142) (fun _ h9 => h9) rfl dX13_where_6 ?_
  exact W.iret (v := (-1)) hx hb hr (fun t ht hW => ⟨⟨(-1), (), rfl, rfl, trivial⟩, hS.F ht⟩) hS.2.2 dX13_where_9
set_option maxHeartbeats 4000000 in
set_option maxRecDepth 100000 in
theorem m_borne (l : Launch) (D : va_G) (sz : Nat) (za : Nat) (z0 : Int32) (z1 : Nat) (z2 : Int32) (z3 : Int32) (z4 : Int32) (z5 : Int32) (z6 : Nat) (z7 : Nat) (z8 : Nat) (z9 : Nat) (z10 : Int32) (z11 : Nat) (z12 : Nat) (z13 : Nat) (z14 : Nat) (z15 : Nat) (z16 : Int32) (z17 : Nat) (z19 : Nat) (k1 : Int32) (ca : ClassId) : Met l yX13_borne (wsM yX13_borne cX13_borne 2 (some .int)) ({ frames := 0, cells := 0, slots := 0, locals := 0 }) (va_Pc [.ref za, .int k1] (Pr D [(za, .inr (13, [.int z0, .ref z1, .int z2, .int z3, .int z4, .int z5, .ref z6, .ref z7, .ref z8, .ref z9, .int z10, .ref z11, .ref z12, .ref z13, .ref z14, .ref z15, .int z16, .ref z17, .int 0, .ref z19])), (z17, .inl (ca, 24, .inl (fun _ => 0)))] [(ca, .int)] sz)) (va_Qi (fun (r : Int32) (_ : Unit) => r = 0) (fun _ _ => True) (va_A [(za, .inr (13, [.int z0, .ref z1, .int z2, .int z3, .int z4, .int z5, .ref z6, .ref z7, .ref z8, .ref z9, .int z10, .ref z11, .ref z12, .ref z13, .ref z14, .ref z15, .int z16, .ref z17, .int 0, .ref z19])), (z17, .inl (ca, 24, .inl (fun _ => 0)))] sz)) 0 0 (va_A [(za, .inr (13, [.int z0, .ref z1, .int z2, .int z3, .int z4, .int z5, .ref z6, .ref z7, .ref z8, .ref z9, .int z10, .ref z11, .ref z12, .ref z13, .ref z14, .ref z15, .int z16, .ref z17, .int 0, .ref z19])), (z17, .inl (ca, 24, .inl (fun _ => 0)))] sz) := by
  refine Met.ofW (cc := cX13_borne) (maxL := 2) (ret := (some .int)) (by decide) rfl ?_
  intro p e s m args below meth c s₁ B hml hv
  obtain ⟨rfl, hsz, hP, hK, hD0, hN⟩ := hv
  have hx := B.exec
  have hb := B.bytes
  have hr := B.returns
  have hts := atoms_spec (ws := (wsM yX13_borne cX13_borne 2 (some .int))) B.pre
  have hg : ∀ w ∈ lw_good, w.before _ s = true := fun w h => hts w (List.mem_cons_of_mem _ h)
  have hown : s.vm.findClass RX13 = some m.cls := findClass_of_methodNamed B.named
  have hlocks := B.notSynchronized
  subst hsz
  have hD := hD0.self (sz := s.heap.size)
  generalize hAe : va_A [(za, .inr (13, [.int z0, .ref z1, .int z2, .int z3, .int z4, .int z5, .ref z6, .ref z7, .ref z8, .ref z9, .int z10, .ref z11, .ref z12, .ref z13, .ref z14, .ref z15, .int z16, .ref z17, .int 0, .ref z19])), (z17, .inl (ca, 24, .inl (fun _ => 0)))] s.heap.size = A at hD ⊢
  have hA : ∀ q : Nat, s.heap.size ≤ q → A q := fun q h => by rw [← hAe]; exact Or.inr h
  have hS : va_S A s.heap s.heap [] := va_S.rf
  have hP : va_P D vwCl [(za, .inr (13, [.int z0, .ref z1, .int z2, .int z3, .int z4, .int z5, .ref z6, .ref z7, .ref z8, .ref z9, .int z10, .ref z11, .ref z12, .ref z13, .ref z14, .ref z15, .int z16, .ref z17, .int 0, .ref z19])), (z17, .inl (ca, 24, .inl (fun _ => 0)))] s.heap := hP
  have hl := lv_entry ([.ref za, .int k1]) (n := 2) (Nat.le_of_ble_eq_true rfl)
  rw [lg_entry_eq]
  generalize (lg_sl ([.ref za, .int k1]) ++ List.replicate (2 - (lg_sl ([.ref za, .int k1])).length) Slot.unset).toArray = ls at hl ⊢
  have hl : lv_has ls 2 [(0, .ref za), (1, .int k1)] := hl
  refine lv_aload_n hx hb dX13_borne_0 rfl (lv_at hl 0 rfl) ?_
  refine lv_iconst (v := 0) hx hb dX13_borne_1 (by decide) ?_
  refine va_put (D := D) (ci := 13) (v := .int 0) (ty := .int) (C := RX13) (T := TX13) (N := 20) hx hb hg inG13 tyX13 tyX13_ok nmX13 hown hK hP hD hS 0 rfl rfl 0 (by decide) (hg _ wd_149) (fun _ h9 => h9) rfl (by decide +kernel) rfl rfl (Nat.le_of_ble_eq_true rfl) dX13_borne_2 (fun H_1 locs hP hD hS => ?_)
  have hP : va_P D vwCl [(za, .inr (13, [.int 0, .ref z1, .int z2, .int z3, .int z4, .int z5, .ref z6, .ref z7, .ref z8, .ref z9, .int z10, .ref z11, .ref z12, .ref z13, .ref z14, .ref z15, .int z16, .ref z17, .int 0, .ref z19])), (z17, .inl (ca, 24, .inl (fun _ => 0)))] H_1 := hP
  have hD : va_D A [(za, .inr (13, [.int 0, .ref z1, .int z2, .int z3, .int z4, .int z5, .ref z6, .ref z7, .ref z8, .ref z9, .int z10, .ref z11, .ref z12, .ref z13, .ref z14, .ref z15, .int z16, .ref z17, .int 0, .ref z19])), (z17, .inl (ca, 24, .inl (fun _ => 0)))] := hD
  refine lv_iload_n hx hb dX13_borne_5 rfl (lv_at hl 1 rfl) ?_
  refine lv_iconst (v := (-1)) hx hb dX13_borne_6 (by decide) ?_
  refine lv_icmp_ne (tgt := 17) hx hb dX13_borne_7 (by decide) (fun c_2 => ?_) (fun c_2 => ?_)
  · refine lv_iload_n hx hb dX13_borne_17 rfl (lv_at hl 1 rfl) ?_
    refine lv_if_lt (tgt := 36) hx hb dX13_borne_18 (by decide) (fun c_3 => ?_) (fun c_3 => ?_)
    · refine lv_iconst (v := 0) hx hb dX13_borne_36 (by decide) ?_
      exact W.iret (v := 0) hx hb hr (fun t ht hW => ⟨⟨0, (), rfl, rfl, trivial⟩, hS.F ht⟩) hS.2.2 dX13_borne_37
    · refine lv_iload_n hx hb dX13_borne_21 rfl (lv_at hl 1 rfl) ?_
      refine lv_bipush (v := 24) hx hb dX13_borne_22 (by decide) ?_
      refine lv_icmp_ge (tgt := 36) hx hb dX13_borne_24 (by decide) (fun c_4 => ?_) (fun c_4 => ?_)
      · refine lv_iconst (v := 0) hx hb dX13_borne_36 (by decide) ?_
        exact W.iret (v := 0) hx hb hr (fun t ht hW => ⟨⟨0, (), rfl, rfl, trivial⟩, hS.F ht⟩) hS.2.2 dX13_borne_37
      · refine lv_aload_n hx hb dX13_borne_27 rfl (lv_at hl 0 rfl) ?_
        refine va_get (D := D) (ci := 13) (v := .ref z17) (C := RX13) (T := TX13) (N := 20) hx hb hg inG13 hown hK hP 0 rfl rfl 17 (by decide) (hg _ wd_167) (fun _ h9 => h9) rfl dX13_borne_28 ?_
        refine lv_iload_n hx hb dX13_borne_31 rfl (lv_at hl 1 rfl) ?_
        refine va_iald hx hb hK hP 1 0 rfl rfl (inb k1 24 (by decide) c_3 c_4) dX13_borne_32 ?_
        refine lv_goto (tgt := 37) hx hb dX13_borne_33 (by decide) ?_
        exact W.iret (v := ((fun _ => 0) (k1 : Int32).toNatClampNeg)) hx hb hr (fun t ht hW => ⟨⟨((fun _ => 0) (k1 : Int32).toNatClampNeg), (), rfl, rfl, trivial⟩, hS.F ht⟩) hS.2.2 dX13_borne_37
  · refine lv_aload_n hx hb dX13_borne_10 rfl (lv_at hl 0 rfl) ?_
    refine va_get (D := D) (ci := 13) (v := .int 0) (C := RX13) (T := TX13) (N := 20) hx hb hg inG13 hown hK hP 0 rfl rfl 18 (by decide) (hg _ wd_168) (fun _ h9 => h9) rfl dX13_borne_11 ?_
    refine lv_goto (tgt := 37) hx hb dX13_borne_14 (by decide) ?_
    exact W.iret (v := 0) hx hb hr (fun t ht hW => ⟨⟨0, (), rfl, rfl, trivial⟩, hS.F ht⟩) hS.2.2 dX13_borne_37
set_option maxHeartbeats 4000000 in
set_option maxRecDepth 100000 in
theorem m_sheet (l : Launch) (D : va_G) (sz : Nat) (za : Nat) (z0 : Int32) (z1 : Nat) (z2 : Int32) (z3 : Int32) (z4 : Int32) (z5 : Int32) (z6 : Nat) (z7 : Nat) (z8 : Nat) (z9 : Nat) (z10 : Int32) (z11 : Nat) (z12 : Nat) (z13 : Nat) (z14 : Nat) (z15 : Nat) (z16 : Int32) (z17 : Nat) (z18 : Int32) (z19 : Nat) (k1 : Int32) (k2 : Int64) (ca : ClassId) : Met l yX13_sheet (wsM yX13_sheet cX13_sheet 4 (some .int)) ({ frames := 1, cells := 0, slots := 0, locals := 21 }) (va_Pc [.ref za, .int k1, .long k2] (Pr D [(za, .inr (13, [.int z0, .ref z1, .int z2, .int z3, .int z4, .int z5, .ref z6, .ref z7, .ref z8, .ref z9, .int z10, .ref z11, .ref z12, .ref z13, .ref z14, .ref z15, .int z16, .ref z17, .int z18, .ref z19])), (z19, .inl (ca, 25, .inr (.inl (fun _ => 0))))] [(ca, .long)] sz)) (va_Qi (fun (r : Int32) (_ : Unit) => r = ansSheet k1) (fun _ _ => True) (va_A [(za, .inr (13, [.int z0, .ref z1, .int z2, .int z3, .int z4, .int z5, .ref z6, .ref z7, .ref z8, .ref z9, .int z10, .ref z11, .ref z12, .ref z13, .ref z14, .ref z15, .int z16, .ref z17, .int z18, .ref z19])), (z19, .inl (ca, 25, .inr (.inl (fun _ => 0))))] sz)) 0 0 (va_A [(za, .inr (13, [.int z0, .ref z1, .int z2, .int z3, .int z4, .int z5, .ref z6, .ref z7, .ref z8, .ref z9, .int z10, .ref z11, .ref z12, .ref z13, .ref z14, .ref z15, .int z16, .ref z17, .int z18, .ref z19])), (z19, .inl (ca, 25, .inr (.inl (fun _ => 0))))] sz) := by
  refine Met.ofW (cc := cX13_sheet) (maxL := 4) (ret := (some .int)) (by decide) rfl ?_
  intro p e s m args below meth c s₁ B hml hv
  obtain ⟨rfl, hsz, hP, hK, hD0, hN⟩ := hv
  have hx := B.exec
  have hb := B.bytes
  have hr := B.returns
  have hts := atoms_spec (ws := (wsM yX13_sheet cX13_sheet 4 (some .int))) B.pre
  have hg : ∀ w ∈ lw_good, w.before _ s = true := fun w h => hts w (List.mem_cons_of_mem _ h)
  have hown : s.vm.findClass RX13 = some m.cls := findClass_of_methodNamed B.named
  have hlocks := B.notSynchronized
  subst hsz
  have hD := hD0.self (sz := s.heap.size)
  generalize hAe : va_A [(za, .inr (13, [.int z0, .ref z1, .int z2, .int z3, .int z4, .int z5, .ref z6, .ref z7, .ref z8, .ref z9, .int z10, .ref z11, .ref z12, .ref z13, .ref z14, .ref z15, .int z16, .ref z17, .int z18, .ref z19])), (z19, .inl (ca, 25, .inr (.inl (fun _ => 0))))] s.heap.size = A at hD ⊢
  have hA : ∀ q : Nat, s.heap.size ≤ q → A q := fun q h => by rw [← hAe]; exact Or.inr h
  have hS : va_S A s.heap s.heap [] := va_S.rf
  have hP : va_P D vwCl [(za, .inr (13, [.int z0, .ref z1, .int z2, .int z3, .int z4, .int z5, .ref z6, .ref z7, .ref z8, .ref z9, .int z10, .ref z11, .ref z12, .ref z13, .ref z14, .ref z15, .int z16, .ref z17, .int z18, .ref z19])), (z19, .inl (ca, 25, .inr (.inl (fun _ => 0))))] s.heap := hP
  have hl := lv_entry ([.ref za, .int k1, .long k2]) (n := 4) (Nat.le_of_ble_eq_true rfl)
  rw [lg_entry_eq]
  generalize (lg_sl ([.ref za, .int k1, .long k2]) ++ List.replicate (4 - (lg_sl ([.ref za, .int k1, .long k2])).length) Slot.unset).toArray = ls at hl ⊢
  have hl : lv_has ls 4 [(0, .ref za), (1, .int k1), (2, .long k2)] := hl
  refine lv_aload_n hx hb dX13_sheet_0 rfl (lv_at hl 0 rfl) ?_
  refine lv_iconst (v := 0) hx hb dX13_sheet_1 (by decide) ?_
  refine va_put (D := D) (ci := 13) (v := .int 0) (ty := .int) (C := RX13) (T := TX13) (N := 20) hx hb hg inG13 tyX13 tyX13_ok nmX13 hown hK hP hD hS 0 rfl rfl 0 (by decide) (hg _ wd_149) (fun _ h9 => h9) rfl (by decide +kernel) rfl rfl (Nat.le_of_ble_eq_true rfl) dX13_sheet_2 (fun H_1 locs hP hD hS => ?_)
  have hP : va_P D vwCl [(za, .inr (13, [.int 0, .ref z1, .int z2, .int z3, .int z4, .int z5, .ref z6, .ref z7, .ref z8, .ref z9, .int z10, .ref z11, .ref z12, .ref z13, .ref z14, .ref z15, .int z16, .ref z17, .int z18, .ref z19])), (z19, .inl (ca, 25, .inr (.inl (fun _ => 0))))] H_1 := hP
  have hD : va_D A [(za, .inr (13, [.int 0, .ref z1, .int z2, .int z3, .int z4, .int z5, .ref z6, .ref z7, .ref z8, .ref z9, .int z10, .ref z11, .ref z12, .ref z13, .ref z14, .ref z15, .int z16, .ref z17, .int z18, .ref z19])), (z19, .inl (ca, 25, .inr (.inl (fun _ => 0))))] := hD
  refine lv_iload_n hx hb dX13_sheet_5 rfl (lv_at hl 1 rfl) ?_
  refine lv_if_lt (tgt := 15) hx hb dX13_sheet_6 (by decide) (fun c_2 => ?_) (fun c_2 => ?_)
  · refine lv_aload_n hx hb dX13_sheet_15 rfl (lv_at hl 0 rfl) ?_
    refine lv_iconst (v := 2) hx hb dX13_sheet_16 (by decide) ?_
    have hPc := hP.sub (ws' := [(za, .inr (13, [.int 0, .ref z1, .int z2, .int z3, .int z4, .int z5, .ref z6, .ref z7, .ref z8, .ref z9, .int z10, .ref z11, .ref z12, .ref z13, .ref z14, .ref z15, .int z16, .ref z17, .int z18, .ref z19]))]) [0] rfl
    have hDc := hD.sub (ws' := [(za, .inr (13, [.int 0, .ref z1, .int z2, .int z3, .int z4, .int z5, .ref z6, .ref z7, .ref z8, .ref z9, .int z10, .ref z11, .ref z12, .ref z13, .ref z14, .ref z15, .int z16, .ref z17, .int z18, .ref z19]))]) [0] (by decide) rfl
    have hKc := hK.sub (tys' := []) [] rfl
    have hFc := va_free (wc := [(za, .inr (13, [.int 0, .ref z1, .int z2, .int z3, .int z4, .int z5, .ref z6, .ref z7, .ref z8, .ref z9, .int z10, .ref z11, .ref z12, .ref z13, .ref z14, .ref z15, .int z16, .ref z17, .int z18, .ref z19]))]) hD hS hA [0] rfl
    refine va_calli (va_runV (As := [.int 2]) (rest := []) ⟨hx, hb, hml, hown, hg⟩ (m_refused l D H_1.size za 0 z1 z2 z3 z4 z5 z6 z7 z8 z9 z10 z11 z12 z13 z14 z15 z16 z17 z18 z19 2) (cwV 1 hg (gV wd_150 wd_151 wd_152 wd_147 wd_153) rfl rfl rfl (by decide +kernel) ⟨(Nat.le_of_ble_eq_true rfl), (Nat.le_of_ble_eq_true rfl)⟩) ⟨Pr.blind, va_recv hKc hPc (ci := 13) (q0 := 0) rfl rfl, fun U hU hW => ⟨rfl, Pr.at hPc hKc hDc hN hU hW⟩⟩ rfl rfl hl.1 rfl (lv_room (Nat.le_of_ble_eq_true rfl)) dX13_sheet_17 ⟨(Nat.le_of_ble_eq_true rfl), (Nat.le_of_ble_eq_true rfl)⟩) hS (fun q _ h => hFc q h) hFc (fun r_4 u t H_3 locs ht hvm hw hB hz1 hk1 hS => ?_)
    obtain ⟨hP1, hK1, hD1⟩ := hB
    rw [ht] at hP1
    have hK1 := va_K.moved hvm.symm hK1
    obtain ⟨hP, hD⟩ := va_join (wr := [(z19, .inl (ca, 25, .inr (.inl (fun _ => 0))))]) (w1 := [(za, .inr (13, [.int 0, .ref z1, .int z2, .int z3, .int 2, .int (-1), .ref z6, .ref z7, .ref z8, .ref z9, .int z10, .ref z11, .ref z12, .ref z13, .ref z14, .ref z15, .int z16, .ref z17, .int z18, .ref z19]))]) hP hD [0] [1] rfl rfl (by decide) (by decide) hk1 hFc hP1 hD1
    have hP : va_P D vwCl [(z19, .inl (ca, 25, .inr (.inl (fun _ => 0)))), (za, .inr (13, [.int 0, .ref z1, .int z2, .int z3, .int 2, .int (-1), .ref z6, .ref z7, .ref z8, .ref z9, .int z10, .ref z11, .ref z12, .ref z13, .ref z14, .ref z15, .int z16, .ref z17, .int z18, .ref z19]))] H_3 := hP
    have hD : va_D A [(z19, .inl (ca, 25, .inr (.inl (fun _ => 0)))), (za, .inr (13, [.int 0, .ref z1, .int z2, .int z3, .int 2, .int (-1), .ref z6, .ref z7, .ref z8, .ref z9, .int z10, .ref z11, .ref z12, .ref z13, .ref z14, .ref z15, .int z16, .ref z17, .int z18, .ref z19]))] := hD
    subst hw
    exact W.iret (v := (-1)) hx hb hr (fun t ht hW => ⟨⟨(-1), (), rfl, by simp [ansSheet, c_2], trivial⟩, hS.F ht⟩) hS.2.2 dX13_sheet_20
  · refine lv_iload_n hx hb dX13_sheet_9 rfl (lv_at hl 1 rfl) ?_
    refine lv_bipush (v := 24) hx hb dX13_sheet_10 (by decide) ?_
    refine lv_icmp_le (tgt := 21) hx hb dX13_sheet_12 (by decide) (fun c_5 => ?_) (fun c_5 => ?_)
    · refine lv_aload_n hx hb dX13_sheet_21 rfl (lv_at hl 0 rfl) ?_
      refine va_get (D := D) (ci := 13) (v := .ref z19) (C := RX13) (T := TX13) (N := 20) hx hb hg inG13 hown hK hP 0 rfl rfl 19 (by decide) (hg _ wd_169) (fun _ h9 => h9) rfl dX13_sheet_22 ?_
      refine lv_iload_n hx hb dX13_sheet_25 rfl (lv_at hl 1 rfl) ?_
      refine lv_lload_n hx hb dX13_sheet_26 rfl (lv_at hl 2 rfl) ?_
      refine va_last hx hb hK hP hD hS 1 0 rfl rfl (inb24 k1 c_2 c_5) dX13_sheet_27 (fun H_6 locs hP hD hS => ?_)
      have hP : va_P D vwCl [(za, .inr (13, [.int 0, .ref z1, .int z2, .int z3, .int z4, .int z5, .ref z6, .ref z7, .ref z8, .ref z9, .int z10, .ref z11, .ref z12, .ref z13, .ref z14, .ref z15, .int z16, .ref z17, .int z18, .ref z19])), (z19, .inl (ca, 25, .inr (.inl (vp_updL (fun _ => 0) (k1 : Int32).toNatClampNeg k2))))] H_6 := hP
      have hD : va_D A [(za, .inr (13, [.int 0, .ref z1, .int z2, .int z3, .int z4, .int z5, .ref z6, .ref z7, .ref z8, .ref z9, .int z10, .ref z11, .ref z12, .ref z13, .ref z14, .ref z15, .int z16, .ref z17, .int z18, .ref z19])), (z19, .inl (ca, 25, .inr (.inl (vp_updL (fun _ => 0) (k1 : Int32).toNatClampNeg k2))))] := hD
      refine lv_aload_n hx hb dX13_sheet_28 rfl (lv_at hl 0 rfl) ?_
      refine lv_iconst (v := 1) hx hb dX13_sheet_29 (by decide) ?_
      have hPc := hP.sub (ws' := [(za, .inr (13, [.int 0, .ref z1, .int z2, .int z3, .int z4, .int z5, .ref z6, .ref z7, .ref z8, .ref z9, .int z10, .ref z11, .ref z12, .ref z13, .ref z14, .ref z15, .int z16, .ref z17, .int z18, .ref z19]))]) [0] rfl
      have hDc := hD.sub (ws' := [(za, .inr (13, [.int 0, .ref z1, .int z2, .int z3, .int z4, .int z5, .ref z6, .ref z7, .ref z8, .ref z9, .int z10, .ref z11, .ref z12, .ref z13, .ref z14, .ref z15, .int z16, .ref z17, .int z18, .ref z19]))]) [0] (by decide) rfl
      have hKc := hK.sub (tys' := []) [] rfl
      have hFc := va_free (wc := [(za, .inr (13, [.int 0, .ref z1, .int z2, .int z3, .int z4, .int z5, .ref z6, .ref z7, .ref z8, .ref z9, .int z10, .ref z11, .ref z12, .ref z13, .ref z14, .ref z15, .int z16, .ref z17, .int z18, .ref z19]))]) hD hS hA [0] rfl
      refine va_calli (va_runV (As := [.int 1]) (rest := []) ⟨hx, hb, hml, hown, hg⟩ (m_done l D H_6.size za 0 z1 z2 z3 z4 z5 z6 z7 z8 z9 z10 z11 z12 z13 z14 z15 z16 z17 z18 z19 1) (cwV 1 hg (gV wd_170 wd_171 wd_172 wd_147 wd_173) rfl rfl rfl (by decide +kernel) ⟨(Nat.le_of_ble_eq_true rfl), (Nat.le_of_ble_eq_true rfl)⟩) ⟨Pr.blind, va_recv hKc hPc (ci := 13) (q0 := 0) rfl rfl, fun U hU hW => ⟨rfl, Pr.at hPc hKc hDc hN hU hW⟩⟩ rfl rfl hl.1 rfl (lv_room (Nat.le_of_ble_eq_true rfl)) dX13_sheet_30 ⟨(Nat.le_of_ble_eq_true rfl), (Nat.le_of_ble_eq_true rfl)⟩) hS (fun q _ h => hFc q h) hFc (fun r_8 u t H_7 locs ht hvm hw hB hz1 hk1 hS => ?_)
      obtain ⟨hP1, hK1, hD1⟩ := hB
      rw [ht] at hP1
      have hK1 := va_K.moved hvm.symm hK1
      obtain ⟨hP, hD⟩ := va_join (wr := [(z19, .inl (ca, 25, .inr (.inl (vp_updL (fun _ => 0) (k1 : Int32).toNatClampNeg k2))))]) (w1 := [(za, .inr (13, [.int 0, .ref z1, .int z2, .int z3, .int 0, .int (-1), .ref z6, .ref z7, .ref z8, .ref z9, .int z10, .ref z11, .ref z12, .ref z13, .ref z14, .ref z15, .int z16, .ref z17, .int z18, .ref z19]))]) hP hD [0] [1] rfl rfl (by decide) (by decide) hk1 hFc hP1 hD1
      have hP : va_P D vwCl [(z19, .inl (ca, 25, .inr (.inl (vp_updL (fun _ => 0) (k1 : Int32).toNatClampNeg k2)))), (za, .inr (13, [.int 0, .ref z1, .int z2, .int z3, .int 0, .int (-1), .ref z6, .ref z7, .ref z8, .ref z9, .int z10, .ref z11, .ref z12, .ref z13, .ref z14, .ref z15, .int z16, .ref z17, .int z18, .ref z19]))] H_7 := hP
      have hD : va_D A [(z19, .inl (ca, 25, .inr (.inl (vp_updL (fun _ => 0) (k1 : Int32).toNatClampNeg k2)))), (za, .inr (13, [.int 0, .ref z1, .int z2, .int z3, .int 0, .int (-1), .ref z6, .ref z7, .ref z8, .ref z9, .int z10, .ref z11, .ref z12, .ref z13, .ref z14, .ref z15, .int z16, .ref z17, .int z18, .ref z19]))] := hD
      subst hw
      exact W.iret (v := 1) hx hb hr (fun t ht hW => ⟨⟨1, (), rfl, by simp [ansSheet, c_2, c_5], trivial⟩, hS.F ht⟩) hS.2.2 dX13_sheet_33
    · refine lv_aload_n hx hb dX13_sheet_15 rfl (lv_at hl 0 rfl) ?_
      refine lv_iconst (v := 2) hx hb dX13_sheet_16 (by decide) ?_
      have hPc := hP.sub (ws' := [(za, .inr (13, [.int 0, .ref z1, .int z2, .int z3, .int z4, .int z5, .ref z6, .ref z7, .ref z8, .ref z9, .int z10, .ref z11, .ref z12, .ref z13, .ref z14, .ref z15, .int z16, .ref z17, .int z18, .ref z19]))]) [0] rfl
      have hDc := hD.sub (ws' := [(za, .inr (13, [.int 0, .ref z1, .int z2, .int z3, .int z4, .int z5, .ref z6, .ref z7, .ref z8, .ref z9, .int z10, .ref z11, .ref z12, .ref z13, .ref z14, .ref z15, .int z16, .ref z17, .int z18, .ref z19]))]) [0] (by decide) rfl
      have hKc := hK.sub (tys' := []) [] rfl
      have hFc := va_free (wc := [(za, .inr (13, [.int 0, .ref z1, .int z2, .int z3, .int z4, .int z5, .ref z6, .ref z7, .ref z8, .ref z9, .int z10, .ref z11, .ref z12, .ref z13, .ref z14, .ref z15, .int z16, .ref z17, .int z18, .ref z19]))]) hD hS hA [0] rfl
      refine va_calli (va_runV (As := [.int 2]) (rest := []) ⟨hx, hb, hml, hown, hg⟩ (m_refused l D H_1.size za 0 z1 z2 z3 z4 z5 z6 z7 z8 z9 z10 z11 z12 z13 z14 z15 z16 z17 z18 z19 2) (cwV 1 hg (gV wd_150 wd_151 wd_152 wd_147 wd_153) rfl rfl rfl (by decide +kernel) ⟨(Nat.le_of_ble_eq_true rfl), (Nat.le_of_ble_eq_true rfl)⟩) ⟨Pr.blind, va_recv hKc hPc (ci := 13) (q0 := 0) rfl rfl, fun U hU hW => ⟨rfl, Pr.at hPc hKc hDc hN hU hW⟩⟩ rfl rfl hl.1 rfl (lv_room (Nat.le_of_ble_eq_true rfl)) dX13_sheet_17 ⟨(Nat.le_of_ble_eq_true rfl), (Nat.le_of_ble_eq_true rfl)⟩) hS (fun q _ h => hFc q h) hFc (fun r_10 u t H_9 locs ht hvm hw hB hz1 hk1 hS => ?_)
      obtain ⟨hP1, hK1, hD1⟩ := hB
      rw [ht] at hP1
      have hK1 := va_K.moved hvm.symm hK1
      obtain ⟨hP, hD⟩ := va_join (wr := [(z19, .inl (ca, 25, .inr (.inl (fun _ => 0))))]) (w1 := [(za, .inr (13, [.int 0, .ref z1, .int z2, .int z3, .int 2, .int (-1), .ref z6, .ref z7, .ref z8, .ref z9, .int z10, .ref z11, .ref z12, .ref z13, .ref z14, .ref z15, .int z16, .ref z17, .int z18, .ref z19]))]) hP hD [0] [1] rfl rfl (by decide) (by decide) hk1 hFc hP1 hD1
      have hP : va_P D vwCl [(z19, .inl (ca, 25, .inr (.inl (fun _ => 0)))), (za, .inr (13, [.int 0, .ref z1, .int z2, .int z3, .int 2, .int (-1), .ref z6, .ref z7, .ref z8, .ref z9, .int z10, .ref z11, .ref z12, .ref z13, .ref z14, .ref z15, .int z16, .ref z17, .int z18, .ref z19]))] H_9 := hP
      have hD : va_D A [(z19, .inl (ca, 25, .inr (.inl (fun _ => 0)))), (za, .inr (13, [.int 0, .ref z1, .int z2, .int z3, .int 2, .int (-1), .ref z6, .ref z7, .ref z8, .ref z9, .int z10, .ref z11, .ref z12, .ref z13, .ref z14, .ref z15, .int z16, .ref z17, .int z18, .ref z19]))] := hD
      subst hw
      exact W.iret (v := (-1)) hx hb hr (fun t ht hW => ⟨⟨(-1), (), rfl, by simp [ansSheet, c_2, c_5], trivial⟩, hS.F ht⟩) hS.2.2 dX13_sheet_20
set_option maxHeartbeats 4000000 in
set_option maxRecDepth 100000 in
theorem m_partner (l : Launch) (D : va_G) (sz : Nat) (za : Nat) (z0 : Int32) (z1 : Nat) (z4 : Int32) (z5 : Int32) (z6 : Nat) (z7 : Nat) (z8 : Nat) (z9 : Nat) (z10 : Int32) (z11 : Nat) (z12 : Nat) (z13 : Nat) (z14 : Nat) (z15 : Nat) (z16 : Int32) (z17 : Nat) (z18 : Int32) (z19 : Nat) (k1 : Int32) (k2 : Int32) (ca : ClassId) (cb : ClassId) : Met l yX13_partner (wsM yX13_partner cX13_partner 4 (some .int)) ({ frames := 1, cells := 0, slots := 0, locals := 21 }) (va_Pc [.ref za, .int k1, .int k2] (Pr D [(za, .inr (13, [.int z0, .ref z1, .int 0, .int 0, .int z4, .int z5, .ref z6, .ref z7, .ref z8, .ref z9, .int z10, .ref z11, .ref z12, .ref z13, .ref z14, .ref z15, .int z16, .ref z17, .int z18, .ref z19])), (z6, .inl (ca, 40, .inl (fun _ => 0))), (z7, .inl (cb, 40, .inl (fun _ => 0)))] [(ca, .int), (cb, .int)] sz)) (va_Qi (fun (r : Int32) (_ : Unit) => r = ansPartner k1 k2) (fun _ _ => True) (va_A [(za, .inr (13, [.int z0, .ref z1, .int 0, .int 0, .int z4, .int z5, .ref z6, .ref z7, .ref z8, .ref z9, .int z10, .ref z11, .ref z12, .ref z13, .ref z14, .ref z15, .int z16, .ref z17, .int z18, .ref z19])), (z6, .inl (ca, 40, .inl (fun _ => 0))), (z7, .inl (cb, 40, .inl (fun _ => 0)))] sz)) 0 0 (va_A [(za, .inr (13, [.int z0, .ref z1, .int 0, .int 0, .int z4, .int z5, .ref z6, .ref z7, .ref z8, .ref z9, .int z10, .ref z11, .ref z12, .ref z13, .ref z14, .ref z15, .int z16, .ref z17, .int z18, .ref z19])), (z6, .inl (ca, 40, .inl (fun _ => 0))), (z7, .inl (cb, 40, .inl (fun _ => 0)))] sz) := by
  refine Met.ofW (cc := cX13_partner) (maxL := 4) (ret := (some .int)) (by decide) rfl ?_
  intro p e s m args below meth c s₁ B hml hv
  obtain ⟨rfl, hsz, hP, hK, hD0, hN⟩ := hv
  have hx := B.exec
  have hb := B.bytes
  have hr := B.returns
  have hts := atoms_spec (ws := (wsM yX13_partner cX13_partner 4 (some .int))) B.pre
  have hg : ∀ w ∈ lw_good, w.before _ s = true := fun w h => hts w (List.mem_cons_of_mem _ h)
  have hown : s.vm.findClass RX13 = some m.cls := findClass_of_methodNamed B.named
  have hlocks := B.notSynchronized
  subst hsz
  have hD := hD0.self (sz := s.heap.size)
  generalize hAe : va_A [(za, .inr (13, [.int z0, .ref z1, .int 0, .int 0, .int z4, .int z5, .ref z6, .ref z7, .ref z8, .ref z9, .int z10, .ref z11, .ref z12, .ref z13, .ref z14, .ref z15, .int z16, .ref z17, .int z18, .ref z19])), (z6, .inl (ca, 40, .inl (fun _ => 0))), (z7, .inl (cb, 40, .inl (fun _ => 0)))] s.heap.size = A at hD ⊢
  have hA : ∀ q : Nat, s.heap.size ≤ q → A q := fun q h => by rw [← hAe]; exact Or.inr h
  have hS : va_S A s.heap s.heap [] := va_S.rf
  have hP : va_P D vwCl [(za, .inr (13, [.int z0, .ref z1, .int 0, .int 0, .int z4, .int z5, .ref z6, .ref z7, .ref z8, .ref z9, .int z10, .ref z11, .ref z12, .ref z13, .ref z14, .ref z15, .int z16, .ref z17, .int z18, .ref z19])), (z6, .inl (ca, 40, .inl (fun _ => 0))), (z7, .inl (cb, 40, .inl (fun _ => 0)))] s.heap := hP
  have hl := lv_entry ([.ref za, .int k1, .int k2]) (n := 4) (Nat.le_of_ble_eq_true rfl)
  rw [lg_entry_eq]
  generalize (lg_sl ([.ref za, .int k1, .int k2]) ++ List.replicate (4 - (lg_sl ([.ref za, .int k1, .int k2])).length) Slot.unset).toArray = ls at hl ⊢
  have hl : lv_has ls 4 [(0, .ref za), (1, .int k1), (2, .int k2)] := hl
  refine lv_aload_n hx hb dX13_partner_0 rfl (lv_at hl 0 rfl) ?_
  refine lv_iconst (v := 0) hx hb dX13_partner_1 (by decide) ?_
  refine va_put (D := D) (ci := 13) (v := .int 0) (ty := .int) (C := RX13) (T := TX13) (N := 20) hx hb hg inG13 tyX13 tyX13_ok nmX13 hown hK hP hD hS 0 rfl rfl 0 (by decide) (hg _ wd_149) (fun _ h9 => h9) rfl (by decide +kernel) rfl rfl (Nat.le_of_ble_eq_true rfl) dX13_partner_2 (fun H_1 locs hP hD hS => ?_)
  have hP : va_P D vwCl [(za, .inr (13, [.int 0, .ref z1, .int 0, .int 0, .int z4, .int z5, .ref z6, .ref z7, .ref z8, .ref z9, .int z10, .ref z11, .ref z12, .ref z13, .ref z14, .ref z15, .int z16, .ref z17, .int z18, .ref z19])), (z6, .inl (ca, 40, .inl (fun _ => 0))), (z7, .inl (cb, 40, .inl (fun _ => 0)))] H_1 := hP
  have hD : va_D A [(za, .inr (13, [.int 0, .ref z1, .int 0, .int 0, .int z4, .int z5, .ref z6, .ref z7, .ref z8, .ref z9, .int z10, .ref z11, .ref z12, .ref z13, .ref z14, .ref z15, .int z16, .ref z17, .int z18, .ref z19])), (z6, .inl (ca, 40, .inl (fun _ => 0))), (z7, .inl (cb, 40, .inl (fun _ => 0)))] := hD
  refine lv_iload_n hx hb dX13_partner_5 rfl (lv_at hl 1 rfl) ?_
  refine lv_iconst (v := 1) hx hb dX13_partner_6 (by decide) ?_
  refine lv_icmp_eq (tgt := 20) hx hb dX13_partner_7 (by decide) (fun c_2 => ?_) (fun c_2 => ?_)
  · refine lv_iconst (v := 1) hx hb dX13_partner_20 (by decide) ?_
    refine lv_goto (tgt := 25) hx hb dX13_partner_21 (by decide) ?_
    refine lv_istore_n (lv' := [(3, .int 1), (0, .ref za), (1, .int k1), (2, .int k2)]) hx hb dX13_partner_25 rfl hl (by decide) rfl (fun ls hl => ?_)
    refine lv_iload_n hx hb dX13_partner_26 rfl (lv_at hl 2 rfl) ?_
    refine lv_if_lt (tgt := 49) hx hb dX13_partner_27 (by decide) (fun c_3 => absurd c_3 (by rw [c_2]; decide)) (fun c_3 => ?_)
    refine lv_iload_n hx hb dX13_partner_30 rfl (lv_at hl 2 rfl) ?_
    refine lv_iconst (v := 5) hx hb dX13_partner_31 (by decide) ?_
    refine lv_icmp_gt (tgt := 49) hx hb dX13_partner_32 (by decide) (fun c_4 => absurd c_4 (by rw [c_2]; decide)) (fun c_4 => ?_)
    refine lv_iload_n hx hb dX13_partner_35 rfl (lv_at hl 0 rfl) ?_
    refine lv_if_eq (tgt := 55) hx hb dX13_partner_36 (by decide) (fun c_5 => absurd c_5 (by decide)) (fun _ => ?_)
    refine lv_iload_n hx hb dX13_partner_39 rfl (lv_at hl 3 rfl) ?_
    refine lv_if_lt (tgt := 49) hx hb dX13_partner_40 (by decide) (fun c_6 => ?_) (fun c_6 => ?_)
    · refine lv_aload_n hx hb dX13_partner_49 rfl (lv_at hl 1 rfl) ?_
      refine lv_iconst (v := 2) hx hb dX13_partner_50 (by decide) ?_
      have hPc := hP.sub (ws' := [(za, .inr (13, [.int 0, .ref z1, .int 0, .int 0, .int z4, .int z5, .ref z6, .ref z7, .ref z8, .ref z9, .int z10, .ref z11, .ref z12, .ref z13, .ref z14, .ref z15, .int z16, .ref z17, .int z18, .ref z19]))]) [0] rfl
      have hDc := hD.sub (ws' := [(za, .inr (13, [.int 0, .ref z1, .int 0, .int 0, .int z4, .int z5, .ref z6, .ref z7, .ref z8, .ref z9, .int z10, .ref z11, .ref z12, .ref z13, .ref z14, .ref z15, .int z16, .ref z17, .int z18, .ref z19]))]) [0] (by decide) rfl
      have hKc := hK.sub (tys' := []) [] rfl
      have hFc := va_free (wc := [(za, .inr (13, [.int 0, .ref z1, .int 0, .int 0, .int z4, .int z5, .ref z6, .ref z7, .ref z8, .ref z9, .int z10, .ref z11, .ref z12, .ref z13, .ref z14, .ref z15, .int z16, .ref z17, .int z18, .ref z19]))]) hD hS hA [0] rfl
      refine va_calli (va_runV (As := [.int 2]) (rest := []) ⟨hx, hb, hml, hown, hg⟩ (m_refused l D H_1.size za 0 z1 0 0 z4 z5 z6 z7 z8 z9 z10 z11 z12 z13 z14 z15 z16 z17 z18 z19 2) (cwV 1 hg (gV wd_150 wd_151 wd_152 wd_147 wd_153) rfl rfl rfl (by decide +kernel) ⟨(Nat.le_of_ble_eq_true rfl), (Nat.le_of_ble_eq_true rfl)⟩) ⟨Pr.blind, va_recv hKc hPc (ci := 13) (q0 := 0) rfl rfl, fun U hU hW => ⟨rfl, Pr.at hPc hKc hDc hN hU hW⟩⟩ rfl rfl hl.1 rfl (lv_room (Nat.le_of_ble_eq_true rfl)) dX13_partner_51 ⟨(Nat.le_of_ble_eq_true rfl), (Nat.le_of_ble_eq_true rfl)⟩) hS (fun q _ h => hFc q h) hFc (fun r_8 u t H_7 locs ht hvm hw hB hz1 hk1 hS => ?_)
      obtain ⟨hP1, hK1, hD1⟩ := hB
      rw [ht] at hP1
      have hK1 := va_K.moved hvm.symm hK1
      obtain ⟨hP, hD⟩ := va_join (wr := [(z6, .inl (ca, 40, .inl (fun _ => 0))), (z7, .inl (cb, 40, .inl (fun _ => 0)))]) (w1 := [(za, .inr (13, [.int 0, .ref z1, .int 0, .int 0, .int 2, .int (-1), .ref z6, .ref z7, .ref z8, .ref z9, .int z10, .ref z11, .ref z12, .ref z13, .ref z14, .ref z15, .int z16, .ref z17, .int z18, .ref z19]))]) hP hD [0] [1, 2] rfl rfl (by decide) (by decide) hk1 hFc hP1 hD1
      have hP : va_P D vwCl [(z6, .inl (ca, 40, .inl (fun _ => 0))), (z7, .inl (cb, 40, .inl (fun _ => 0))), (za, .inr (13, [.int 0, .ref z1, .int 0, .int 0, .int 2, .int (-1), .ref z6, .ref z7, .ref z8, .ref z9, .int z10, .ref z11, .ref z12, .ref z13, .ref z14, .ref z15, .int z16, .ref z17, .int z18, .ref z19]))] H_7 := hP
      have hD : va_D A [(z6, .inl (ca, 40, .inl (fun _ => 0))), (z7, .inl (cb, 40, .inl (fun _ => 0))), (za, .inr (13, [.int 0, .ref z1, .int 0, .int 0, .int 2, .int (-1), .ref z6, .ref z7, .ref z8, .ref z9, .int z10, .ref z11, .ref z12, .ref z13, .ref z14, .ref z15, .int z16, .ref z17, .int z18, .ref z19]))] := hD
      subst hw
      exact W.iret (v := (-1)) hx hb hr (fun t ht hW => ⟨⟨(-1), (), rfl, by simp [ansPartner, limK, c_2, c_3, c_4, c_6], trivial⟩, hS.F ht⟩) hS.2.2 dX13_partner_54
    · refine lv_iload_n hx hb dX13_partner_43 rfl (lv_at hl 3 rfl) ?_
      refine lv_ldc (v := 1000000000) hx hb hown (hg _ wd_174) dX13_partner_44 ?_
      refine lv_icmp_le (tgt := 55) hx hb dX13_partner_46 (by decide) (fun c_9 => ?_) (fun c_9 => ?_)
      · refine lv_iload_n hx hb dX13_partner_55 rfl (lv_at hl 2 rfl) ?_
        refine lv_iconst (v := 5) hx hb dX13_partner_56 (by decide) ?_
        refine lv_icmp_ne (tgt := 74) hx hb dX13_partner_57 (by decide) (fun c_10 => ?_) (fun c_10 => absurd c_10 (by rw [c_2]; decide))
        refine lv_aload_n hx hb dX13_partner_74 rfl (lv_at hl 1 rfl) ?_
        refine va_get (D := D) (ci := 13) (v := .int 0) (C := RX13) (T := TX13) (N := 20) hx hb hg inG13 hown hK hP 0 rfl rfl 3 (by decide) (hg _ wd_175) (fun _ h9 => h9) rfl dX13_partner_75 ?_
        refine lv_bipush (v := 40) hx hb dX13_partner_78 (by decide) ?_
        refine lv_icmp_ne (tgt := 90) hx hb dX13_partner_80 (by decide) (fun _ => ?_) (fun c_11 => absurd c_11 (by decide))
        refine lv_aload_n hx hb dX13_partner_90 rfl (lv_at hl 1 rfl) ?_
        refine va_get (D := D) (ci := 13) (v := .ref z6) (C := RX13) (T := TX13) (N := 20) hx hb hg inG13 hown hK hP 0 rfl rfl 6 (by decide) (hg _ wd_176) (fun _ h9 => h9) rfl dX13_partner_91 ?_
        refine lv_aload_n hx hb dX13_partner_94 rfl (lv_at hl 1 rfl) ?_
        refine va_get (D := D) (ci := 13) (v := .int 0) (C := RX13) (T := TX13) (N := 20) hx hb hg inG13 hown hK hP 0 rfl rfl 3 (by decide) (hg _ wd_175) (fun _ h9 => h9) rfl dX13_partner_95 ?_
        refine lv_iload_n hx hb dX13_partner_98 rfl (lv_at hl 2 rfl) ?_
        refine va_iast hx hb hK hP hD hS 1 0 rfl rfl (by unfold vp_in; decide) dX13_partner_99 (fun H_12 locs hP hD hS => ?_)
        have hP : va_P D vwCl [(za, .inr (13, [.int 0, .ref z1, .int 0, .int 0, .int z4, .int z5, .ref z6, .ref z7, .ref z8, .ref z9, .int z10, .ref z11, .ref z12, .ref z13, .ref z14, .ref z15, .int z16, .ref z17, .int z18, .ref z19])), (z6, .inl (ca, 40, .inl (upd (fun _ => 0) (0 : Int32).toNatClampNeg k1))), (z7, .inl (cb, 40, .inl (fun _ => 0)))] H_12 := hP
        have hD : va_D A [(za, .inr (13, [.int 0, .ref z1, .int 0, .int 0, .int z4, .int z5, .ref z6, .ref z7, .ref z8, .ref z9, .int z10, .ref z11, .ref z12, .ref z13, .ref z14, .ref z15, .int z16, .ref z17, .int z18, .ref z19])), (z6, .inl (ca, 40, .inl (upd (fun _ => 0) (0 : Int32).toNatClampNeg k1))), (z7, .inl (cb, 40, .inl (fun _ => 0)))] := hD
        refine lv_aload_n hx hb dX13_partner_100 rfl (lv_at hl 1 rfl) ?_
        refine va_get (D := D) (ci := 13) (v := .ref z7) (C := RX13) (T := TX13) (N := 20) hx hb hg inG13 hown hK hP 0 rfl rfl 7 (by decide) (hg _ wd_177) (fun _ h9 => h9) rfl dX13_partner_101 ?_
        refine lv_aload_n hx hb dX13_partner_104 rfl (lv_at hl 1 rfl) ?_
        refine va_get (D := D) (ci := 13) (v := .int 0) (C := RX13) (T := TX13) (N := 20) hx hb hg inG13 hown hK hP 0 rfl rfl 3 (by decide) (hg _ wd_175) (fun _ h9 => h9) rfl dX13_partner_105 ?_
        refine lv_iload_n hx hb dX13_partner_108 rfl (lv_at hl 3 rfl) ?_
        refine va_iast hx hb hK hP hD hS 2 1 rfl rfl (by unfold vp_in; decide) dX13_partner_109 (fun H_13 locs hP hD hS => ?_)
        have hP : va_P D vwCl [(za, .inr (13, [.int 0, .ref z1, .int 0, .int 0, .int z4, .int z5, .ref z6, .ref z7, .ref z8, .ref z9, .int z10, .ref z11, .ref z12, .ref z13, .ref z14, .ref z15, .int z16, .ref z17, .int z18, .ref z19])), (z6, .inl (ca, 40, .inl (upd (fun _ => 0) (0 : Int32).toNatClampNeg k1))), (z7, .inl (cb, 40, .inl (upd (fun _ => 0) (0 : Int32).toNatClampNeg k2)))] H_13 := hP
        have hD : va_D A [(za, .inr (13, [.int 0, .ref z1, .int 0, .int 0, .int z4, .int z5, .ref z6, .ref z7, .ref z8, .ref z9, .int z10, .ref z11, .ref z12, .ref z13, .ref z14, .ref z15, .int z16, .ref z17, .int z18, .ref z19])), (z6, .inl (ca, 40, .inl (upd (fun _ => 0) (0 : Int32).toNatClampNeg k1))), (z7, .inl (cb, 40, .inl (upd (fun _ => 0) (0 : Int32).toNatClampNeg k2)))] := hD
        refine lv_aload_n hx hb dX13_partner_110 rfl (lv_at hl 1 rfl) ?_
        refine lv_dup hx hb dX13_partner_111 rfl ?_
        refine va_get (D := D) (ci := 13) (v := .int 0) (C := RX13) (T := TX13) (N := 20) hx hb hg inG13 hown hK hP 0 rfl rfl 3 (by decide) (hg _ wd_175) (fun _ h9 => h9) rfl dX13_partner_112 ?_
        refine lv_iconst (v := 1) hx hb dX13_partner_115 (by decide) ?_
        refine lv_iadd hx hb dX13_partner_116 ?_
        refine lv_topi (fun f_14 ef_14 => ?_)
        obtain rfl : f_14 = 1 := by rw [ef_14]; decide
        refine va_put (D := D) (ci := 13) (v := .int 1) (ty := .int) (C := RX13) (T := TX13) (N := 20) hx hb hg inG13 tyX13 tyX13_ok nmX13 hown hK hP hD hS 0 rfl rfl 3 (by decide) (hg _ wd_175) (fun _ h9 => h9) rfl (by decide +kernel) rfl rfl (Nat.le_of_ble_eq_true rfl) dX13_partner_117 (fun H_15 locs hP hD hS => ?_)
        have hP : va_P D vwCl [(za, .inr (13, [.int 0, .ref z1, .int 0, .int 1, .int z4, .int z5, .ref z6, .ref z7, .ref z8, .ref z9, .int z10, .ref z11, .ref z12, .ref z13, .ref z14, .ref z15, .int z16, .ref z17, .int z18, .ref z19])), (z6, .inl (ca, 40, .inl (upd (fun _ => 0) (0 : Int32).toNatClampNeg k1))), (z7, .inl (cb, 40, .inl (upd (fun _ => 0) (0 : Int32).toNatClampNeg k2)))] H_15 := hP
        have hD : va_D A [(za, .inr (13, [.int 0, .ref z1, .int 0, .int 1, .int z4, .int z5, .ref z6, .ref z7, .ref z8, .ref z9, .int z10, .ref z11, .ref z12, .ref z13, .ref z14, .ref z15, .int z16, .ref z17, .int z18, .ref z19])), (z6, .inl (ca, 40, .inl (upd (fun _ => 0) (0 : Int32).toNatClampNeg k1))), (z7, .inl (cb, 40, .inl (upd (fun _ => 0) (0 : Int32).toNatClampNeg k2)))] := hD
        refine lv_aload_n hx hb dX13_partner_120 rfl (lv_at hl 1 rfl) ?_
        refine lv_aload_n hx hb dX13_partner_121 rfl (lv_at hl 1 rfl) ?_
        refine va_get (D := D) (ci := 13) (v := .int 1) (C := RX13) (T := TX13) (N := 20) hx hb hg inG13 hown hK hP 0 rfl rfl 3 (by decide) (hg _ wd_175) (fun _ h9 => h9) rfl dX13_partner_122 ?_
        refine lv_iconst (v := 1) hx hb dX13_partner_125 (by decide) ?_
        refine lv_isub hx hb dX13_partner_126 ?_
        refine lv_topi (fun f_16 ef_16 => ?_)
        obtain rfl : f_16 = 0 := by rw [ef_16]; decide
        have hPc := hP.sub (ws' := [(za, .inr (13, [.int 0, .ref z1, .int 0, .int 1, .int z4, .int z5, .ref z6, .ref z7, .ref z8, .ref z9, .int z10, .ref z11, .ref z12, .ref z13, .ref z14, .ref z15, .int z16, .ref z17, .int z18, .ref z19]))]) [0] rfl
        have hDc := hD.sub (ws' := [(za, .inr (13, [.int 0, .ref z1, .int 0, .int 1, .int z4, .int z5, .ref z6, .ref z7, .ref z8, .ref z9, .int z10, .ref z11, .ref z12, .ref z13, .ref z14, .ref z15, .int z16, .ref z17, .int z18, .ref z19]))]) [0] (by decide) rfl
        have hKc := hK.sub (tys' := []) [] rfl
        have hFc := va_free (wc := [(za, .inr (13, [.int 0, .ref z1, .int 0, .int 1, .int z4, .int z5, .ref z6, .ref z7, .ref z8, .ref z9, .int z10, .ref z11, .ref z12, .ref z13, .ref z14, .ref z15, .int z16, .ref z17, .int z18, .ref z19]))]) hD hS hA [0] rfl
        refine va_calli (va_runV (As := [.int 0]) (rest := []) ⟨hx, hb, hml, hown, hg⟩ (m_done l D H_15.size za 0 z1 0 1 z4 z5 z6 z7 z8 z9 z10 z11 z12 z13 z14 z15 z16 z17 z18 z19 0) (cwV 1 hg (gV wd_170 wd_171 wd_172 wd_147 wd_173) rfl rfl rfl (by decide +kernel) ⟨(Nat.le_of_ble_eq_true rfl), (Nat.le_of_ble_eq_true rfl)⟩) ⟨Pr.blind, va_recv hKc hPc (ci := 13) (q0 := 0) rfl rfl, fun U hU hW => ⟨rfl, Pr.at hPc hKc hDc hN hU hW⟩⟩ rfl rfl hl.1 rfl (lv_room (Nat.le_of_ble_eq_true rfl)) dX13_partner_127 ⟨(Nat.le_of_ble_eq_true rfl), (Nat.le_of_ble_eq_true rfl)⟩) hS (fun q _ h => hFc q h) hFc (fun r_18 u t H_17 locs ht hvm hw hB hz1 hk1 hS => ?_)
        obtain ⟨hP1, hK1, hD1⟩ := hB
        rw [ht] at hP1
        have hK1 := va_K.moved hvm.symm hK1
        obtain ⟨hP, hD⟩ := va_join (wr := [(z6, .inl (ca, 40, .inl (upd (fun _ => 0) (0 : Int32).toNatClampNeg k1))), (z7, .inl (cb, 40, .inl (upd (fun _ => 0) (0 : Int32).toNatClampNeg k2)))]) (w1 := [(za, .inr (13, [.int 0, .ref z1, .int 0, .int 1, .int 0, .int (-1), .ref z6, .ref z7, .ref z8, .ref z9, .int z10, .ref z11, .ref z12, .ref z13, .ref z14, .ref z15, .int z16, .ref z17, .int z18, .ref z19]))]) hP hD [0] [1, 2] rfl rfl (by decide) (by decide) hk1 hFc hP1 hD1
        have hP : va_P D vwCl [(z6, .inl (ca, 40, .inl (upd (fun _ => 0) (0 : Int32).toNatClampNeg k1))), (z7, .inl (cb, 40, .inl (upd (fun _ => 0) (0 : Int32).toNatClampNeg k2))), (za, .inr (13, [.int 0, .ref z1, .int 0, .int 1, .int 0, .int (-1), .ref z6, .ref z7, .ref z8, .ref z9, .int z10, .ref z11, .ref z12, .ref z13, .ref z14, .ref z15, .int z16, .ref z17, .int z18, .ref z19]))] H_17 := hP
        have hD : va_D A [(z6, .inl (ca, 40, .inl (upd (fun _ => 0) (0 : Int32).toNatClampNeg k1))), (z7, .inl (cb, 40, .inl (upd (fun _ => 0) (0 : Int32).toNatClampNeg k2))), (za, .inr (13, [.int 0, .ref z1, .int 0, .int 1, .int 0, .int (-1), .ref z6, .ref z7, .ref z8, .ref z9, .int z10, .ref z11, .ref z12, .ref z13, .ref z14, .ref z15, .int z16, .ref z17, .int z18, .ref z19]))] := hD
        subst hw
        exact W.iret (v := 0) hx hb hr (fun t ht hW => ⟨⟨0, (), rfl, by simp [ansPartner, limK, c_2, c_3, c_4, c_6, c_9, c_10], trivial⟩, hS.F ht⟩) hS.2.2 dX13_partner_130
      · refine lv_aload_n hx hb dX13_partner_49 rfl (lv_at hl 1 rfl) ?_
        refine lv_iconst (v := 2) hx hb dX13_partner_50 (by decide) ?_
        have hPc := hP.sub (ws' := [(za, .inr (13, [.int 0, .ref z1, .int 0, .int 0, .int z4, .int z5, .ref z6, .ref z7, .ref z8, .ref z9, .int z10, .ref z11, .ref z12, .ref z13, .ref z14, .ref z15, .int z16, .ref z17, .int z18, .ref z19]))]) [0] rfl
        have hDc := hD.sub (ws' := [(za, .inr (13, [.int 0, .ref z1, .int 0, .int 0, .int z4, .int z5, .ref z6, .ref z7, .ref z8, .ref z9, .int z10, .ref z11, .ref z12, .ref z13, .ref z14, .ref z15, .int z16, .ref z17, .int z18, .ref z19]))]) [0] (by decide) rfl
        have hKc := hK.sub (tys' := []) [] rfl
        have hFc := va_free (wc := [(za, .inr (13, [.int 0, .ref z1, .int 0, .int 0, .int z4, .int z5, .ref z6, .ref z7, .ref z8, .ref z9, .int z10, .ref z11, .ref z12, .ref z13, .ref z14, .ref z15, .int z16, .ref z17, .int z18, .ref z19]))]) hD hS hA [0] rfl
        refine va_calli (va_runV (As := [.int 2]) (rest := []) ⟨hx, hb, hml, hown, hg⟩ (m_refused l D H_1.size za 0 z1 0 0 z4 z5 z6 z7 z8 z9 z10 z11 z12 z13 z14 z15 z16 z17 z18 z19 2) (cwV 1 hg (gV wd_150 wd_151 wd_152 wd_147 wd_153) rfl rfl rfl (by decide +kernel) ⟨(Nat.le_of_ble_eq_true rfl), (Nat.le_of_ble_eq_true rfl)⟩) ⟨Pr.blind, va_recv hKc hPc (ci := 13) (q0 := 0) rfl rfl, fun U hU hW => ⟨rfl, Pr.at hPc hKc hDc hN hU hW⟩⟩ rfl rfl hl.1 rfl (lv_room (Nat.le_of_ble_eq_true rfl)) dX13_partner_51 ⟨(Nat.le_of_ble_eq_true rfl), (Nat.le_of_ble_eq_true rfl)⟩) hS (fun q _ h => hFc q h) hFc (fun r_20 u t H_19 locs ht hvm hw hB hz1 hk1 hS => ?_)
        obtain ⟨hP1, hK1, hD1⟩ := hB
        rw [ht] at hP1
        have hK1 := va_K.moved hvm.symm hK1
        obtain ⟨hP, hD⟩ := va_join (wr := [(z6, .inl (ca, 40, .inl (fun _ => 0))), (z7, .inl (cb, 40, .inl (fun _ => 0)))]) (w1 := [(za, .inr (13, [.int 0, .ref z1, .int 0, .int 0, .int 2, .int (-1), .ref z6, .ref z7, .ref z8, .ref z9, .int z10, .ref z11, .ref z12, .ref z13, .ref z14, .ref z15, .int z16, .ref z17, .int z18, .ref z19]))]) hP hD [0] [1, 2] rfl rfl (by decide) (by decide) hk1 hFc hP1 hD1
        have hP : va_P D vwCl [(z6, .inl (ca, 40, .inl (fun _ => 0))), (z7, .inl (cb, 40, .inl (fun _ => 0))), (za, .inr (13, [.int 0, .ref z1, .int 0, .int 0, .int 2, .int (-1), .ref z6, .ref z7, .ref z8, .ref z9, .int z10, .ref z11, .ref z12, .ref z13, .ref z14, .ref z15, .int z16, .ref z17, .int z18, .ref z19]))] H_19 := hP
        have hD : va_D A [(z6, .inl (ca, 40, .inl (fun _ => 0))), (z7, .inl (cb, 40, .inl (fun _ => 0))), (za, .inr (13, [.int 0, .ref z1, .int 0, .int 0, .int 2, .int (-1), .ref z6, .ref z7, .ref z8, .ref z9, .int z10, .ref z11, .ref z12, .ref z13, .ref z14, .ref z15, .int z16, .ref z17, .int z18, .ref z19]))] := hD
        subst hw
        exact W.iret (v := (-1)) hx hb hr (fun t ht hW => ⟨⟨(-1), (), rfl, by simp [ansPartner, limK, c_2, c_3, c_4, c_6, c_9], trivial⟩, hS.F ht⟩) hS.2.2 dX13_partner_54
  · refine lv_iload_n hx hb dX13_partner_10 rfl (lv_at hl 1 rfl) ?_
    refine lv_iconst (v := 2) hx hb dX13_partner_11 (by decide) ?_
    refine lv_icmp_eq (tgt := 20) hx hb dX13_partner_12 (by decide) (fun c_21 => ?_) (fun c_21 => ?_)
    · refine lv_iconst (v := 1) hx hb dX13_partner_20 (by decide) ?_
      refine lv_goto (tgt := 25) hx hb dX13_partner_21 (by decide) ?_
      refine lv_istore_n (lv' := [(3, .int 1), (0, .ref za), (1, .int k1), (2, .int k2)]) hx hb dX13_partner_25 rfl hl (by decide) rfl (fun ls hl => ?_)
      refine lv_iload_n hx hb dX13_partner_26 rfl (lv_at hl 2 rfl) ?_
      refine lv_if_lt (tgt := 49) hx hb dX13_partner_27 (by decide) (fun c_22 => absurd c_22 (by rw [c_21]; decide)) (fun c_22 => ?_)
      refine lv_iload_n hx hb dX13_partner_30 rfl (lv_at hl 2 rfl) ?_
      refine lv_iconst (v := 5) hx hb dX13_partner_31 (by decide) ?_
      refine lv_icmp_gt (tgt := 49) hx hb dX13_partner_32 (by decide) (fun c_23 => absurd c_23 (by rw [c_21]; decide)) (fun c_23 => ?_)
      refine lv_iload_n hx hb dX13_partner_35 rfl (lv_at hl 0 rfl) ?_
      refine lv_if_eq (tgt := 55) hx hb dX13_partner_36 (by decide) (fun c_24 => absurd c_24 (by decide)) (fun _ => ?_)
      refine lv_iload_n hx hb dX13_partner_39 rfl (lv_at hl 3 rfl) ?_
      refine lv_if_lt (tgt := 49) hx hb dX13_partner_40 (by decide) (fun c_25 => ?_) (fun c_25 => ?_)
      · refine lv_aload_n hx hb dX13_partner_49 rfl (lv_at hl 1 rfl) ?_
        refine lv_iconst (v := 2) hx hb dX13_partner_50 (by decide) ?_
        have hPc := hP.sub (ws' := [(za, .inr (13, [.int 0, .ref z1, .int 0, .int 0, .int z4, .int z5, .ref z6, .ref z7, .ref z8, .ref z9, .int z10, .ref z11, .ref z12, .ref z13, .ref z14, .ref z15, .int z16, .ref z17, .int z18, .ref z19]))]) [0] rfl
        have hDc := hD.sub (ws' := [(za, .inr (13, [.int 0, .ref z1, .int 0, .int 0, .int z4, .int z5, .ref z6, .ref z7, .ref z8, .ref z9, .int z10, .ref z11, .ref z12, .ref z13, .ref z14, .ref z15, .int z16, .ref z17, .int z18, .ref z19]))]) [0] (by decide) rfl
        have hKc := hK.sub (tys' := []) [] rfl
        have hFc := va_free (wc := [(za, .inr (13, [.int 0, .ref z1, .int 0, .int 0, .int z4, .int z5, .ref z6, .ref z7, .ref z8, .ref z9, .int z10, .ref z11, .ref z12, .ref z13, .ref z14, .ref z15, .int z16, .ref z17, .int z18, .ref z19]))]) hD hS hA [0] rfl
        refine va_calli (va_runV (As := [.int 2]) (rest := []) ⟨hx, hb, hml, hown, hg⟩ (m_refused l D H_1.size za 0 z1 0 0 z4 z5 z6 z7 z8 z9 z10 z11 z12 z13 z14 z15 z16 z17 z18 z19 2) (cwV 1 hg (gV wd_150 wd_151 wd_152 wd_147 wd_153) rfl rfl rfl (by decide +kernel) ⟨(Nat.le_of_ble_eq_true rfl), (Nat.le_of_ble_eq_true rfl)⟩) ⟨Pr.blind, va_recv hKc hPc (ci := 13) (q0 := 0) rfl rfl, fun U hU hW => ⟨rfl, Pr.at hPc hKc hDc hN hU hW⟩⟩ rfl rfl hl.1 rfl (lv_room (Nat.le_of_ble_eq_true rfl)) dX13_partner_51 ⟨(Nat.le_of_ble_eq_true rfl), (Nat.le_of_ble_eq_true rfl)⟩) hS (fun q _ h => hFc q h) hFc (fun r_27 u t H_26 locs ht hvm hw hB hz1 hk1 hS => ?_)
        obtain ⟨hP1, hK1, hD1⟩ := hB
        rw [ht] at hP1
        have hK1 := va_K.moved hvm.symm hK1
        obtain ⟨hP, hD⟩ := va_join (wr := [(z6, .inl (ca, 40, .inl (fun _ => 0))), (z7, .inl (cb, 40, .inl (fun _ => 0)))]) (w1 := [(za, .inr (13, [.int 0, .ref z1, .int 0, .int 0, .int 2, .int (-1), .ref z6, .ref z7, .ref z8, .ref z9, .int z10, .ref z11, .ref z12, .ref z13, .ref z14, .ref z15, .int z16, .ref z17, .int z18, .ref z19]))]) hP hD [0] [1, 2] rfl rfl (by decide) (by decide) hk1 hFc hP1 hD1
        have hP : va_P D vwCl [(z6, .inl (ca, 40, .inl (fun _ => 0))), (z7, .inl (cb, 40, .inl (fun _ => 0))), (za, .inr (13, [.int 0, .ref z1, .int 0, .int 0, .int 2, .int (-1), .ref z6, .ref z7, .ref z8, .ref z9, .int z10, .ref z11, .ref z12, .ref z13, .ref z14, .ref z15, .int z16, .ref z17, .int z18, .ref z19]))] H_26 := hP
        have hD : va_D A [(z6, .inl (ca, 40, .inl (fun _ => 0))), (z7, .inl (cb, 40, .inl (fun _ => 0))), (za, .inr (13, [.int 0, .ref z1, .int 0, .int 0, .int 2, .int (-1), .ref z6, .ref z7, .ref z8, .ref z9, .int z10, .ref z11, .ref z12, .ref z13, .ref z14, .ref z15, .int z16, .ref z17, .int z18, .ref z19]))] := hD
        subst hw
        exact W.iret (v := (-1)) hx hb hr (fun t ht hW => ⟨⟨(-1), (), rfl, by simp [ansPartner, limK, c_2, c_21, c_22, c_23, c_25], trivial⟩, hS.F ht⟩) hS.2.2 dX13_partner_54
      · refine lv_iload_n hx hb dX13_partner_43 rfl (lv_at hl 3 rfl) ?_
        refine lv_ldc (v := 1000000000) hx hb hown (hg _ wd_174) dX13_partner_44 ?_
        refine lv_icmp_le (tgt := 55) hx hb dX13_partner_46 (by decide) (fun c_28 => ?_) (fun c_28 => ?_)
        · refine lv_iload_n hx hb dX13_partner_55 rfl (lv_at hl 2 rfl) ?_
          refine lv_iconst (v := 5) hx hb dX13_partner_56 (by decide) ?_
          refine lv_icmp_ne (tgt := 74) hx hb dX13_partner_57 (by decide) (fun c_29 => ?_) (fun c_29 => absurd c_29 (by rw [c_21]; decide))
          refine lv_aload_n hx hb dX13_partner_74 rfl (lv_at hl 1 rfl) ?_
          refine va_get (D := D) (ci := 13) (v := .int 0) (C := RX13) (T := TX13) (N := 20) hx hb hg inG13 hown hK hP 0 rfl rfl 3 (by decide) (hg _ wd_175) (fun _ h9 => h9) rfl dX13_partner_75 ?_
          refine lv_bipush (v := 40) hx hb dX13_partner_78 (by decide) ?_
          refine lv_icmp_ne (tgt := 90) hx hb dX13_partner_80 (by decide) (fun _ => ?_) (fun c_30 => absurd c_30 (by decide))
          refine lv_aload_n hx hb dX13_partner_90 rfl (lv_at hl 1 rfl) ?_
          refine va_get (D := D) (ci := 13) (v := .ref z6) (C := RX13) (T := TX13) (N := 20) hx hb hg inG13 hown hK hP 0 rfl rfl 6 (by decide) (hg _ wd_176) (fun _ h9 => h9) rfl dX13_partner_91 ?_
          refine lv_aload_n hx hb dX13_partner_94 rfl (lv_at hl 1 rfl) ?_
          refine va_get (D := D) (ci := 13) (v := .int 0) (C := RX13) (T := TX13) (N := 20) hx hb hg inG13 hown hK hP 0 rfl rfl 3 (by decide) (hg _ wd_175) (fun _ h9 => h9) rfl dX13_partner_95 ?_
          refine lv_iload_n hx hb dX13_partner_98 rfl (lv_at hl 2 rfl) ?_
          refine va_iast hx hb hK hP hD hS 1 0 rfl rfl (by unfold vp_in; decide) dX13_partner_99 (fun H_31 locs hP hD hS => ?_)
          have hP : va_P D vwCl [(za, .inr (13, [.int 0, .ref z1, .int 0, .int 0, .int z4, .int z5, .ref z6, .ref z7, .ref z8, .ref z9, .int z10, .ref z11, .ref z12, .ref z13, .ref z14, .ref z15, .int z16, .ref z17, .int z18, .ref z19])), (z6, .inl (ca, 40, .inl (upd (fun _ => 0) (0 : Int32).toNatClampNeg k1))), (z7, .inl (cb, 40, .inl (fun _ => 0)))] H_31 := hP
          have hD : va_D A [(za, .inr (13, [.int 0, .ref z1, .int 0, .int 0, .int z4, .int z5, .ref z6, .ref z7, .ref z8, .ref z9, .int z10, .ref z11, .ref z12, .ref z13, .ref z14, .ref z15, .int z16, .ref z17, .int z18, .ref z19])), (z6, .inl (ca, 40, .inl (upd (fun _ => 0) (0 : Int32).toNatClampNeg k1))), (z7, .inl (cb, 40, .inl (fun _ => 0)))] := hD
          refine lv_aload_n hx hb dX13_partner_100 rfl (lv_at hl 1 rfl) ?_
          refine va_get (D := D) (ci := 13) (v := .ref z7) (C := RX13) (T := TX13) (N := 20) hx hb hg inG13 hown hK hP 0 rfl rfl 7 (by decide) (hg _ wd_177) (fun _ h9 => h9) rfl dX13_partner_101 ?_
          refine lv_aload_n hx hb dX13_partner_104 rfl (lv_at hl 1 rfl) ?_
          refine va_get (D := D) (ci := 13) (v := .int 0) (C := RX13) (T := TX13) (N := 20) hx hb hg inG13 hown hK hP 0 rfl rfl 3 (by decide) (hg _ wd_175) (fun _ h9 => h9) rfl dX13_partner_105 ?_
          refine lv_iload_n hx hb dX13_partner_108 rfl (lv_at hl 3 rfl) ?_
          refine va_iast hx hb hK hP hD hS 2 1 rfl rfl (by unfold vp_in; decide) dX13_partner_109 (fun H_32 locs hP hD hS => ?_)
          have hP : va_P D vwCl [(za, .inr (13, [.int 0, .ref z1, .int 0, .int 0, .int z4, .int z5, .ref z6, .ref z7, .ref z8, .ref z9, .int z10, .ref z11, .ref z12, .ref z13, .ref z14, .ref z15, .int z16, .ref z17, .int z18, .ref z19])), (z6, .inl (ca, 40, .inl (upd (fun _ => 0) (0 : Int32).toNatClampNeg k1))), (z7, .inl (cb, 40, .inl (upd (fun _ => 0) (0 : Int32).toNatClampNeg k2)))] H_32 := hP
          have hD : va_D A [(za, .inr (13, [.int 0, .ref z1, .int 0, .int 0, .int z4, .int z5, .ref z6, .ref z7, .ref z8, .ref z9, .int z10, .ref z11, .ref z12, .ref z13, .ref z14, .ref z15, .int z16, .ref z17, .int z18, .ref z19])), (z6, .inl (ca, 40, .inl (upd (fun _ => 0) (0 : Int32).toNatClampNeg k1))), (z7, .inl (cb, 40, .inl (upd (fun _ => 0) (0 : Int32).toNatClampNeg k2)))] := hD
          refine lv_aload_n hx hb dX13_partner_110 rfl (lv_at hl 1 rfl) ?_
          refine lv_dup hx hb dX13_partner_111 rfl ?_
          refine va_get (D := D) (ci := 13) (v := .int 0) (C := RX13) (T := TX13) (N := 20) hx hb hg inG13 hown hK hP 0 rfl rfl 3 (by decide) (hg _ wd_175) (fun _ h9 => h9) rfl dX13_partner_112 ?_
          refine lv_iconst (v := 1) hx hb dX13_partner_115 (by decide) ?_
          refine lv_iadd hx hb dX13_partner_116 ?_
          refine lv_topi (fun f_33 ef_33 => ?_)
          obtain rfl : f_33 = 1 := by rw [ef_33]; decide
          refine va_put (D := D) (ci := 13) (v := .int 1) (ty := .int) (C := RX13) (T := TX13) (N := 20) hx hb hg inG13 tyX13 tyX13_ok nmX13 hown hK hP hD hS 0 rfl rfl 3 (by decide) (hg _ wd_175) (fun _ h9 => h9) rfl (by decide +kernel) rfl rfl (Nat.le_of_ble_eq_true rfl) dX13_partner_117 (fun H_34 locs hP hD hS => ?_)
          have hP : va_P D vwCl [(za, .inr (13, [.int 0, .ref z1, .int 0, .int 1, .int z4, .int z5, .ref z6, .ref z7, .ref z8, .ref z9, .int z10, .ref z11, .ref z12, .ref z13, .ref z14, .ref z15, .int z16, .ref z17, .int z18, .ref z19])), (z6, .inl (ca, 40, .inl (upd (fun _ => 0) (0 : Int32).toNatClampNeg k1))), (z7, .inl (cb, 40, .inl (upd (fun _ => 0) (0 : Int32).toNatClampNeg k2)))] H_34 := hP
          have hD : va_D A [(za, .inr (13, [.int 0, .ref z1, .int 0, .int 1, .int z4, .int z5, .ref z6, .ref z7, .ref z8, .ref z9, .int z10, .ref z11, .ref z12, .ref z13, .ref z14, .ref z15, .int z16, .ref z17, .int z18, .ref z19])), (z6, .inl (ca, 40, .inl (upd (fun _ => 0) (0 : Int32).toNatClampNeg k1))), (z7, .inl (cb, 40, .inl (upd (fun _ => 0) (0 : Int32).toNatClampNeg k2)))] := hD
          refine lv_aload_n hx hb dX13_partner_120 rfl (lv_at hl 1 rfl) ?_
          refine lv_aload_n hx hb dX13_partner_121 rfl (lv_at hl 1 rfl) ?_
          refine va_get (D := D) (ci := 13) (v := .int 1) (C := RX13) (T := TX13) (N := 20) hx hb hg inG13 hown hK hP 0 rfl rfl 3 (by decide) (hg _ wd_175) (fun _ h9 => h9) rfl dX13_partner_122 ?_
          refine lv_iconst (v := 1) hx hb dX13_partner_125 (by decide) ?_
          refine lv_isub hx hb dX13_partner_126 ?_
          refine lv_topi (fun f_35 ef_35 => ?_)
          obtain rfl : f_35 = 0 := by rw [ef_35]; decide
          have hPc := hP.sub (ws' := [(za, .inr (13, [.int 0, .ref z1, .int 0, .int 1, .int z4, .int z5, .ref z6, .ref z7, .ref z8, .ref z9, .int z10, .ref z11, .ref z12, .ref z13, .ref z14, .ref z15, .int z16, .ref z17, .int z18, .ref z19]))]) [0] rfl
          have hDc := hD.sub (ws' := [(za, .inr (13, [.int 0, .ref z1, .int 0, .int 1, .int z4, .int z5, .ref z6, .ref z7, .ref z8, .ref z9, .int z10, .ref z11, .ref z12, .ref z13, .ref z14, .ref z15, .int z16, .ref z17, .int z18, .ref z19]))]) [0] (by decide) rfl
          have hKc := hK.sub (tys' := []) [] rfl
          have hFc := va_free (wc := [(za, .inr (13, [.int 0, .ref z1, .int 0, .int 1, .int z4, .int z5, .ref z6, .ref z7, .ref z8, .ref z9, .int z10, .ref z11, .ref z12, .ref z13, .ref z14, .ref z15, .int z16, .ref z17, .int z18, .ref z19]))]) hD hS hA [0] rfl
          refine va_calli (va_runV (As := [.int 0]) (rest := []) ⟨hx, hb, hml, hown, hg⟩ (m_done l D H_34.size za 0 z1 0 1 z4 z5 z6 z7 z8 z9 z10 z11 z12 z13 z14 z15 z16 z17 z18 z19 0) (cwV 1 hg (gV wd_170 wd_171 wd_172 wd_147 wd_173) rfl rfl rfl (by decide +kernel) ⟨(Nat.le_of_ble_eq_true rfl), (Nat.le_of_ble_eq_true rfl)⟩) ⟨Pr.blind, va_recv hKc hPc (ci := 13) (q0 := 0) rfl rfl, fun U hU hW => ⟨rfl, Pr.at hPc hKc hDc hN hU hW⟩⟩ rfl rfl hl.1 rfl (lv_room (Nat.le_of_ble_eq_true rfl)) dX13_partner_127 ⟨(Nat.le_of_ble_eq_true rfl), (Nat.le_of_ble_eq_true rfl)⟩) hS (fun q _ h => hFc q h) hFc (fun r_37 u t H_36 locs ht hvm hw hB hz1 hk1 hS => ?_)
          obtain ⟨hP1, hK1, hD1⟩ := hB
          rw [ht] at hP1
          have hK1 := va_K.moved hvm.symm hK1
          obtain ⟨hP, hD⟩ := va_join (wr := [(z6, .inl (ca, 40, .inl (upd (fun _ => 0) (0 : Int32).toNatClampNeg k1))), (z7, .inl (cb, 40, .inl (upd (fun _ => 0) (0 : Int32).toNatClampNeg k2)))]) (w1 := [(za, .inr (13, [.int 0, .ref z1, .int 0, .int 1, .int 0, .int (-1), .ref z6, .ref z7, .ref z8, .ref z9, .int z10, .ref z11, .ref z12, .ref z13, .ref z14, .ref z15, .int z16, .ref z17, .int z18, .ref z19]))]) hP hD [0] [1, 2] rfl rfl (by decide) (by decide) hk1 hFc hP1 hD1
          have hP : va_P D vwCl [(z6, .inl (ca, 40, .inl (upd (fun _ => 0) (0 : Int32).toNatClampNeg k1))), (z7, .inl (cb, 40, .inl (upd (fun _ => 0) (0 : Int32).toNatClampNeg k2))), (za, .inr (13, [.int 0, .ref z1, .int 0, .int 1, .int 0, .int (-1), .ref z6, .ref z7, .ref z8, .ref z9, .int z10, .ref z11, .ref z12, .ref z13, .ref z14, .ref z15, .int z16, .ref z17, .int z18, .ref z19]))] H_36 := hP
          have hD : va_D A [(z6, .inl (ca, 40, .inl (upd (fun _ => 0) (0 : Int32).toNatClampNeg k1))), (z7, .inl (cb, 40, .inl (upd (fun _ => 0) (0 : Int32).toNatClampNeg k2))), (za, .inr (13, [.int 0, .ref z1, .int 0, .int 1, .int 0, .int (-1), .ref z6, .ref z7, .ref z8, .ref z9, .int z10, .ref z11, .ref z12, .ref z13, .ref z14, .ref z15, .int z16, .ref z17, .int z18, .ref z19]))] := hD
          subst hw
          exact W.iret (v := 0) hx hb hr (fun t ht hW => ⟨⟨0, (), rfl, by simp [ansPartner, limK, c_2, c_21, c_22, c_23, c_25, c_28, c_29], trivial⟩, hS.F ht⟩) hS.2.2 dX13_partner_130
        · refine lv_aload_n hx hb dX13_partner_49 rfl (lv_at hl 1 rfl) ?_
          refine lv_iconst (v := 2) hx hb dX13_partner_50 (by decide) ?_
          have hPc := hP.sub (ws' := [(za, .inr (13, [.int 0, .ref z1, .int 0, .int 0, .int z4, .int z5, .ref z6, .ref z7, .ref z8, .ref z9, .int z10, .ref z11, .ref z12, .ref z13, .ref z14, .ref z15, .int z16, .ref z17, .int z18, .ref z19]))]) [0] rfl
          have hDc := hD.sub (ws' := [(za, .inr (13, [.int 0, .ref z1, .int 0, .int 0, .int z4, .int z5, .ref z6, .ref z7, .ref z8, .ref z9, .int z10, .ref z11, .ref z12, .ref z13, .ref z14, .ref z15, .int z16, .ref z17, .int z18, .ref z19]))]) [0] (by decide) rfl
          have hKc := hK.sub (tys' := []) [] rfl
          have hFc := va_free (wc := [(za, .inr (13, [.int 0, .ref z1, .int 0, .int 0, .int z4, .int z5, .ref z6, .ref z7, .ref z8, .ref z9, .int z10, .ref z11, .ref z12, .ref z13, .ref z14, .ref z15, .int z16, .ref z17, .int z18, .ref z19]))]) hD hS hA [0] rfl
          refine va_calli (va_runV (As := [.int 2]) (rest := []) ⟨hx, hb, hml, hown, hg⟩ (m_refused l D H_1.size za 0 z1 0 0 z4 z5 z6 z7 z8 z9 z10 z11 z12 z13 z14 z15 z16 z17 z18 z19 2) (cwV 1 hg (gV wd_150 wd_151 wd_152 wd_147 wd_153) rfl rfl rfl (by decide +kernel) ⟨(Nat.le_of_ble_eq_true rfl), (Nat.le_of_ble_eq_true rfl)⟩) ⟨Pr.blind, va_recv hKc hPc (ci := 13) (q0 := 0) rfl rfl, fun U hU hW => ⟨rfl, Pr.at hPc hKc hDc hN hU hW⟩⟩ rfl rfl hl.1 rfl (lv_room (Nat.le_of_ble_eq_true rfl)) dX13_partner_51 ⟨(Nat.le_of_ble_eq_true rfl), (Nat.le_of_ble_eq_true rfl)⟩) hS (fun q _ h => hFc q h) hFc (fun r_39 u t H_38 locs ht hvm hw hB hz1 hk1 hS => ?_)
          obtain ⟨hP1, hK1, hD1⟩ := hB
          rw [ht] at hP1
          have hK1 := va_K.moved hvm.symm hK1
          obtain ⟨hP, hD⟩ := va_join (wr := [(z6, .inl (ca, 40, .inl (fun _ => 0))), (z7, .inl (cb, 40, .inl (fun _ => 0)))]) (w1 := [(za, .inr (13, [.int 0, .ref z1, .int 0, .int 0, .int 2, .int (-1), .ref z6, .ref z7, .ref z8, .ref z9, .int z10, .ref z11, .ref z12, .ref z13, .ref z14, .ref z15, .int z16, .ref z17, .int z18, .ref z19]))]) hP hD [0] [1, 2] rfl rfl (by decide) (by decide) hk1 hFc hP1 hD1
          have hP : va_P D vwCl [(z6, .inl (ca, 40, .inl (fun _ => 0))), (z7, .inl (cb, 40, .inl (fun _ => 0))), (za, .inr (13, [.int 0, .ref z1, .int 0, .int 0, .int 2, .int (-1), .ref z6, .ref z7, .ref z8, .ref z9, .int z10, .ref z11, .ref z12, .ref z13, .ref z14, .ref z15, .int z16, .ref z17, .int z18, .ref z19]))] H_38 := hP
          have hD : va_D A [(z6, .inl (ca, 40, .inl (fun _ => 0))), (z7, .inl (cb, 40, .inl (fun _ => 0))), (za, .inr (13, [.int 0, .ref z1, .int 0, .int 0, .int 2, .int (-1), .ref z6, .ref z7, .ref z8, .ref z9, .int z10, .ref z11, .ref z12, .ref z13, .ref z14, .ref z15, .int z16, .ref z17, .int z18, .ref z19]))] := hD
          subst hw
          exact W.iret (v := (-1)) hx hb hr (fun t ht hW => ⟨⟨(-1), (), rfl, by simp [ansPartner, limK, c_2, c_21, c_22, c_23, c_25, c_28], trivial⟩, hS.F ht⟩) hS.2.2 dX13_partner_54
    · refine lv_iload_n hx hb dX13_partner_15 rfl (lv_at hl 1 rfl) ?_
      refine lv_iconst (v := 4) hx hb dX13_partner_16 (by decide) ?_
      refine lv_icmp_ne (tgt := 24) hx hb dX13_partner_17 (by decide) (fun c_40 => ?_) (fun c_40 => ?_)
      · refine lv_iconst (v := 0) hx hb dX13_partner_24 (by decide) ?_
        refine lv_istore_n (lv' := [(3, .int 0), (0, .ref za), (1, .int k1), (2, .int k2)]) hx hb dX13_partner_25 rfl hl (by decide) rfl (fun ls hl => ?_)
        refine lv_iload_n hx hb dX13_partner_26 rfl (lv_at hl 2 rfl) ?_
        refine lv_if_lt (tgt := 49) hx hb dX13_partner_27 (by decide) (fun c_41 => ?_) (fun c_41 => ?_)
        · refine lv_aload_n hx hb dX13_partner_49 rfl (lv_at hl 1 rfl) ?_
          refine lv_iconst (v := 2) hx hb dX13_partner_50 (by decide) ?_
          have hPc := hP.sub (ws' := [(za, .inr (13, [.int 0, .ref z1, .int 0, .int 0, .int z4, .int z5, .ref z6, .ref z7, .ref z8, .ref z9, .int z10, .ref z11, .ref z12, .ref z13, .ref z14, .ref z15, .int z16, .ref z17, .int z18, .ref z19]))]) [0] rfl
          have hDc := hD.sub (ws' := [(za, .inr (13, [.int 0, .ref z1, .int 0, .int 0, .int z4, .int z5, .ref z6, .ref z7, .ref z8, .ref z9, .int z10, .ref z11, .ref z12, .ref z13, .ref z14, .ref z15, .int z16, .ref z17, .int z18, .ref z19]))]) [0] (by decide) rfl
          have hKc := hK.sub (tys' := []) [] rfl
          have hFc := va_free (wc := [(za, .inr (13, [.int 0, .ref z1, .int 0, .int 0, .int z4, .int z5, .ref z6, .ref z7, .ref z8, .ref z9, .int z10, .ref z11, .ref z12, .ref z13, .ref z14, .ref z15, .int z16, .ref z17, .int z18, .ref z19]))]) hD hS hA [0] rfl
          refine va_calli (va_runV (As := [.int 2]) (rest := []) ⟨hx, hb, hml, hown, hg⟩ (m_refused l D H_1.size za 0 z1 0 0 z4 z5 z6 z7 z8 z9 z10 z11 z12 z13 z14 z15 z16 z17 z18 z19 2) (cwV 1 hg (gV wd_150 wd_151 wd_152 wd_147 wd_153) rfl rfl rfl (by decide +kernel) ⟨(Nat.le_of_ble_eq_true rfl), (Nat.le_of_ble_eq_true rfl)⟩) ⟨Pr.blind, va_recv hKc hPc (ci := 13) (q0 := 0) rfl rfl, fun U hU hW => ⟨rfl, Pr.at hPc hKc hDc hN hU hW⟩⟩ rfl rfl hl.1 rfl (lv_room (Nat.le_of_ble_eq_true rfl)) dX13_partner_51 ⟨(Nat.le_of_ble_eq_true rfl), (Nat.le_of_ble_eq_true rfl)⟩) hS (fun q _ h => hFc q h) hFc (fun r_43 u t H_42 locs ht hvm hw hB hz1 hk1 hS => ?_)
          obtain ⟨hP1, hK1, hD1⟩ := hB
          rw [ht] at hP1
          have hK1 := va_K.moved hvm.symm hK1
          obtain ⟨hP, hD⟩ := va_join (wr := [(z6, .inl (ca, 40, .inl (fun _ => 0))), (z7, .inl (cb, 40, .inl (fun _ => 0)))]) (w1 := [(za, .inr (13, [.int 0, .ref z1, .int 0, .int 0, .int 2, .int (-1), .ref z6, .ref z7, .ref z8, .ref z9, .int z10, .ref z11, .ref z12, .ref z13, .ref z14, .ref z15, .int z16, .ref z17, .int z18, .ref z19]))]) hP hD [0] [1, 2] rfl rfl (by decide) (by decide) hk1 hFc hP1 hD1
          have hP : va_P D vwCl [(z6, .inl (ca, 40, .inl (fun _ => 0))), (z7, .inl (cb, 40, .inl (fun _ => 0))), (za, .inr (13, [.int 0, .ref z1, .int 0, .int 0, .int 2, .int (-1), .ref z6, .ref z7, .ref z8, .ref z9, .int z10, .ref z11, .ref z12, .ref z13, .ref z14, .ref z15, .int z16, .ref z17, .int z18, .ref z19]))] H_42 := hP
          have hD : va_D A [(z6, .inl (ca, 40, .inl (fun _ => 0))), (z7, .inl (cb, 40, .inl (fun _ => 0))), (za, .inr (13, [.int 0, .ref z1, .int 0, .int 0, .int 2, .int (-1), .ref z6, .ref z7, .ref z8, .ref z9, .int z10, .ref z11, .ref z12, .ref z13, .ref z14, .ref z15, .int z16, .ref z17, .int z18, .ref z19]))] := hD
          subst hw
          exact W.iret (v := (-1)) hx hb hr (fun t ht hW => ⟨⟨(-1), (), rfl, by simp [ansPartner, limK, c_2, c_21, c_40, c_41], trivial⟩, hS.F ht⟩) hS.2.2 dX13_partner_54
        · refine lv_iload_n hx hb dX13_partner_30 rfl (lv_at hl 2 rfl) ?_
          refine lv_iconst (v := 5) hx hb dX13_partner_31 (by decide) ?_
          refine lv_icmp_gt (tgt := 49) hx hb dX13_partner_32 (by decide) (fun c_44 => ?_) (fun c_44 => ?_)
          · refine lv_aload_n hx hb dX13_partner_49 rfl (lv_at hl 1 rfl) ?_
            refine lv_iconst (v := 2) hx hb dX13_partner_50 (by decide) ?_
            have hPc := hP.sub (ws' := [(za, .inr (13, [.int 0, .ref z1, .int 0, .int 0, .int z4, .int z5, .ref z6, .ref z7, .ref z8, .ref z9, .int z10, .ref z11, .ref z12, .ref z13, .ref z14, .ref z15, .int z16, .ref z17, .int z18, .ref z19]))]) [0] rfl
            have hDc := hD.sub (ws' := [(za, .inr (13, [.int 0, .ref z1, .int 0, .int 0, .int z4, .int z5, .ref z6, .ref z7, .ref z8, .ref z9, .int z10, .ref z11, .ref z12, .ref z13, .ref z14, .ref z15, .int z16, .ref z17, .int z18, .ref z19]))]) [0] (by decide) rfl
            have hKc := hK.sub (tys' := []) [] rfl
            have hFc := va_free (wc := [(za, .inr (13, [.int 0, .ref z1, .int 0, .int 0, .int z4, .int z5, .ref z6, .ref z7, .ref z8, .ref z9, .int z10, .ref z11, .ref z12, .ref z13, .ref z14, .ref z15, .int z16, .ref z17, .int z18, .ref z19]))]) hD hS hA [0] rfl
            refine va_calli (va_runV (As := [.int 2]) (rest := []) ⟨hx, hb, hml, hown, hg⟩ (m_refused l D H_1.size za 0 z1 0 0 z4 z5 z6 z7 z8 z9 z10 z11 z12 z13 z14 z15 z16 z17 z18 z19 2) (cwV 1 hg (gV wd_150 wd_151 wd_152 wd_147 wd_153) rfl rfl rfl (by decide +kernel) ⟨(Nat.le_of_ble_eq_true rfl), (Nat.le_of_ble_eq_true rfl)⟩) ⟨Pr.blind, va_recv hKc hPc (ci := 13) (q0 := 0) rfl rfl, fun U hU hW => ⟨rfl, Pr.at hPc hKc hDc hN hU hW⟩⟩ rfl rfl hl.1 rfl (lv_room (Nat.le_of_ble_eq_true rfl)) dX13_partner_51 ⟨(Nat.le_of_ble_eq_true rfl), (Nat.le_of_ble_eq_true rfl)⟩) hS (fun q _ h => hFc q h) hFc (fun r_46 u t H_45 locs ht hvm hw hB hz1 hk1 hS => ?_)
            obtain ⟨hP1, hK1, hD1⟩ := hB
            rw [ht] at hP1
            have hK1 := va_K.moved hvm.symm hK1
            obtain ⟨hP, hD⟩ := va_join (wr := [(z6, .inl (ca, 40, .inl (fun _ => 0))), (z7, .inl (cb, 40, .inl (fun _ => 0)))]) (w1 := [(za, .inr (13, [.int 0, .ref z1, .int 0, .int 0, .int 2, .int (-1), .ref z6, .ref z7, .ref z8, .ref z9, .int z10, .ref z11, .ref z12, .ref z13, .ref z14, .ref z15, .int z16, .ref z17, .int z18, .ref z19]))]) hP hD [0] [1, 2] rfl rfl (by decide) (by decide) hk1 hFc hP1 hD1
            have hP : va_P D vwCl [(z6, .inl (ca, 40, .inl (fun _ => 0))), (z7, .inl (cb, 40, .inl (fun _ => 0))), (za, .inr (13, [.int 0, .ref z1, .int 0, .int 0, .int 2, .int (-1), .ref z6, .ref z7, .ref z8, .ref z9, .int z10, .ref z11, .ref z12, .ref z13, .ref z14, .ref z15, .int z16, .ref z17, .int z18, .ref z19]))] H_45 := hP
            have hD : va_D A [(z6, .inl (ca, 40, .inl (fun _ => 0))), (z7, .inl (cb, 40, .inl (fun _ => 0))), (za, .inr (13, [.int 0, .ref z1, .int 0, .int 0, .int 2, .int (-1), .ref z6, .ref z7, .ref z8, .ref z9, .int z10, .ref z11, .ref z12, .ref z13, .ref z14, .ref z15, .int z16, .ref z17, .int z18, .ref z19]))] := hD
            subst hw
            exact W.iret (v := (-1)) hx hb hr (fun t ht hW => ⟨⟨(-1), (), rfl, by simp [ansPartner, limK, c_2, c_21, c_40, c_41, c_44], trivial⟩, hS.F ht⟩) hS.2.2 dX13_partner_54
          · refine lv_iload_n hx hb dX13_partner_35 rfl (lv_at hl 0 rfl) ?_
            refine lv_if_eq (tgt := 55) hx hb dX13_partner_36 (by decide) (fun _ => ?_) (fun c_47 => absurd c_47 (by decide))
            refine lv_iload_n hx hb dX13_partner_55 rfl (lv_at hl 2 rfl) ?_
            refine lv_iconst (v := 5) hx hb dX13_partner_56 (by decide) ?_
            refine lv_icmp_ne (tgt := 74) hx hb dX13_partner_57 (by decide) (fun c_48 => ?_) (fun c_48 => ?_)
            · refine lv_aload_n hx hb dX13_partner_74 rfl (lv_at hl 1 rfl) ?_
              refine va_get (D := D) (ci := 13) (v := .int 0) (C := RX13) (T := TX13) (N := 20) hx hb hg inG13 hown hK hP 0 rfl rfl 3 (by decide) (hg _ wd_175) (fun _ h9 => h9) rfl dX13_partner_75 ?_
              refine lv_bipush (v := 40) hx hb dX13_partner_78 (by decide) ?_
              refine lv_icmp_ne (tgt := 90) hx hb dX13_partner_80 (by decide) (fun _ => ?_) (fun c_49 => absurd c_49 (by decide))
              refine lv_aload_n hx hb dX13_partner_90 rfl (lv_at hl 1 rfl) ?_
              refine va_get (D := D) (ci := 13) (v := .ref z6) (C := RX13) (T := TX13) (N := 20) hx hb hg inG13 hown hK hP 0 rfl rfl 6 (by decide) (hg _ wd_176) (fun _ h9 => h9) rfl dX13_partner_91 ?_
              refine lv_aload_n hx hb dX13_partner_94 rfl (lv_at hl 1 rfl) ?_
              refine va_get (D := D) (ci := 13) (v := .int 0) (C := RX13) (T := TX13) (N := 20) hx hb hg inG13 hown hK hP 0 rfl rfl 3 (by decide) (hg _ wd_175) (fun _ h9 => h9) rfl dX13_partner_95 ?_
              refine lv_iload_n hx hb dX13_partner_98 rfl (lv_at hl 2 rfl) ?_
              refine va_iast hx hb hK hP hD hS 1 0 rfl rfl (by unfold vp_in; decide) dX13_partner_99 (fun H_50 locs hP hD hS => ?_)
              have hP : va_P D vwCl [(za, .inr (13, [.int 0, .ref z1, .int 0, .int 0, .int z4, .int z5, .ref z6, .ref z7, .ref z8, .ref z9, .int z10, .ref z11, .ref z12, .ref z13, .ref z14, .ref z15, .int z16, .ref z17, .int z18, .ref z19])), (z6, .inl (ca, 40, .inl (upd (fun _ => 0) (0 : Int32).toNatClampNeg k1))), (z7, .inl (cb, 40, .inl (fun _ => 0)))] H_50 := hP
              have hD : va_D A [(za, .inr (13, [.int 0, .ref z1, .int 0, .int 0, .int z4, .int z5, .ref z6, .ref z7, .ref z8, .ref z9, .int z10, .ref z11, .ref z12, .ref z13, .ref z14, .ref z15, .int z16, .ref z17, .int z18, .ref z19])), (z6, .inl (ca, 40, .inl (upd (fun _ => 0) (0 : Int32).toNatClampNeg k1))), (z7, .inl (cb, 40, .inl (fun _ => 0)))] := hD
              refine lv_aload_n hx hb dX13_partner_100 rfl (lv_at hl 1 rfl) ?_
              refine va_get (D := D) (ci := 13) (v := .ref z7) (C := RX13) (T := TX13) (N := 20) hx hb hg inG13 hown hK hP 0 rfl rfl 7 (by decide) (hg _ wd_177) (fun _ h9 => h9) rfl dX13_partner_101 ?_
              refine lv_aload_n hx hb dX13_partner_104 rfl (lv_at hl 1 rfl) ?_
              refine va_get (D := D) (ci := 13) (v := .int 0) (C := RX13) (T := TX13) (N := 20) hx hb hg inG13 hown hK hP 0 rfl rfl 3 (by decide) (hg _ wd_175) (fun _ h9 => h9) rfl dX13_partner_105 ?_
              refine lv_iload_n hx hb dX13_partner_108 rfl (lv_at hl 3 rfl) ?_
              refine va_iast hx hb hK hP hD hS 2 1 rfl rfl (by unfold vp_in; decide) dX13_partner_109 (fun H_51 locs hP hD hS => ?_)
              have hP : va_P D vwCl [(za, .inr (13, [.int 0, .ref z1, .int 0, .int 0, .int z4, .int z5, .ref z6, .ref z7, .ref z8, .ref z9, .int z10, .ref z11, .ref z12, .ref z13, .ref z14, .ref z15, .int z16, .ref z17, .int z18, .ref z19])), (z6, .inl (ca, 40, .inl (upd (fun _ => 0) (0 : Int32).toNatClampNeg k1))), (z7, .inl (cb, 40, .inl (upd (fun _ => 0) (0 : Int32).toNatClampNeg k2)))] H_51 := hP
              have hD : va_D A [(za, .inr (13, [.int 0, .ref z1, .int 0, .int 0, .int z4, .int z5, .ref z6, .ref z7, .ref z8, .ref z9, .int z10, .ref z11, .ref z12, .ref z13, .ref z14, .ref z15, .int z16, .ref z17, .int z18, .ref z19])), (z6, .inl (ca, 40, .inl (upd (fun _ => 0) (0 : Int32).toNatClampNeg k1))), (z7, .inl (cb, 40, .inl (upd (fun _ => 0) (0 : Int32).toNatClampNeg k2)))] := hD
              refine lv_aload_n hx hb dX13_partner_110 rfl (lv_at hl 1 rfl) ?_
              refine lv_dup hx hb dX13_partner_111 rfl ?_
              refine va_get (D := D) (ci := 13) (v := .int 0) (C := RX13) (T := TX13) (N := 20) hx hb hg inG13 hown hK hP 0 rfl rfl 3 (by decide) (hg _ wd_175) (fun _ h9 => h9) rfl dX13_partner_112 ?_
              refine lv_iconst (v := 1) hx hb dX13_partner_115 (by decide) ?_
              refine lv_iadd hx hb dX13_partner_116 ?_
              refine lv_topi (fun f_52 ef_52 => ?_)
              obtain rfl : f_52 = 1 := by rw [ef_52]; decide
              refine va_put (D := D) (ci := 13) (v := .int 1) (ty := .int) (C := RX13) (T := TX13) (N := 20) hx hb hg inG13 tyX13 tyX13_ok nmX13 hown hK hP hD hS 0 rfl rfl 3 (by decide) (hg _ wd_175) (fun _ h9 => h9) rfl (by decide +kernel) rfl rfl (Nat.le_of_ble_eq_true rfl) dX13_partner_117 (fun H_53 locs hP hD hS => ?_)
              have hP : va_P D vwCl [(za, .inr (13, [.int 0, .ref z1, .int 0, .int 1, .int z4, .int z5, .ref z6, .ref z7, .ref z8, .ref z9, .int z10, .ref z11, .ref z12, .ref z13, .ref z14, .ref z15, .int z16, .ref z17, .int z18, .ref z19])), (z6, .inl (ca, 40, .inl (upd (fun _ => 0) (0 : Int32).toNatClampNeg k1))), (z7, .inl (cb, 40, .inl (upd (fun _ => 0) (0 : Int32).toNatClampNeg k2)))] H_53 := hP
              have hD : va_D A [(za, .inr (13, [.int 0, .ref z1, .int 0, .int 1, .int z4, .int z5, .ref z6, .ref z7, .ref z8, .ref z9, .int z10, .ref z11, .ref z12, .ref z13, .ref z14, .ref z15, .int z16, .ref z17, .int z18, .ref z19])), (z6, .inl (ca, 40, .inl (upd (fun _ => 0) (0 : Int32).toNatClampNeg k1))), (z7, .inl (cb, 40, .inl (upd (fun _ => 0) (0 : Int32).toNatClampNeg k2)))] := hD
              refine lv_aload_n hx hb dX13_partner_120 rfl (lv_at hl 1 rfl) ?_
              refine lv_aload_n hx hb dX13_partner_121 rfl (lv_at hl 1 rfl) ?_
              refine va_get (D := D) (ci := 13) (v := .int 1) (C := RX13) (T := TX13) (N := 20) hx hb hg inG13 hown hK hP 0 rfl rfl 3 (by decide) (hg _ wd_175) (fun _ h9 => h9) rfl dX13_partner_122 ?_
              refine lv_iconst (v := 1) hx hb dX13_partner_125 (by decide) ?_
              refine lv_isub hx hb dX13_partner_126 ?_
              refine lv_topi (fun f_54 ef_54 => ?_)
              obtain rfl : f_54 = 0 := by rw [ef_54]; decide
              have hPc := hP.sub (ws' := [(za, .inr (13, [.int 0, .ref z1, .int 0, .int 1, .int z4, .int z5, .ref z6, .ref z7, .ref z8, .ref z9, .int z10, .ref z11, .ref z12, .ref z13, .ref z14, .ref z15, .int z16, .ref z17, .int z18, .ref z19]))]) [0] rfl
              have hDc := hD.sub (ws' := [(za, .inr (13, [.int 0, .ref z1, .int 0, .int 1, .int z4, .int z5, .ref z6, .ref z7, .ref z8, .ref z9, .int z10, .ref z11, .ref z12, .ref z13, .ref z14, .ref z15, .int z16, .ref z17, .int z18, .ref z19]))]) [0] (by decide) rfl
              have hKc := hK.sub (tys' := []) [] rfl
              have hFc := va_free (wc := [(za, .inr (13, [.int 0, .ref z1, .int 0, .int 1, .int z4, .int z5, .ref z6, .ref z7, .ref z8, .ref z9, .int z10, .ref z11, .ref z12, .ref z13, .ref z14, .ref z15, .int z16, .ref z17, .int z18, .ref z19]))]) hD hS hA [0] rfl
              refine va_calli (va_runV (As := [.int 0]) (rest := []) ⟨hx, hb, hml, hown, hg⟩ (m_done l D H_53.size za 0 z1 0 1 z4 z5 z6 z7 z8 z9 z10 z11 z12 z13 z14 z15 z16 z17 z18 z19 0) (cwV 1 hg (gV wd_170 wd_171 wd_172 wd_147 wd_173) rfl rfl rfl (by decide +kernel) ⟨(Nat.le_of_ble_eq_true rfl), (Nat.le_of_ble_eq_true rfl)⟩) ⟨Pr.blind, va_recv hKc hPc (ci := 13) (q0 := 0) rfl rfl, fun U hU hW => ⟨rfl, Pr.at hPc hKc hDc hN hU hW⟩⟩ rfl rfl hl.1 rfl (lv_room (Nat.le_of_ble_eq_true rfl)) dX13_partner_127 ⟨(Nat.le_of_ble_eq_true rfl), (Nat.le_of_ble_eq_true rfl)⟩) hS (fun q _ h => hFc q h) hFc (fun r_56 u t H_55 locs ht hvm hw hB hz1 hk1 hS => ?_)
              obtain ⟨hP1, hK1, hD1⟩ := hB
              rw [ht] at hP1
              have hK1 := va_K.moved hvm.symm hK1
              obtain ⟨hP, hD⟩ := va_join (wr := [(z6, .inl (ca, 40, .inl (upd (fun _ => 0) (0 : Int32).toNatClampNeg k1))), (z7, .inl (cb, 40, .inl (upd (fun _ => 0) (0 : Int32).toNatClampNeg k2)))]) (w1 := [(za, .inr (13, [.int 0, .ref z1, .int 0, .int 1, .int 0, .int (-1), .ref z6, .ref z7, .ref z8, .ref z9, .int z10, .ref z11, .ref z12, .ref z13, .ref z14, .ref z15, .int z16, .ref z17, .int z18, .ref z19]))]) hP hD [0] [1, 2] rfl rfl (by decide) (by decide) hk1 hFc hP1 hD1
              have hP : va_P D vwCl [(z6, .inl (ca, 40, .inl (upd (fun _ => 0) (0 : Int32).toNatClampNeg k1))), (z7, .inl (cb, 40, .inl (upd (fun _ => 0) (0 : Int32).toNatClampNeg k2))), (za, .inr (13, [.int 0, .ref z1, .int 0, .int 1, .int 0, .int (-1), .ref z6, .ref z7, .ref z8, .ref z9, .int z10, .ref z11, .ref z12, .ref z13, .ref z14, .ref z15, .int z16, .ref z17, .int z18, .ref z19]))] H_55 := hP
              have hD : va_D A [(z6, .inl (ca, 40, .inl (upd (fun _ => 0) (0 : Int32).toNatClampNeg k1))), (z7, .inl (cb, 40, .inl (upd (fun _ => 0) (0 : Int32).toNatClampNeg k2))), (za, .inr (13, [.int 0, .ref z1, .int 0, .int 1, .int 0, .int (-1), .ref z6, .ref z7, .ref z8, .ref z9, .int z10, .ref z11, .ref z12, .ref z13, .ref z14, .ref z15, .int z16, .ref z17, .int z18, .ref z19]))] := hD
              subst hw
              exact W.iret (v := 0) hx hb hr (fun t ht hW => ⟨⟨0, (), rfl, by simp [ansPartner, limK, c_2, c_21, c_40, c_41, c_44, c_48], trivial⟩, hS.F ht⟩) hS.2.2 dX13_partner_130
            · refine lv_aload_n hx hb dX13_partner_60 rfl (lv_at hl 1 rfl) ?_
              refine lv_iload_n hx hb dX13_partner_61 rfl (lv_at hl 3 rfl) ?_
              have hPc := hP.sub (ws' := [(za, .inr (13, [.int 0, .ref z1, .int 0, .int 0, .int z4, .int z5, .ref z6, .ref z7, .ref z8, .ref z9, .int z10, .ref z11, .ref z12, .ref z13, .ref z14, .ref z15, .int z16, .ref z17, .int z18, .ref z19]))]) [0] rfl
              have hDc := hD.sub (ws' := [(za, .inr (13, [.int 0, .ref z1, .int 0, .int 0, .int z4, .int z5, .ref z6, .ref z7, .ref z8, .ref z9, .int z10, .ref z11, .ref z12, .ref z13, .ref z14, .ref z15, .int z16, .ref z17, .int z18, .ref z19]))]) [0] (by decide) rfl
              have hKc := hK.sub (tys' := []) [] rfl
              have hFc := va_free (wc := [(za, .inr (13, [.int 0, .ref z1, .int 0, .int 0, .int z4, .int z5, .ref z6, .ref z7, .ref z8, .ref z9, .int z10, .ref z11, .ref z12, .ref z13, .ref z14, .ref z15, .int z16, .ref z17, .int z18, .ref z19]))]) hD hS hA [0] rfl
              refine va_calli (va_runV (As := [.int k2]) (rest := []) ⟨hx, hb, hml, hown, hg⟩ (m_isHouse0 l D H_1.size za 0 z1 0 z4 z5 z6 z7 z8 z9 z10 z11 z12 z13 z14 z15 z16 z17 z18 z19 k2) (cwV 1 hg (gV wd_144 wd_145 wd_146 wd_147 wd_148) rfl rfl rfl (by decide +kernel) ⟨(Nat.le_of_ble_eq_true rfl), (Nat.le_of_ble_eq_true rfl)⟩) ⟨Pr.blind, va_recv hKc hPc (ci := 13) (q0 := 0) rfl rfl, fun U hU hW => ⟨rfl, Pr.at hPc hKc hDc hN hU hW⟩⟩ rfl rfl hl.1 rfl (lv_room (Nat.le_of_ble_eq_true rfl)) dX13_partner_62 ⟨(Nat.le_of_ble_eq_true rfl), (Nat.le_of_ble_eq_true rfl)⟩) hS (fun q _ h => hFc q h) hFc (fun r_58 u t H_57 locs ht hvm hw hB hz1 hk1 hS => ?_)
              obtain ⟨hP1, hK1, hD1⟩ := hB
              rw [ht] at hP1
              have hK1 := va_K.moved hvm.symm hK1
              obtain ⟨hP, hD⟩ := va_join (wr := [(z6, .inl (ca, 40, .inl (fun _ => 0))), (z7, .inl (cb, 40, .inl (fun _ => 0)))]) (w1 := [(za, .inr (13, [.int 0, .ref z1, .int 0, .int 0, .int z4, .int z5, .ref z6, .ref z7, .ref z8, .ref z9, .int z10, .ref z11, .ref z12, .ref z13, .ref z14, .ref z15, .int z16, .ref z17, .int z18, .ref z19]))]) hP hD [0] [1, 2] rfl rfl (by decide) (by decide) hk1 hFc hP1 hD1
              have hP : va_P D vwCl [(z6, .inl (ca, 40, .inl (fun _ => 0))), (z7, .inl (cb, 40, .inl (fun _ => 0))), (za, .inr (13, [.int 0, .ref z1, .int 0, .int 0, .int z4, .int z5, .ref z6, .ref z7, .ref z8, .ref z9, .int z10, .ref z11, .ref z12, .ref z13, .ref z14, .ref z15, .int z16, .ref z17, .int z18, .ref z19]))] H_57 := hP
              have hD : va_D A [(z6, .inl (ca, 40, .inl (fun _ => 0))), (z7, .inl (cb, 40, .inl (fun _ => 0))), (za, .inr (13, [.int 0, .ref z1, .int 0, .int 0, .int z4, .int z5, .ref z6, .ref z7, .ref z8, .ref z9, .int z10, .ref z11, .ref z12, .ref z13, .ref z14, .ref z15, .int z16, .ref z17, .int z18, .ref z19]))] := hD
              subst hw
              refine lv_if_ne (tgt := 74) hx hb dX13_partner_65 (by decide) (fun c_59 => absurd c_59 (by decide)) (fun _ => ?_)
              refine lv_aload_n hx hb dX13_partner_68 rfl (lv_at hl 1 rfl) ?_
              refine lv_iconst (v := 1) hx hb dX13_partner_69 (by decide) ?_
              have hPc := hP.sub (ws' := [(za, .inr (13, [.int 0, .ref z1, .int 0, .int 0, .int z4, .int z5, .ref z6, .ref z7, .ref z8, .ref z9, .int z10, .ref z11, .ref z12, .ref z13, .ref z14, .ref z15, .int z16, .ref z17, .int z18, .ref z19]))]) [2] rfl
              have hDc := hD.sub (ws' := [(za, .inr (13, [.int 0, .ref z1, .int 0, .int 0, .int z4, .int z5, .ref z6, .ref z7, .ref z8, .ref z9, .int z10, .ref z11, .ref z12, .ref z13, .ref z14, .ref z15, .int z16, .ref z17, .int z18, .ref z19]))]) [2] (by decide) rfl
              have hKc := hK.sub (tys' := []) [] rfl
              have hFc := va_free (wc := [(za, .inr (13, [.int 0, .ref z1, .int 0, .int 0, .int z4, .int z5, .ref z6, .ref z7, .ref z8, .ref z9, .int z10, .ref z11, .ref z12, .ref z13, .ref z14, .ref z15, .int z16, .ref z17, .int z18, .ref z19]))]) hD hS hA [2] rfl
              refine va_calli (va_runV (As := [.int 1]) (rest := []) ⟨hx, hb, hml, hown, hg⟩ (m_refused l D H_57.size za 0 z1 0 0 z4 z5 z6 z7 z8 z9 z10 z11 z12 z13 z14 z15 z16 z17 z18 z19 1) (cwV 1 hg (gV wd_150 wd_151 wd_152 wd_147 wd_153) rfl rfl rfl (by decide +kernel) ⟨(Nat.le_of_ble_eq_true rfl), (Nat.le_of_ble_eq_true rfl)⟩) ⟨Pr.blind, va_recv hKc hPc (ci := 13) (q0 := 0) rfl rfl, fun U hU hW => ⟨rfl, Pr.at hPc hKc hDc hN hU hW⟩⟩ rfl rfl hl.1 rfl (lv_room (Nat.le_of_ble_eq_true rfl)) dX13_partner_70 ⟨(Nat.le_of_ble_eq_true rfl), (Nat.le_of_ble_eq_true rfl)⟩) hS (fun q _ h => hFc q h) hFc (fun r_61 u t H_60 locs ht hvm hw hB hz1 hk1 hS => ?_)
              obtain ⟨hP1, hK1, hD1⟩ := hB
              rw [ht] at hP1
              have hK1 := va_K.moved hvm.symm hK1
              obtain ⟨hP, hD⟩ := va_join (wr := [(z6, .inl (ca, 40, .inl (fun _ => 0))), (z7, .inl (cb, 40, .inl (fun _ => 0)))]) (w1 := [(za, .inr (13, [.int 0, .ref z1, .int 0, .int 0, .int 1, .int (-1), .ref z6, .ref z7, .ref z8, .ref z9, .int z10, .ref z11, .ref z12, .ref z13, .ref z14, .ref z15, .int z16, .ref z17, .int z18, .ref z19]))]) hP hD [2] [0, 1] rfl rfl (by decide) (by decide) hk1 hFc hP1 hD1
              have hP : va_P D vwCl [(z6, .inl (ca, 40, .inl (fun _ => 0))), (z7, .inl (cb, 40, .inl (fun _ => 0))), (za, .inr (13, [.int 0, .ref z1, .int 0, .int 0, .int 1, .int (-1), .ref z6, .ref z7, .ref z8, .ref z9, .int z10, .ref z11, .ref z12, .ref z13, .ref z14, .ref z15, .int z16, .ref z17, .int z18, .ref z19]))] H_60 := hP
              have hD : va_D A [(z6, .inl (ca, 40, .inl (fun _ => 0))), (z7, .inl (cb, 40, .inl (fun _ => 0))), (za, .inr (13, [.int 0, .ref z1, .int 0, .int 0, .int 1, .int (-1), .ref z6, .ref z7, .ref z8, .ref z9, .int z10, .ref z11, .ref z12, .ref z13, .ref z14, .ref z15, .int z16, .ref z17, .int z18, .ref z19]))] := hD
              subst hw
              exact W.iret (v := (-1)) hx hb hr (fun t ht hW => ⟨⟨(-1), (), rfl, by simp [ansPartner, limK, c_2, c_21, c_40, c_41, c_44, c_48], trivial⟩, hS.F ht⟩) hS.2.2 dX13_partner_73
      · refine lv_iconst (v := 1) hx hb dX13_partner_20 (by decide) ?_
        refine lv_goto (tgt := 25) hx hb dX13_partner_21 (by decide) ?_
        refine lv_istore_n (lv' := [(3, .int 1), (0, .ref za), (1, .int k1), (2, .int k2)]) hx hb dX13_partner_25 rfl hl (by decide) rfl (fun ls hl => ?_)
        refine lv_iload_n hx hb dX13_partner_26 rfl (lv_at hl 2 rfl) ?_
        refine lv_if_lt (tgt := 49) hx hb dX13_partner_27 (by decide) (fun c_62 => absurd c_62 (by rw [c_40]; decide)) (fun c_62 => ?_)
        refine lv_iload_n hx hb dX13_partner_30 rfl (lv_at hl 2 rfl) ?_
        refine lv_iconst (v := 5) hx hb dX13_partner_31 (by decide) ?_
        refine lv_icmp_gt (tgt := 49) hx hb dX13_partner_32 (by decide) (fun c_63 => absurd c_63 (by rw [c_40]; decide)) (fun c_63 => ?_)
        refine lv_iload_n hx hb dX13_partner_35 rfl (lv_at hl 0 rfl) ?_
        refine lv_if_eq (tgt := 55) hx hb dX13_partner_36 (by decide) (fun c_64 => absurd c_64 (by decide)) (fun _ => ?_)
        refine lv_iload_n hx hb dX13_partner_39 rfl (lv_at hl 3 rfl) ?_
        refine lv_if_lt (tgt := 49) hx hb dX13_partner_40 (by decide) (fun c_65 => ?_) (fun c_65 => ?_)
        · refine lv_aload_n hx hb dX13_partner_49 rfl (lv_at hl 1 rfl) ?_
          refine lv_iconst (v := 2) hx hb dX13_partner_50 (by decide) ?_
          have hPc := hP.sub (ws' := [(za, .inr (13, [.int 0, .ref z1, .int 0, .int 0, .int z4, .int z5, .ref z6, .ref z7, .ref z8, .ref z9, .int z10, .ref z11, .ref z12, .ref z13, .ref z14, .ref z15, .int z16, .ref z17, .int z18, .ref z19]))]) [0] rfl
          have hDc := hD.sub (ws' := [(za, .inr (13, [.int 0, .ref z1, .int 0, .int 0, .int z4, .int z5, .ref z6, .ref z7, .ref z8, .ref z9, .int z10, .ref z11, .ref z12, .ref z13, .ref z14, .ref z15, .int z16, .ref z17, .int z18, .ref z19]))]) [0] (by decide) rfl
          have hKc := hK.sub (tys' := []) [] rfl
          have hFc := va_free (wc := [(za, .inr (13, [.int 0, .ref z1, .int 0, .int 0, .int z4, .int z5, .ref z6, .ref z7, .ref z8, .ref z9, .int z10, .ref z11, .ref z12, .ref z13, .ref z14, .ref z15, .int z16, .ref z17, .int z18, .ref z19]))]) hD hS hA [0] rfl
          refine va_calli (va_runV (As := [.int 2]) (rest := []) ⟨hx, hb, hml, hown, hg⟩ (m_refused l D H_1.size za 0 z1 0 0 z4 z5 z6 z7 z8 z9 z10 z11 z12 z13 z14 z15 z16 z17 z18 z19 2) (cwV 1 hg (gV wd_150 wd_151 wd_152 wd_147 wd_153) rfl rfl rfl (by decide +kernel) ⟨(Nat.le_of_ble_eq_true rfl), (Nat.le_of_ble_eq_true rfl)⟩) ⟨Pr.blind, va_recv hKc hPc (ci := 13) (q0 := 0) rfl rfl, fun U hU hW => ⟨rfl, Pr.at hPc hKc hDc hN hU hW⟩⟩ rfl rfl hl.1 rfl (lv_room (Nat.le_of_ble_eq_true rfl)) dX13_partner_51 ⟨(Nat.le_of_ble_eq_true rfl), (Nat.le_of_ble_eq_true rfl)⟩) hS (fun q _ h => hFc q h) hFc (fun r_67 u t H_66 locs ht hvm hw hB hz1 hk1 hS => ?_)
          obtain ⟨hP1, hK1, hD1⟩ := hB
          rw [ht] at hP1
          have hK1 := va_K.moved hvm.symm hK1
          obtain ⟨hP, hD⟩ := va_join (wr := [(z6, .inl (ca, 40, .inl (fun _ => 0))), (z7, .inl (cb, 40, .inl (fun _ => 0)))]) (w1 := [(za, .inr (13, [.int 0, .ref z1, .int 0, .int 0, .int 2, .int (-1), .ref z6, .ref z7, .ref z8, .ref z9, .int z10, .ref z11, .ref z12, .ref z13, .ref z14, .ref z15, .int z16, .ref z17, .int z18, .ref z19]))]) hP hD [0] [1, 2] rfl rfl (by decide) (by decide) hk1 hFc hP1 hD1
          have hP : va_P D vwCl [(z6, .inl (ca, 40, .inl (fun _ => 0))), (z7, .inl (cb, 40, .inl (fun _ => 0))), (za, .inr (13, [.int 0, .ref z1, .int 0, .int 0, .int 2, .int (-1), .ref z6, .ref z7, .ref z8, .ref z9, .int z10, .ref z11, .ref z12, .ref z13, .ref z14, .ref z15, .int z16, .ref z17, .int z18, .ref z19]))] H_66 := hP
          have hD : va_D A [(z6, .inl (ca, 40, .inl (fun _ => 0))), (z7, .inl (cb, 40, .inl (fun _ => 0))), (za, .inr (13, [.int 0, .ref z1, .int 0, .int 0, .int 2, .int (-1), .ref z6, .ref z7, .ref z8, .ref z9, .int z10, .ref z11, .ref z12, .ref z13, .ref z14, .ref z15, .int z16, .ref z17, .int z18, .ref z19]))] := hD
          subst hw
          exact W.iret (v := (-1)) hx hb hr (fun t ht hW => ⟨⟨(-1), (), rfl, by simp [ansPartner, limK, c_2, c_21, c_40, c_62, c_63, c_65], trivial⟩, hS.F ht⟩) hS.2.2 dX13_partner_54
        · refine lv_iload_n hx hb dX13_partner_43 rfl (lv_at hl 3 rfl) ?_
          refine lv_ldc (v := 1000000000) hx hb hown (hg _ wd_174) dX13_partner_44 ?_
          refine lv_icmp_le (tgt := 55) hx hb dX13_partner_46 (by decide) (fun c_68 => ?_) (fun c_68 => ?_)
          · refine lv_iload_n hx hb dX13_partner_55 rfl (lv_at hl 2 rfl) ?_
            refine lv_iconst (v := 5) hx hb dX13_partner_56 (by decide) ?_
            refine lv_icmp_ne (tgt := 74) hx hb dX13_partner_57 (by decide) (fun c_69 => ?_) (fun c_69 => absurd c_69 (by rw [c_40]; decide))
            refine lv_aload_n hx hb dX13_partner_74 rfl (lv_at hl 1 rfl) ?_
            refine va_get (D := D) (ci := 13) (v := .int 0) (C := RX13) (T := TX13) (N := 20) hx hb hg inG13 hown hK hP 0 rfl rfl 3 (by decide) (hg _ wd_175) (fun _ h9 => h9) rfl dX13_partner_75 ?_
            refine lv_bipush (v := 40) hx hb dX13_partner_78 (by decide) ?_
            refine lv_icmp_ne (tgt := 90) hx hb dX13_partner_80 (by decide) (fun _ => ?_) (fun c_70 => absurd c_70 (by decide))
            refine lv_aload_n hx hb dX13_partner_90 rfl (lv_at hl 1 rfl) ?_
            refine va_get (D := D) (ci := 13) (v := .ref z6) (C := RX13) (T := TX13) (N := 20) hx hb hg inG13 hown hK hP 0 rfl rfl 6 (by decide) (hg _ wd_176) (fun _ h9 => h9) rfl dX13_partner_91 ?_
            refine lv_aload_n hx hb dX13_partner_94 rfl (lv_at hl 1 rfl) ?_
            refine va_get (D := D) (ci := 13) (v := .int 0) (C := RX13) (T := TX13) (N := 20) hx hb hg inG13 hown hK hP 0 rfl rfl 3 (by decide) (hg _ wd_175) (fun _ h9 => h9) rfl dX13_partner_95 ?_
            refine lv_iload_n hx hb dX13_partner_98 rfl (lv_at hl 2 rfl) ?_
            refine va_iast hx hb hK hP hD hS 1 0 rfl rfl (by unfold vp_in; decide) dX13_partner_99 (fun H_71 locs hP hD hS => ?_)
            have hP : va_P D vwCl [(za, .inr (13, [.int 0, .ref z1, .int 0, .int 0, .int z4, .int z5, .ref z6, .ref z7, .ref z8, .ref z9, .int z10, .ref z11, .ref z12, .ref z13, .ref z14, .ref z15, .int z16, .ref z17, .int z18, .ref z19])), (z6, .inl (ca, 40, .inl (upd (fun _ => 0) (0 : Int32).toNatClampNeg k1))), (z7, .inl (cb, 40, .inl (fun _ => 0)))] H_71 := hP
            have hD : va_D A [(za, .inr (13, [.int 0, .ref z1, .int 0, .int 0, .int z4, .int z5, .ref z6, .ref z7, .ref z8, .ref z9, .int z10, .ref z11, .ref z12, .ref z13, .ref z14, .ref z15, .int z16, .ref z17, .int z18, .ref z19])), (z6, .inl (ca, 40, .inl (upd (fun _ => 0) (0 : Int32).toNatClampNeg k1))), (z7, .inl (cb, 40, .inl (fun _ => 0)))] := hD
            refine lv_aload_n hx hb dX13_partner_100 rfl (lv_at hl 1 rfl) ?_
            refine va_get (D := D) (ci := 13) (v := .ref z7) (C := RX13) (T := TX13) (N := 20) hx hb hg inG13 hown hK hP 0 rfl rfl 7 (by decide) (hg _ wd_177) (fun _ h9 => h9) rfl dX13_partner_101 ?_
            refine lv_aload_n hx hb dX13_partner_104 rfl (lv_at hl 1 rfl) ?_
            refine va_get (D := D) (ci := 13) (v := .int 0) (C := RX13) (T := TX13) (N := 20) hx hb hg inG13 hown hK hP 0 rfl rfl 3 (by decide) (hg _ wd_175) (fun _ h9 => h9) rfl dX13_partner_105 ?_
            refine lv_iload_n hx hb dX13_partner_108 rfl (lv_at hl 3 rfl) ?_
            refine va_iast hx hb hK hP hD hS 2 1 rfl rfl (by unfold vp_in; decide) dX13_partner_109 (fun H_72 locs hP hD hS => ?_)
            have hP : va_P D vwCl [(za, .inr (13, [.int 0, .ref z1, .int 0, .int 0, .int z4, .int z5, .ref z6, .ref z7, .ref z8, .ref z9, .int z10, .ref z11, .ref z12, .ref z13, .ref z14, .ref z15, .int z16, .ref z17, .int z18, .ref z19])), (z6, .inl (ca, 40, .inl (upd (fun _ => 0) (0 : Int32).toNatClampNeg k1))), (z7, .inl (cb, 40, .inl (upd (fun _ => 0) (0 : Int32).toNatClampNeg k2)))] H_72 := hP
            have hD : va_D A [(za, .inr (13, [.int 0, .ref z1, .int 0, .int 0, .int z4, .int z5, .ref z6, .ref z7, .ref z8, .ref z9, .int z10, .ref z11, .ref z12, .ref z13, .ref z14, .ref z15, .int z16, .ref z17, .int z18, .ref z19])), (z6, .inl (ca, 40, .inl (upd (fun _ => 0) (0 : Int32).toNatClampNeg k1))), (z7, .inl (cb, 40, .inl (upd (fun _ => 0) (0 : Int32).toNatClampNeg k2)))] := hD
            refine lv_aload_n hx hb dX13_partner_110 rfl (lv_at hl 1 rfl) ?_
            refine lv_dup hx hb dX13_partner_111 rfl ?_
            refine va_get (D := D) (ci := 13) (v := .int 0) (C := RX13) (T := TX13) (N := 20) hx hb hg inG13 hown hK hP 0 rfl rfl 3 (by decide) (hg _ wd_175) (fun _ h9 => h9) rfl dX13_partner_112 ?_
            refine lv_iconst (v := 1) hx hb dX13_partner_115 (by decide) ?_
            refine lv_iadd hx hb dX13_partner_116 ?_
            refine lv_topi (fun f_73 ef_73 => ?_)
            obtain rfl : f_73 = 1 := by rw [ef_73]; decide
            refine va_put (D := D) (ci := 13) (v := .int 1) (ty := .int) (C := RX13) (T := TX13) (N := 20) hx hb hg inG13 tyX13 tyX13_ok nmX13 hown hK hP hD hS 0 rfl rfl 3 (by decide) (hg _ wd_175) (fun _ h9 => h9) rfl (by decide +kernel) rfl rfl (Nat.le_of_ble_eq_true rfl) dX13_partner_117 (fun H_74 locs hP hD hS => ?_)
            have hP : va_P D vwCl [(za, .inr (13, [.int 0, .ref z1, .int 0, .int 1, .int z4, .int z5, .ref z6, .ref z7, .ref z8, .ref z9, .int z10, .ref z11, .ref z12, .ref z13, .ref z14, .ref z15, .int z16, .ref z17, .int z18, .ref z19])), (z6, .inl (ca, 40, .inl (upd (fun _ => 0) (0 : Int32).toNatClampNeg k1))), (z7, .inl (cb, 40, .inl (upd (fun _ => 0) (0 : Int32).toNatClampNeg k2)))] H_74 := hP
            have hD : va_D A [(za, .inr (13, [.int 0, .ref z1, .int 0, .int 1, .int z4, .int z5, .ref z6, .ref z7, .ref z8, .ref z9, .int z10, .ref z11, .ref z12, .ref z13, .ref z14, .ref z15, .int z16, .ref z17, .int z18, .ref z19])), (z6, .inl (ca, 40, .inl (upd (fun _ => 0) (0 : Int32).toNatClampNeg k1))), (z7, .inl (cb, 40, .inl (upd (fun _ => 0) (0 : Int32).toNatClampNeg k2)))] := hD
            refine lv_aload_n hx hb dX13_partner_120 rfl (lv_at hl 1 rfl) ?_
            refine lv_aload_n hx hb dX13_partner_121 rfl (lv_at hl 1 rfl) ?_
            refine va_get (D := D) (ci := 13) (v := .int 1) (C := RX13) (T := TX13) (N := 20) hx hb hg inG13 hown hK hP 0 rfl rfl 3 (by decide) (hg _ wd_175) (fun _ h9 => h9) rfl dX13_partner_122 ?_
            refine lv_iconst (v := 1) hx hb dX13_partner_125 (by decide) ?_
            refine lv_isub hx hb dX13_partner_126 ?_
            refine lv_topi (fun f_75 ef_75 => ?_)
            obtain rfl : f_75 = 0 := by rw [ef_75]; decide
            have hPc := hP.sub (ws' := [(za, .inr (13, [.int 0, .ref z1, .int 0, .int 1, .int z4, .int z5, .ref z6, .ref z7, .ref z8, .ref z9, .int z10, .ref z11, .ref z12, .ref z13, .ref z14, .ref z15, .int z16, .ref z17, .int z18, .ref z19]))]) [0] rfl
            have hDc := hD.sub (ws' := [(za, .inr (13, [.int 0, .ref z1, .int 0, .int 1, .int z4, .int z5, .ref z6, .ref z7, .ref z8, .ref z9, .int z10, .ref z11, .ref z12, .ref z13, .ref z14, .ref z15, .int z16, .ref z17, .int z18, .ref z19]))]) [0] (by decide) rfl
            have hKc := hK.sub (tys' := []) [] rfl
            have hFc := va_free (wc := [(za, .inr (13, [.int 0, .ref z1, .int 0, .int 1, .int z4, .int z5, .ref z6, .ref z7, .ref z8, .ref z9, .int z10, .ref z11, .ref z12, .ref z13, .ref z14, .ref z15, .int z16, .ref z17, .int z18, .ref z19]))]) hD hS hA [0] rfl
            refine va_calli (va_runV (As := [.int 0]) (rest := []) ⟨hx, hb, hml, hown, hg⟩ (m_done l D H_74.size za 0 z1 0 1 z4 z5 z6 z7 z8 z9 z10 z11 z12 z13 z14 z15 z16 z17 z18 z19 0) (cwV 1 hg (gV wd_170 wd_171 wd_172 wd_147 wd_173) rfl rfl rfl (by decide +kernel) ⟨(Nat.le_of_ble_eq_true rfl), (Nat.le_of_ble_eq_true rfl)⟩) ⟨Pr.blind, va_recv hKc hPc (ci := 13) (q0 := 0) rfl rfl, fun U hU hW => ⟨rfl, Pr.at hPc hKc hDc hN hU hW⟩⟩ rfl rfl hl.1 rfl (lv_room (Nat.le_of_ble_eq_true rfl)) dX13_partner_127 ⟨(Nat.le_of_ble_eq_true rfl), (Nat.le_of_ble_eq_true rfl)⟩) hS (fun q _ h => hFc q h) hFc (fun r_77 u t H_76 locs ht hvm hw hB hz1 hk1 hS => ?_)
            obtain ⟨hP1, hK1, hD1⟩ := hB
            rw [ht] at hP1
            have hK1 := va_K.moved hvm.symm hK1
            obtain ⟨hP, hD⟩ := va_join (wr := [(z6, .inl (ca, 40, .inl (upd (fun _ => 0) (0 : Int32).toNatClampNeg k1))), (z7, .inl (cb, 40, .inl (upd (fun _ => 0) (0 : Int32).toNatClampNeg k2)))]) (w1 := [(za, .inr (13, [.int 0, .ref z1, .int 0, .int 1, .int 0, .int (-1), .ref z6, .ref z7, .ref z8, .ref z9, .int z10, .ref z11, .ref z12, .ref z13, .ref z14, .ref z15, .int z16, .ref z17, .int z18, .ref z19]))]) hP hD [0] [1, 2] rfl rfl (by decide) (by decide) hk1 hFc hP1 hD1
            have hP : va_P D vwCl [(z6, .inl (ca, 40, .inl (upd (fun _ => 0) (0 : Int32).toNatClampNeg k1))), (z7, .inl (cb, 40, .inl (upd (fun _ => 0) (0 : Int32).toNatClampNeg k2))), (za, .inr (13, [.int 0, .ref z1, .int 0, .int 1, .int 0, .int (-1), .ref z6, .ref z7, .ref z8, .ref z9, .int z10, .ref z11, .ref z12, .ref z13, .ref z14, .ref z15, .int z16, .ref z17, .int z18, .ref z19]))] H_76 := hP
            have hD : va_D A [(z6, .inl (ca, 40, .inl (upd (fun _ => 0) (0 : Int32).toNatClampNeg k1))), (z7, .inl (cb, 40, .inl (upd (fun _ => 0) (0 : Int32).toNatClampNeg k2))), (za, .inr (13, [.int 0, .ref z1, .int 0, .int 1, .int 0, .int (-1), .ref z6, .ref z7, .ref z8, .ref z9, .int z10, .ref z11, .ref z12, .ref z13, .ref z14, .ref z15, .int z16, .ref z17, .int z18, .ref z19]))] := hD
            subst hw
            exact W.iret (v := 0) hx hb hr (fun t ht hW => ⟨⟨0, (), rfl, by simp [ansPartner, limK, c_2, c_21, c_40, c_62, c_63, c_65, c_68, c_69], trivial⟩, hS.F ht⟩) hS.2.2 dX13_partner_130
          · refine lv_aload_n hx hb dX13_partner_49 rfl (lv_at hl 1 rfl) ?_
            refine lv_iconst (v := 2) hx hb dX13_partner_50 (by decide) ?_
            have hPc := hP.sub (ws' := [(za, .inr (13, [.int 0, .ref z1, .int 0, .int 0, .int z4, .int z5, .ref z6, .ref z7, .ref z8, .ref z9, .int z10, .ref z11, .ref z12, .ref z13, .ref z14, .ref z15, .int z16, .ref z17, .int z18, .ref z19]))]) [0] rfl
            have hDc := hD.sub (ws' := [(za, .inr (13, [.int 0, .ref z1, .int 0, .int 0, .int z4, .int z5, .ref z6, .ref z7, .ref z8, .ref z9, .int z10, .ref z11, .ref z12, .ref z13, .ref z14, .ref z15, .int z16, .ref z17, .int z18, .ref z19]))]) [0] (by decide) rfl
            have hKc := hK.sub (tys' := []) [] rfl
            have hFc := va_free (wc := [(za, .inr (13, [.int 0, .ref z1, .int 0, .int 0, .int z4, .int z5, .ref z6, .ref z7, .ref z8, .ref z9, .int z10, .ref z11, .ref z12, .ref z13, .ref z14, .ref z15, .int z16, .ref z17, .int z18, .ref z19]))]) hD hS hA [0] rfl
            refine va_calli (va_runV (As := [.int 2]) (rest := []) ⟨hx, hb, hml, hown, hg⟩ (m_refused l D H_1.size za 0 z1 0 0 z4 z5 z6 z7 z8 z9 z10 z11 z12 z13 z14 z15 z16 z17 z18 z19 2) (cwV 1 hg (gV wd_150 wd_151 wd_152 wd_147 wd_153) rfl rfl rfl (by decide +kernel) ⟨(Nat.le_of_ble_eq_true rfl), (Nat.le_of_ble_eq_true rfl)⟩) ⟨Pr.blind, va_recv hKc hPc (ci := 13) (q0 := 0) rfl rfl, fun U hU hW => ⟨rfl, Pr.at hPc hKc hDc hN hU hW⟩⟩ rfl rfl hl.1 rfl (lv_room (Nat.le_of_ble_eq_true rfl)) dX13_partner_51 ⟨(Nat.le_of_ble_eq_true rfl), (Nat.le_of_ble_eq_true rfl)⟩) hS (fun q _ h => hFc q h) hFc (fun r_79 u t H_78 locs ht hvm hw hB hz1 hk1 hS => ?_)
            obtain ⟨hP1, hK1, hD1⟩ := hB
            rw [ht] at hP1
            have hK1 := va_K.moved hvm.symm hK1
            obtain ⟨hP, hD⟩ := va_join (wr := [(z6, .inl (ca, 40, .inl (fun _ => 0))), (z7, .inl (cb, 40, .inl (fun _ => 0)))]) (w1 := [(za, .inr (13, [.int 0, .ref z1, .int 0, .int 0, .int 2, .int (-1), .ref z6, .ref z7, .ref z8, .ref z9, .int z10, .ref z11, .ref z12, .ref z13, .ref z14, .ref z15, .int z16, .ref z17, .int z18, .ref z19]))]) hP hD [0] [1, 2] rfl rfl (by decide) (by decide) hk1 hFc hP1 hD1
            have hP : va_P D vwCl [(z6, .inl (ca, 40, .inl (fun _ => 0))), (z7, .inl (cb, 40, .inl (fun _ => 0))), (za, .inr (13, [.int 0, .ref z1, .int 0, .int 0, .int 2, .int (-1), .ref z6, .ref z7, .ref z8, .ref z9, .int z10, .ref z11, .ref z12, .ref z13, .ref z14, .ref z15, .int z16, .ref z17, .int z18, .ref z19]))] H_78 := hP
            have hD : va_D A [(z6, .inl (ca, 40, .inl (fun _ => 0))), (z7, .inl (cb, 40, .inl (fun _ => 0))), (za, .inr (13, [.int 0, .ref z1, .int 0, .int 0, .int 2, .int (-1), .ref z6, .ref z7, .ref z8, .ref z9, .int z10, .ref z11, .ref z12, .ref z13, .ref z14, .ref z15, .int z16, .ref z17, .int z18, .ref z19]))] := hD
            subst hw
            exact W.iret (v := (-1)) hx hb hr (fun t ht hW => ⟨⟨(-1), (), rfl, by simp [ansPartner, limK, c_2, c_21, c_40, c_62, c_63, c_65, c_68], trivial⟩, hS.F ht⟩) hS.2.2 dX13_partner_54
