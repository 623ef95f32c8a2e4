theorem dX5_forget_0 : decode cX5_forget 0 = .ok (.aload_n 0, 1) := by decide +kernel
theorem dX5_forget_1 : decode cX5_forget 1 = .ok (.iconst 0, 1) := by decide +kernel
theorem dX5_forget_2 : decode cX5_forget 2 = .ok (.putfield 18, 3) := by decide +kernel
theorem dX5_forget_5 : decode cX5_forget 5 = .ok (.return_, 1) := by decide +kernel
theorem dX5_houseAtStep_0 : decode cX5_houseAtStep 0 = .ok (.iload_n 1, 1) := by decide +kernel
theorem dX5_houseAtStep_1 : decode cX5_houseAtStep 1 = .ok (.ifCond .lt 26, 3) := by decide +kernel
theorem dX5_houseAtStep_4 : decode cX5_houseAtStep 4 = .ok (.iload_n 1, 1) := by decide +kernel
theorem dX5_houseAtStep_5 : decode cX5_houseAtStep 5 = .ok (.aload_n 0, 1) := by decide +kernel
theorem dX5_houseAtStep_6 : decode cX5_houseAtStep 6 = .ok (.getfield 18, 3) := by decide +kernel
theorem dX5_houseAtStep_9 : decode cX5_houseAtStep 9 = .ok (.if_icmp .ge 18, 3) := by decide +kernel
theorem dX5_houseAtStep_27 : decode cX5_houseAtStep 27 = .ok (.iconst (-1), 1) := by decide +kernel
theorem dX5_houseAtStep_28 : decode cX5_houseAtStep 28 = .ok (.ireturn, 1) := by decide +kernel
theorem dX11_letter_0 : decode cX11_letter 0 = .ok (.aload_n 0, 1) := by decide +kernel
theorem dX11_letter_1 : decode cX11_letter 1 = .ok (.iload_n 1, 1) := by decide +kernel
theorem dX11_letter_2 : decode cX11_letter 2 = .ok (.invokevirtual 65, 3) := by decide +kernel
theorem dX11_letter_5 : decode cX11_letter 5 = .ok (.astore 4, 2) := by decide +kernel
theorem dX11_letter_7 : decode cX11_letter 7 = .ok (.aload 4, 2) := by decide +kernel
theorem dX11_letter_9 : decode cX11_letter 9 = .ok (.ifnull 10, 3) := by decide +kernel
theorem dX11_letter_19 : decode cX11_letter 19 = .ok (.aload_n 0, 1) := by decide +kernel
theorem dX11_letter_20 : decode cX11_letter 20 = .ok (.iconst 1, 1) := by decide +kernel
theorem dX11_letter_21 : decode cX11_letter 21 = .ok (.invokevirtual 47, 3) := by decide +kernel
theorem dX11_letter_24 : decode cX11_letter 24 = .ok (.ireturn, 1) := by decide +kernel
theorem dX11_unseal_0 : decode cX11_unseal 0 = .ok (.aload_n 0, 1) := by decide +kernel
theorem dX11_unseal_1 : decode cX11_unseal 1 = .ok (.iload_n 1, 1) := by decide +kernel
theorem dX11_unseal_2 : decode cX11_unseal 2 = .ok (.invokevirtual 65, 3) := by decide +kernel
theorem dX11_unseal_5 : decode cX11_unseal 5 = .ok (.astore_n 3, 1) := by decide +kernel
theorem dX11_unseal_6 : decode cX11_unseal 6 = .ok (.aload_n 3, 1) := by decide +kernel
theorem dX11_unseal_7 : decode cX11_unseal 7 = .ok (.ifnull 10, 3) := by decide +kernel
theorem dX11_unseal_17 : decode cX11_unseal 17 = .ok (.aload_n 0, 1) := by decide +kernel
theorem dX11_unseal_18 : decode cX11_unseal 18 = .ok (.iconst 1, 1) := by decide +kernel
theorem dX11_unseal_19 : decode cX11_unseal 19 = .ok (.invokevirtual 47, 3) := by decide +kernel
theorem dX11_unseal_22 : decode cX11_unseal 22 = .ok (.ireturn, 1) := by decide +kernel
theorem dX11_holds_0 : decode cX11_holds 0 = .ok (.aload_n 0, 1) := by decide +kernel
theorem dX11_holds_1 : decode cX11_holds 1 = .ok (.iload_n 1, 1) := by decide +kernel
theorem dX11_holds_2 : decode cX11_holds 2 = .ok (.invokevirtual 65, 3) := by decide +kernel
theorem dX11_holds_5 : decode cX11_holds 5 = .ok (.astore_n 3, 1) := by decide +kernel
theorem dX11_holds_6 : decode cX11_holds 6 = .ok (.aload_n 3, 1) := by decide +kernel
theorem dX11_holds_7 : decode cX11_holds 7 = .ok (.ifnull 10, 3) := by decide +kernel
theorem dX11_holds_17 : decode cX11_holds 17 = .ok (.aload_n 0, 1) := by decide +kernel
theorem dX11_holds_18 : decode cX11_holds 18 = .ok (.iconst 1, 1) := by decide +kernel
theorem dX11_holds_19 : decode cX11_holds 19 = .ok (.invokevirtual 47, 3) := by decide +kernel
theorem dX11_holds_22 : decode cX11_holds 22 = .ok (.ireturn, 1) := by decide +kernel
theorem dX11_join_0 : decode cX11_join 0 = .ok (.aload_n 0, 1) := by decide +kernel
theorem dX11_join_1 : decode cX11_join 1 = .ok (.getfield 31, 3) := by decide +kernel
theorem dX11_join_4 : decode cX11_join 4 = .ok (.invokevirtual 96, 3) := by decide +kernel
theorem dX11_join_7 : decode cX11_join 7 = .ok (.aload_n 0, 1) := by decide +kernel
theorem dX11_join_8 : decode cX11_join 8 = .ok (.iload_n 1, 1) := by decide +kernel
theorem dX11_join_9 : decode cX11_join 9 = .ok (.invokevirtual 65, 3) := by decide +kernel
theorem dX11_join_12 : decode cX11_join 12 = .ok (.astore 6, 2) := by decide +kernel
theorem dX11_join_14 : decode cX11_join 14 = .ok (.aload_n 0, 1) := by decide +kernel
theorem dX11_join_15 : decode cX11_join 15 = .ok (.iload_n 3, 1) := by decide +kernel
theorem dX11_join_16 : decode cX11_join 16 = .ok (.invokevirtual 99, 3) := by decide +kernel
theorem dX11_join_19 : decode cX11_join 19 = .ok (.astore 7, 2) := by decide +kernel
theorem dX11_join_21 : decode cX11_join 21 = .ok (.aload 6, 2) := by decide +kernel
theorem dX11_join_23 : decode cX11_join 23 = .ok (.ifnull 15, 3) := by decide +kernel
theorem dX11_join_38 : decode cX11_join 38 = .ok (.aload_n 0, 1) := by decide +kernel
theorem dX11_join_39 : decode cX11_join 39 = .ok (.iconst 1, 1) := by decide +kernel
theorem dX11_join_40 : decode cX11_join 40 = .ok (.invokevirtual 47, 3) := by decide +kernel
theorem dX11_join_43 : decode cX11_join 43 = .ok (.ireturn, 1) := by decide +kernel
theorem dX11_leave_0 : decode cX11_leave 0 = .ok (.aload_n 0, 1) := by decide +kernel
theorem dX11_leave_1 : decode cX11_leave 1 = .ok (.iload_n 1, 1) := by decide +kernel
theorem dX11_leave_2 : decode cX11_leave 2 = .ok (.invokevirtual 65, 3) := by decide +kernel
theorem dX11_leave_5 : decode cX11_leave 5 = .ok (.astore 6, 2) := by decide +kernel
theorem dX11_leave_7 : decode cX11_leave 7 = .ok (.aload 6, 2) := by decide +kernel
theorem dX11_leave_9 : decode cX11_leave 9 = .ok (.ifnull 10, 3) := by decide +kernel
theorem dX11_leave_19 : decode cX11_leave 19 = .ok (.aload_n 0, 1) := by decide +kernel
theorem dX11_leave_20 : decode cX11_leave 20 = .ok (.iconst 1, 1) := by decide +kernel
theorem dX11_leave_21 : decode cX11_leave 21 = .ok (.invokevirtual 47, 3) := by decide +kernel
theorem dX11_leave_24 : decode cX11_leave 24 = .ok (.ireturn, 1) := by decide +kernel
theorem dX11_die_0 : decode cX11_die 0 = .ok (.aload_n 0, 1) := by decide +kernel
theorem dX11_die_1 : decode cX11_die 1 = .ok (.iload_n 1, 1) := by decide +kernel
theorem dX11_die_2 : decode cX11_die 2 = .ok (.invokevirtual 65, 3) := by decide +kernel
theorem dX11_die_5 : decode cX11_die 5 = .ok (.astore 5, 2) := by decide +kernel
theorem dX11_die_7 : decode cX11_die 7 = .ok (.aload_n 0, 1) := by decide +kernel
theorem dX11_die_8 : decode cX11_die 8 = .ok (.iload 4, 2) := by decide +kernel
theorem dX11_die_10 : decode cX11_die 10 = .ok (.invokevirtual 99, 3) := by decide +kernel
theorem dX11_die_13 : decode cX11_die 13 = .ok (.astore 6, 2) := by decide +kernel
theorem dX11_die_15 : decode cX11_die 15 = .ok (.aload 5, 2) := by decide +kernel
theorem dX11_die_17 : decode cX11_die 17 = .ok (.ifnull 15, 3) := by decide +kernel
theorem dX11_die_32 : decode cX11_die 32 = .ok (.aload_n 0, 1) := by decide +kernel
theorem dX11_die_33 : decode cX11_die 33 = .ok (.iconst 1, 1) := by decide +kernel
theorem dX11_die_34 : decode cX11_die 34 = .ok (.invokevirtual 47, 3) := by decide +kernel
theorem dX11_die_37 : decode cX11_die 37 = .ok (.ireturn, 1) := by decide +kernel
theorem dX11_circle_0 : decode cX11_circle 0 = .ok (.aload_n 0, 1) := by decide +kernel
theorem dX11_circle_1 : decode cX11_circle 1 = .ok (.getfield 31, 3) := by decide +kernel
theorem dX11_circle_4 : decode cX11_circle 4 = .ok (.iload_n 1, 1) := by decide +kernel
theorem dX11_circle_5 : decode cX11_circle 5 = .ok (.invokevirtual 146, 3) := by decide +kernel
theorem dX11_circle_8 : decode cX11_circle 8 = .ok (.ireturn, 1) := by decide +kernel
theorem dX11_rule_0 : decode cX11_rule 0 = .ok (.aload_n 0, 1) := by decide +kernel
theorem dX11_rule_1 : decode cX11_rule 1 = .ok (.iload_n 1, 1) := by decide +kernel
theorem dX11_rule_2 : decode cX11_rule 2 = .ok (.invokevirtual 65, 3) := by decide +kernel
theorem dX11_rule_5 : decode cX11_rule 5 = .ok (.astore_n 3, 1) := by decide +kernel
theorem dX11_rule_6 : decode cX11_rule 6 = .ok (.aload_n 3, 1) := by decide +kernel
theorem dX11_rule_7 : decode cX11_rule 7 = .ok (.ifnonnull 9, 3) := by decide +kernel
theorem dX11_rule_10 : decode cX11_rule 10 = .ok (.aload_n 0, 1) := by decide +kernel
theorem dX11_rule_11 : decode cX11_rule 11 = .ok (.iconst 1, 1) := by decide +kernel
theorem dX11_rule_12 : decode cX11_rule 12 = .ok (.invokevirtual 47, 3) := by decide +kernel
theorem dX11_rule_15 : decode cX11_rule 15 = .ok (.ireturn, 1) := by decide +kernel
theorem dX11_term_0 : decode cX11_term 0 = .ok (.aload_n 0, 1) := by decide +kernel
theorem dX11_term_1 : decode cX11_term 1 = .ok (.iload_n 1, 1) := by decide +kernel
theorem dX11_term_2 : decode cX11_term 2 = .ok (.invokevirtual 65, 3) := by decide +kernel
theorem dX11_term_5 : decode cX11_term 5 = .ok (.astore 5, 2) := by decide +kernel
theorem dX11_term_7 : decode cX11_term 7 = .ok (.aload 5, 2) := by decide +kernel
theorem dX11_term_9 : decode cX11_term 9 = .ok (.ifnonnull 7, 3) := by decide +kernel
theorem dX11_term_12 : decode cX11_term 12 = .ok (.aconst_null, 1) := by decide +kernel
theorem dX11_term_13 : decode cX11_term 13 = .ok (.goto 8, 3) := by decide +kernel
theorem dX11_term_21 : decode cX11_term 21 = .ok (.astore 6, 2) := by decide +kernel
theorem dX11_term_23 : decode cX11_term 23 = .ok (.aload 5, 2) := by decide +kernel
theorem dX11_term_25 : decode cX11_term 25 = .ok (.ifnull 20, 3) := by decide +kernel
theorem dX11_term_45 : decode cX11_term 45 = .ok (.aload_n 0, 1) := by decide +kernel
theorem dX11_term_46 : decode cX11_term 46 = .ok (.iconst 1, 1) := by decide +kernel
theorem dX11_term_47 : decode cX11_term 47 = .ok (.invokevirtual 47, 3) := by decide +kernel
theorem dX11_term_50 : decode cX11_term 50 = .ok (.ireturn, 1) := by decide +kernel
theorem dX11_leaf_0 : decode cX11_leaf 0 = .ok (.aload_n 0, 1) := by decide +kernel
theorem dX11_leaf_1 : decode cX11_leaf 1 = .ok (.iload_n 1, 1) := by decide +kernel
theorem dX11_leaf_2 : decode cX11_leaf 2 = .ok (.invokevirtual 65, 3) := by decide +kernel
theorem dX11_leaf_5 : decode cX11_leaf 5 = .ok (.astore 5, 2) := by decide +kernel
theorem dX11_leaf_7 : decode cX11_leaf 7 = .ok (.aload 5, 2) := by decide +kernel
theorem dX11_leaf_9 : decode cX11_leaf 9 = .ok (.ifnonnull 9, 3) := by decide +kernel
theorem dX11_leaf_12 : decode cX11_leaf 12 = .ok (.aload_n 0, 1) := by decide +kernel
theorem dX11_leaf_13 : decode cX11_leaf 13 = .ok (.iconst 1, 1) := by decide +kernel
theorem dX11_leaf_14 : decode cX11_leaf 14 = .ok (.invokevirtual 47, 3) := by decide +kernel
theorem dX11_leaf_17 : decode cX11_leaf 17 = .ok (.ireturn, 1) := by decide +kernel
theorem dX11_tear_0 : decode cX11_tear 0 = .ok (.aload_n 0, 1) := by decide +kernel
theorem dX11_tear_1 : decode cX11_tear 1 = .ok (.iload_n 1, 1) := by decide +kernel
theorem dX11_tear_2 : decode cX11_tear 2 = .ok (.invokevirtual 65, 3) := by decide +kernel
theorem dX11_tear_5 : decode cX11_tear 5 = .ok (.astore_n 3, 1) := by decide +kernel
theorem dX11_tear_6 : decode cX11_tear 6 = .ok (.aload_n 3, 1) := by decide +kernel
theorem dX11_tear_7 : decode cX11_tear 7 = .ok (.ifnonnull 9, 3) := by decide +kernel
theorem dX11_tear_10 : decode cX11_tear 10 = .ok (.aload_n 0, 1) := by decide +kernel
theorem dX11_tear_11 : decode cX11_tear 11 = .ok (.iconst 1, 1) := by decide +kernel
theorem dX11_tear_12 : decode cX11_tear 12 = .ok (.invokevirtual 47, 3) := by decide +kernel
theorem dX11_tear_15 : decode cX11_tear 15 = .ok (.ireturn, 1) := by decide +kernel
theorem dX11_earn_0 : decode cX11_earn 0 = .ok (.aload_n 0, 1) := by decide +kernel
theorem dX11_earn_1 : decode cX11_earn 1 = .ok (.iload_n 1, 1) := by decide +kernel
theorem dX11_earn_2 : decode cX11_earn 2 = .ok (.iload_n 2, 1) := by decide +kernel
theorem dX11_earn_3 : decode cX11_earn 3 = .ok (.iload_n 3, 1) := by decide +kernel
theorem dX11_earn_4 : decode cX11_earn 4 = .ok (.iconst 1, 1) := by decide +kernel
theorem dX11_earn_5 : decode cX11_earn 5 = .ok (.invokevirtual 203, 3) := by decide +kernel
theorem dX11_earn_8 : decode cX11_earn 8 = .ok (.ireturn, 1) := by decide +kernel
theorem dX11_spend_0 : decode cX11_spend 0 = .ok (.aload_n 0, 1) := by decide +kernel
theorem dX11_spend_1 : decode cX11_spend 1 = .ok (.iload_n 1, 1) := by decide +kernel
theorem dX11_spend_2 : decode cX11_spend 2 = .ok (.iload_n 2, 1) := by decide +kernel
theorem dX11_spend_3 : decode cX11_spend 3 = .ok (.iload_n 3, 1) := by decide +kernel
theorem dX11_spend_4 : decode cX11_spend 4 = .ok (.iconst (-1), 1) := by decide +kernel
theorem dX11_spend_5 : decode cX11_spend 5 = .ok (.invokevirtual 203, 3) := by decide +kernel
theorem dX11_spend_8 : decode cX11_spend 8 = .ok (.ireturn, 1) := by decide +kernel
theorem dX11_loose_0 : decode cX11_loose 0 = .ok (.aload_n 0, 1) := by decide +kernel
theorem dX11_loose_1 : decode cX11_loose 1 = .ok (.iload_n 1, 1) := by decide +kernel
theorem dX11_loose_2 : decode cX11_loose 2 = .ok (.invokevirtual 65, 3) := by decide +kernel
theorem dX11_loose_5 : decode cX11_loose 5 = .ok (.astore_n 3, 1) := by decide +kernel
theorem dX11_loose_6 : decode cX11_loose 6 = .ok (.aload_n 3, 1) := by decide +kernel
theorem dX11_loose_7 : decode cX11_loose 7 = .ok (.ifnonnull 9, 3) := by decide +kernel
theorem dX11_loose_10 : decode cX11_loose 10 = .ok (.aload_n 0, 1) := by decide +kernel
theorem dX11_loose_11 : decode cX11_loose 11 = .ok (.iconst 1, 1) := by decide +kernel
theorem dX11_loose_12 : decode cX11_loose 12 = .ok (.invokevirtual 47, 3) := by decide +kernel
theorem dX11_loose_15 : decode cX11_loose 15 = .ok (.ireturn, 1) := by decide +kernel
theorem dX11_move_0 : decode cX11_move 0 = .ok (.aload_n 0, 1) := by decide +kernel
theorem dX11_move_1 : decode cX11_move 1 = .ok (.iload_n 1, 1) := by decide +kernel
theorem dX11_move_2 : decode cX11_move 2 = .ok (.invokevirtual 65, 3) := by decide +kernel
theorem dX11_move_5 : decode cX11_move 5 = .ok (.astore 6, 2) := by decide +kernel
theorem dX11_move_7 : decode cX11_move 7 = .ok (.aload 6, 2) := by decide +kernel
theorem dX11_move_9 : decode cX11_move 9 = .ok (.ifnonnull 7, 3) := by decide +kernel
theorem dX11_move_12 : decode cX11_move 12 = .ok (.aconst_null, 1) := by decide +kernel
theorem dX11_move_13 : decode cX11_move 13 = .ok (.goto 9, 3) := by decide +kernel
theorem dX11_move_22 : decode cX11_move 22 = .ok (.astore 7, 2) := by decide +kernel
theorem dX11_move_24 : decode cX11_move 24 = .ok (.aload 6, 2) := by decide +kernel
theorem dX11_move_26 : decode cX11_move 26 = .ok (.ifnull 8, 3) := by decide +kernel
theorem dX11_move_34 : decode cX11_move 34 = .ok (.aload_n 0, 1) := by decide +kernel
theorem dX11_move_35 : decode cX11_move 35 = .ok (.iconst 1, 1) := by decide +kernel
theorem dX11_move_36 : decode cX11_move 36 = .ok (.invokevirtual 47, 3) := by decide +kernel
theorem dX11_move_39 : decode cX11_move 39 = .ok (.ireturn, 1) := by decide +kernel
theorem dX11_lend_0 : decode cX11_lend 0 = .ok (.aload_n 0, 1) := by decide +kernel
theorem dX11_lend_1 : decode cX11_lend 1 = .ok (.iload_n 1, 1) := by decide +kernel
theorem dX11_lend_2 : decode cX11_lend 2 = .ok (.invokevirtual 65, 3) := by decide +kernel
theorem dX11_lend_5 : decode cX11_lend 5 = .ok (.astore 5, 2) := by decide +kernel
theorem dX11_lend_7 : decode cX11_lend 7 = .ok (.aload 5, 2) := by decide +kernel
theorem dX11_lend_9 : decode cX11_lend 9 = .ok (.ifnonnull 7, 3) := by decide +kernel
theorem dX11_lend_12 : decode cX11_lend 12 = .ok (.aconst_null, 1) := by decide +kernel
theorem dX11_lend_13 : decode cX11_lend 13 = .ok (.goto 9, 3) := by decide +kernel
theorem dX11_lend_22 : decode cX11_lend 22 = .ok (.astore 6, 2) := by decide +kernel
theorem dX11_lend_24 : decode cX11_lend 24 = .ok (.aload 6, 2) := by decide +kernel
theorem dX11_lend_26 : decode cX11_lend 26 = .ok (.ifnonnull 9, 3) := by decide +kernel
theorem dX11_lend_29 : decode cX11_lend 29 = .ok (.aload_n 0, 1) := by decide +kernel
theorem dX11_lend_30 : decode cX11_lend 30 = .ok (.iconst 1, 1) := by decide +kernel
theorem dX11_lend_31 : decode cX11_lend 31 = .ok (.invokevirtual 47, 3) := by decide +kernel
theorem dX11_lend_34 : decode cX11_lend 34 = .ok (.ireturn, 1) := by decide +kernel
theorem dX11_undo_0 : decode cX11_undo 0 = .ok (.aload_n 0, 1) := by decide +kernel
theorem dX11_undo_1 : decode cX11_undo 1 = .ok (.iload_n 1, 1) := by decide +kernel
theorem dX11_undo_2 : decode cX11_undo 2 = .ok (.invokevirtual 65, 3) := by decide +kernel
theorem dX11_undo_5 : decode cX11_undo 5 = .ok (.astore_n 2, 1) := by decide +kernel
theorem dX11_undo_6 : decode cX11_undo 6 = .ok (.aload_n 2, 1) := by decide +kernel
theorem dX11_undo_7 : decode cX11_undo 7 = .ok (.ifnonnull 9, 3) := by decide +kernel
theorem dX11_undo_10 : decode cX11_undo 10 = .ok (.aload_n 0, 1) := by decide +kernel
theorem dX11_undo_11 : decode cX11_undo 11 = .ok (.iconst 1, 1) := by decide +kernel
theorem dX11_undo_12 : decode cX11_undo 12 = .ok (.invokevirtual 47, 3) := by decide +kernel
theorem dX11_undo_15 : decode cX11_undo 15 = .ok (.ireturn, 1) := by decide +kernel
theorem dX11_end_0 : decode cX11_end 0 = .ok (.aload_n 0, 1) := by decide +kernel
theorem dX11_end_1 : decode cX11_end 1 = .ok (.iload_n 1, 1) := by decide +kernel
theorem dX11_end_2 : decode cX11_end 2 = .ok (.invokevirtual 65, 3) := by decide +kernel
theorem dX11_end_5 : decode cX11_end 5 = .ok (.astore_n 3, 1) := by decide +kernel
theorem dX11_end_6 : decode cX11_end 6 = .ok (.aload_n 3, 1) := by decide +kernel
theorem dX11_end_7 : decode cX11_end 7 = .ok (.ifnonnull 9, 3) := by decide +kernel
theorem dX11_end_10 : decode cX11_end 10 = .ok (.aload_n 0, 1) := by decide +kernel
theorem dX11_end_11 : decode cX11_end 11 = .ok (.iconst 1, 1) := by decide +kernel
theorem dX11_end_12 : decode cX11_end 12 = .ok (.invokevirtual 47, 3) := by decide +kernel
theorem dX11_end_15 : decode cX11_end 15 = .ok (.ireturn, 1) := by decide +kernel
theorem dX11_close_0 : decode cX11_close 0 = .ok (.aload_n 0, 1) := by decide +kernel
theorem dX11_close_1 : decode cX11_close 1 = .ok (.iload_n 1, 1) := by decide +kernel
theorem dX11_close_2 : decode cX11_close 2 = .ok (.invokevirtual 65, 3) := by decide +kernel
theorem dX11_close_5 : decode cX11_close 5 = .ok (.astore_n 2, 1) := by decide +kernel
theorem dX11_close_6 : decode cX11_close 6 = .ok (.aload_n 2, 1) := by decide +kernel
theorem dX11_close_7 : decode cX11_close 7 = .ok (.ifnonnull 9, 3) := by decide +kernel
theorem dX11_close_10 : decode cX11_close 10 = .ok (.aload_n 0, 1) := by decide +kernel
theorem dX11_close_11 : decode cX11_close 11 = .ok (.iconst 1, 1) := by decide +kernel
theorem dX11_close_12 : decode cX11_close 12 = .ok (.invokevirtual 47, 3) := by decide +kernel
theorem dX11_close_15 : decode cX11_close 15 = .ok (.ireturn, 1) := by decide +kernel
theorem dX11_mend_0 : decode cX11_mend 0 = .ok (.aload_n 0, 1) := by decide +kernel
theorem dX11_mend_1 : decode cX11_mend 1 = .ok (.iload_n 1, 1) := by decide +kernel
theorem dX11_mend_2 : decode cX11_mend 2 = .ok (.invokevirtual 65, 3) := by decide +kernel
theorem dX11_mend_5 : decode cX11_mend 5 = .ok (.astore 4, 2) := by decide +kernel
theorem dX11_mend_7 : decode cX11_mend 7 = .ok (.aload 4, 2) := by decide +kernel
theorem dX11_mend_9 : decode cX11_mend 9 = .ok (.ifnonnull 9, 3) := by decide +kernel
theorem dX11_mend_12 : decode cX11_mend 12 = .ok (.aload_n 0, 1) := by decide +kernel
theorem dX11_mend_13 : decode cX11_mend 13 = .ok (.iconst 1, 1) := by decide +kernel
theorem dX11_mend_14 : decode cX11_mend 14 = .ok (.invokevirtual 47, 3) := by decide +kernel
theorem dX11_mend_17 : decode cX11_mend 17 = .ok (.ireturn, 1) := by decide +kernel
theorem dX11_hidden_0 : decode cX11_hidden 0 = .ok (.aload_n 0, 1) := by decide +kernel
theorem dX11_hidden_1 : decode cX11_hidden 1 = .ok (.iload_n 1, 1) := by decide +kernel
theorem dX11_hidden_2 : decode cX11_hidden 2 = .ok (.invokevirtual 65, 3) := by decide +kernel
theorem dX11_hidden_5 : decode cX11_hidden 5 = .ok (.astore 4, 2) := by decide +kernel
theorem dX11_hidden_7 : decode cX11_hidden 7 = .ok (.aload 4, 2) := by decide +kernel
theorem dX11_hidden_9 : decode cX11_hidden 9 = .ok (.ifnull 11, 3) := by decide +kernel
theorem dX11_hidden_20 : decode cX11_hidden 20 = .ok (.aload_n 0, 1) := by decide +kernel
theorem dX11_hidden_21 : decode cX11_hidden 21 = .ok (.iconst 1, 1) := by decide +kernel
theorem dX11_hidden_22 : decode cX11_hidden 22 = .ok (.invokevirtual 47, 3) := by decide +kernel
theorem dX11_hidden_25 : decode cX11_hidden 25 = .ok (.ireturn, 1) := by decide +kernel
theorem dX11_bear_0 : decode cX11_bear 0 = .ok (.aload_n 0, 1) := by decide +kernel
theorem dX11_bear_1 : decode cX11_bear 1 = .ok (.iload_n 1, 1) := by decide +kernel
theorem dX11_bear_2 : decode cX11_bear 2 = .ok (.invokevirtual 65, 3) := by decide +kernel
theorem dX11_bear_5 : decode cX11_bear 5 = .ok (.astore 4, 2) := by decide +kernel
theorem dX11_bear_7 : decode cX11_bear 7 = .ok (.aload 4, 2) := by decide +kernel
theorem dX11_bear_9 : decode cX11_bear 9 = .ok (.ifnull 11, 3) := by decide +kernel
theorem dX11_bear_20 : decode cX11_bear 20 = .ok (.aload_n 0, 1) := by decide +kernel
theorem dX11_bear_21 : decode cX11_bear 21 = .ok (.iconst 1, 1) := by decide +kernel
theorem dX11_bear_22 : decode cX11_bear 22 = .ok (.invokevirtual 47, 3) := by decide +kernel
theorem dX11_bear_25 : decode cX11_bear 25 = .ok (.ireturn, 1) := by decide +kernel
theorem dX11_borne_0 : decode cX11_borne 0 = .ok (.iload_n 1, 1) := by decide +kernel
theorem dX11_borne_1 : decode cX11_borne 1 = .ok (.iconst (-1), 1) := by decide +kernel
theorem dX11_borne_2 : decode cX11_borne 2 = .ok (.if_icmp .ne 8, 3) := by decide +kernel
theorem dX11_borne_5 : decode cX11_borne 5 = .ok (.aload_n 0, 1) := by decide +kernel
theorem dX11_borne_6 : decode cX11_borne 6 = .ok (.getfield 332, 3) := by decide +kernel
theorem dX11_borne_9 : decode cX11_borne 9 = .ok (.ireturn, 1) := by decide +kernel
theorem dX11_borne_10 : decode cX11_borne 10 = .ok (.iload_n 1, 1) := by decide +kernel
theorem dX11_borne_11 : decode cX11_borne 11 = .ok (.ifCond .lt 18, 3) := by decide +kernel
theorem dX11_borne_14 : decode cX11_borne 14 = .ok (.iload_n 1, 1) := by decide +kernel
theorem dX11_borne_15 : decode cX11_borne 15 = .ok (.bipush 24, 2) := by decide +kernel
theorem dX11_borne_17 : decode cX11_borne 17 = .ok (.if_icmp .ge 12, 3) := by decide +kernel
theorem dX11_borne_20 : decode cX11_borne 20 = .ok (.aload_n 0, 1) := by decide +kernel
theorem dX11_borne_21 : decode cX11_borne 21 = .ok (.getfield 35, 3) := by decide +kernel
theorem dX11_borne_24 : decode cX11_borne 24 = .ok (.iload_n 1, 1) := by decide +kernel
theorem dX11_borne_25 : decode cX11_borne 25 = .ok (.iaload, 1) := by decide +kernel
theorem dX11_borne_26 : decode cX11_borne 26 = .ok (.goto 4, 3) := by decide +kernel
theorem dX11_borne_29 : decode cX11_borne 29 = .ok (.iconst 0, 1) := by decide +kernel
theorem dX11_borne_30 : decode cX11_borne 30 = .ok (.ireturn, 1) := by decide +kernel
theorem dX11_account_0 : decode cX11_account 0 = .ok (.aload_n 0, 1) := by decide +kernel
theorem dX11_account_1 : decode cX11_account 1 = .ok (.iload_n 1, 1) := by decide +kernel
theorem dX11_account_2 : decode cX11_account 2 = .ok (.invokevirtual 65, 3) := by decide +kernel
theorem dX11_account_5 : decode cX11_account 5 = .ok (.astore 4, 2) := by decide +kernel
theorem dX11_account_7 : decode cX11_account 7 = .ok (.aload 4, 2) := by decide +kernel
theorem dX11_account_9 : decode cX11_account 9 = .ok (.ifnonnull 7, 3) := by decide +kernel
theorem dX11_account_12 : decode cX11_account 12 = .ok (.aconst_null, 1) := by decide +kernel
theorem dX11_account_13 : decode cX11_account 13 = .ok (.goto 9, 3) := by decide +kernel
theorem dX11_account_22 : decode cX11_account 22 = .ok (.astore 5, 2) := by decide +kernel
theorem dX11_account_24 : decode cX11_account 24 = .ok (.aload 5, 2) := by decide +kernel
theorem dX11_account_26 : decode cX11_account 26 = .ok (.ifnonnull 7, 3) := by decide +kernel
theorem dX11_account_29 : decode cX11_account 29 = .ok (.lconst 0, 1) := by decide +kernel
theorem dX11_account_30 : decode cX11_account 30 = .ok (.goto 9, 3) := by decide +kernel
theorem dX11_account_39 : decode cX11_account 39 = .ok (.lreturn, 1) := by decide +kernel
theorem dX11_tenure_0 : decode cX11_tenure 0 = .ok (.aload_n 0, 1) := by decide +kernel
theorem dX11_tenure_1 : decode cX11_tenure 1 = .ok (.iload_n 1, 1) := by decide +kernel
theorem dX11_tenure_2 : decode cX11_tenure 2 = .ok (.invokevirtual 65, 3) := by decide +kernel
theorem dX11_tenure_5 : decode cX11_tenure 5 = .ok (.astore 4, 2) := by decide +kernel
theorem dX11_tenure_7 : decode cX11_tenure 7 = .ok (.aload 4, 2) := by decide +kernel
theorem dX11_tenure_9 : decode cX11_tenure 9 = .ok (.ifnonnull 7, 3) := by decide +kernel
theorem dX11_tenure_12 : decode cX11_tenure 12 = .ok (.aconst_null, 1) := by decide +kernel
theorem dX11_tenure_13 : decode cX11_tenure 13 = .ok (.goto 9, 3) := by decide +kernel
theorem dX11_tenure_22 : decode cX11_tenure 22 = .ok (.astore 5, 2) := by decide +kernel
theorem dX11_tenure_24 : decode cX11_tenure 24 = .ok (.aload 5, 2) := by decide +kernel
theorem dX11_tenure_26 : decode cX11_tenure 26 = .ok (.ifnonnull 7, 3) := by decide +kernel
theorem dX11_tenure_29 : decode cX11_tenure 29 = .ok (.iconst (-1), 1) := by decide +kernel
theorem dX11_tenure_30 : decode cX11_tenure 30 = .ok (.goto 9, 3) := by decide +kernel
theorem dX11_tenure_39 : decode cX11_tenure 39 = .ok (.ireturn, 1) := by decide +kernel
theorem dX11_who_0 : decode cX11_who 0 = .ok (.aload_n 0, 1) := by decide +kernel
theorem dX11_who_1 : decode cX11_who 1 = .ok (.iload_n 1, 1) := by decide +kernel
theorem dX11_who_2 : decode cX11_who 2 = .ok (.invokevirtual 65, 3) := by decide +kernel
theorem dX11_who_5 : decode cX11_who 5 = .ok (.astore 4, 2) := by decide +kernel
theorem dX11_who_7 : decode cX11_who 7 = .ok (.aload 4, 2) := by decide +kernel
theorem dX11_who_9 : decode cX11_who 9 = .ok (.ifnull 17, 3) := by decide +kernel
theorem dX11_who_26 : decode cX11_who 26 = .ok (.iconst (-1), 1) := by decide +kernel
theorem dX11_who_27 : decode cX11_who 27 = .ok (.ireturn, 1) := by decide +kernel
theorem dX11_stretch_0 : decode cX11_stretch 0 = .ok (.aload_n 0, 1) := by decide +kernel
theorem dX11_stretch_1 : decode cX11_stretch 1 = .ok (.iload_n 1, 1) := by decide +kernel
theorem dX11_stretch_2 : decode cX11_stretch 2 = .ok (.invokevirtual 65, 3) := by decide +kernel
theorem dX11_stretch_5 : decode cX11_stretch 5 = .ok (.astore 4, 2) := by decide +kernel
theorem dX11_stretch_7 : decode cX11_stretch 7 = .ok (.aload 4, 2) := by decide +kernel
theorem dX11_stretch_9 : decode cX11_stretch 9 = .ok (.ifnonnull 7, 3) := by decide +kernel
theorem dX11_stretch_12 : decode cX11_stretch 12 = .ok (.aconst_null, 1) := by decide +kernel
theorem dX11_stretch_13 : decode cX11_stretch 13 = .ok (.goto 12, 3) := by decide +kernel
theorem dX11_stretch_25 : decode cX11_stretch 25 = .ok (.astore 5, 2) := by decide +kernel
theorem dX11_stretch_27 : decode cX11_stretch 27 = .ok (.aload 5, 2) := by decide +kernel
theorem dX11_stretch_29 : decode cX11_stretch 29 = .ok (.ifnonnull 7, 3) := by decide +kernel
theorem dX11_stretch_32 : decode cX11_stretch 32 = .ok (.lconst 0, 1) := by decide +kernel
theorem dX11_stretch_33 : decode cX11_stretch 33 = .ok (.goto 9, 3) := by decide +kernel
theorem dX11_stretch_42 : decode cX11_stretch 42 = .ok (.lreturn, 1) := by decide +kernel
theorem dX11_due_0 : decode cX11_due 0 = .ok (.aload_n 0, 1) := by decide +kernel
theorem dX11_due_1 : decode cX11_due 1 = .ok (.iload_n 1, 1) := by decide +kernel
theorem dX11_due_2 : decode cX11_due 2 = .ok (.invokevirtual 65, 3) := by decide +kernel
theorem dX11_due_5 : decode cX11_due 5 = .ok (.astore 4, 2) := by decide +kernel
theorem dX11_due_7 : decode cX11_due 7 = .ok (.aload 4, 2) := by decide +kernel
theorem dX11_due_9 : decode cX11_due 9 = .ok (.ifnonnull 7, 3) := by decide +kernel
theorem dX11_due_12 : decode cX11_due 12 = .ok (.aconst_null, 1) := by decide +kernel
theorem dX11_due_13 : decode cX11_due 13 = .ok (.goto 12, 3) := by decide +kernel
theorem dX11_due_25 : decode cX11_due 25 = .ok (.astore 5, 2) := by decide +kernel
theorem dX11_due_27 : decode cX11_due 27 = .ok (.aload 4, 2) := by decide +kernel
theorem dX11_due_29 : decode cX11_due 29 = .ok (.ifnonnull 7, 3) := by decide +kernel
theorem dX11_due_32 : decode cX11_due 32 = .ok (.aconst_null, 1) := by decide +kernel
theorem dX11_due_33 : decode cX11_due 33 = .ok (.goto 9, 3) := by decide +kernel
theorem dX11_due_42 : decode cX11_due 42 = .ok (.astore 6, 2) := by decide +kernel
theorem dX11_due_44 : decode cX11_due 44 = .ok (.aload 5, 2) := by decide +kernel
theorem dX11_due_46 : decode cX11_due 46 = .ok (.ifnull 8, 3) := by decide +kernel
theorem dX11_due_54 : decode cX11_due 54 = .ok (.lconst 0, 1) := by decide +kernel
theorem dX11_due_55 : decode cX11_due 55 = .ok (.goto 10, 3) := by decide +kernel
theorem dX11_due_65 : decode cX11_due 65 = .ok (.lreturn, 1) := by decide +kernel
theorem dX11_told_0 : decode cX11_told 0 = .ok (.aload_n 0, 1) := by decide +kernel
theorem dX11_told_1 : decode cX11_told 1 = .ok (.iload_n 1, 1) := by decide +kernel
theorem dX11_told_2 : decode cX11_told 2 = .ok (.invokevirtual 65, 3) := by decide +kernel
theorem dX11_told_5 : decode cX11_told 5 = .ok (.astore_n 3, 1) := by decide +kernel
theorem dX11_told_6 : decode cX11_told 6 = .ok (.aload_n 3, 1) := by decide +kernel
theorem dX11_told_7 : decode cX11_told 7 = .ok (.ifnonnull 7, 3) := by decide +kernel
theorem dX11_told_10 : decode cX11_told 10 = .ok (.iconst (-1), 1) := by decide +kernel
theorem dX11_told_11 : decode cX11_told 11 = .ok (.goto 8, 3) := by decide +kernel
theorem dX11_told_19 : decode cX11_told 19 = .ok (.ireturn, 1) := by decide +kernel
theorem dX11_sum_0 : decode cX11_sum 0 = .ok (.aload_n 0, 1) := by decide +kernel
theorem dX11_sum_1 : decode cX11_sum 1 = .ok (.iload_n 1, 1) := by decide +kernel
theorem dX11_sum_2 : decode cX11_sum 2 = .ok (.invokevirtual 65, 3) := by decide +kernel
theorem dX11_sum_5 : decode cX11_sum 5 = .ok (.astore 4, 2) := by decide +kernel
theorem dX11_sum_7 : decode cX11_sum 7 = .ok (.aload 4, 2) := by decide +kernel
theorem dX11_sum_9 : decode cX11_sum 9 = .ok (.ifnonnull 5, 3) := by decide +kernel
theorem dX11_sum_12 : decode cX11_sum 12 = .ok (.lconst 0, 1) := by decide +kernel
theorem dX11_sum_13 : decode cX11_sum 13 = .ok (.lreturn, 1) := by decide +kernel
theorem dX11_entry_0 : decode cX11_entry 0 = .ok (.aload_n 0, 1) := by decide +kernel
theorem dX11_entry_1 : decode cX11_entry 1 = .ok (.iload_n 1, 1) := by decide +kernel
theorem dX11_entry_2 : decode cX11_entry 2 = .ok (.invokevirtual 65, 3) := by decide +kernel
theorem dX11_entry_5 : decode cX11_entry 5 = .ok (.astore 4, 2) := by decide +kernel
theorem dX11_entry_7 : decode cX11_entry 7 = .ok (.aload 4, 2) := by decide +kernel
theorem dX11_entry_9 : decode cX11_entry 9 = .ok (.ifnonnull 7, 3) := by decide +kernel
theorem dX11_entry_12 : decode cX11_entry 12 = .ok (.aconst_null, 1) := by decide +kernel
theorem dX11_entry_13 : decode cX11_entry 13 = .ok (.goto 9, 3) := by decide +kernel
theorem dX11_entry_22 : decode cX11_entry 22 = .ok (.astore 5, 2) := by decide +kernel
theorem dX11_entry_24 : decode cX11_entry 24 = .ok (.aload 5, 2) := by decide +kernel
theorem dX11_entry_26 : decode cX11_entry 26 = .ok (.ifnonnull 7, 3) := by decide +kernel
theorem dX11_entry_29 : decode cX11_entry 29 = .ok (.lconst 0, 1) := by decide +kernel
theorem dX11_entry_30 : decode cX11_entry 30 = .ok (.goto 9, 3) := by decide +kernel
theorem dX11_entry_39 : decode cX11_entry 39 = .ok (.lreturn, 1) := by decide +kernel
theorem dX11_sheet_0 : decode cX11_sheet 0 = .ok (.iload_n 1, 1) := by decide +kernel
theorem dX11_sheet_1 : decode cX11_sheet 1 = .ok (.ifCond .lt 12, 3) := by decide +kernel
theorem dX11_sheet_4 : decode cX11_sheet 4 = .ok (.iload_n 1, 1) := by decide +kernel
theorem dX11_sheet_5 : decode cX11_sheet 5 = .ok (.aload_n 0, 1) := by decide +kernel
theorem dX11_sheet_6 : decode cX11_sheet 6 = .ok (.getfield 39, 3) := by decide +kernel
theorem dX11_sheet_9 : decode cX11_sheet 9 = .ok (.arraylength, 1) := by decide +kernel
theorem dX11_sheet_10 : decode cX11_sheet 10 = .ok (.if_icmp .lt 9, 3) := by decide +kernel
theorem dX11_sheet_13 : decode cX11_sheet 13 = .ok (.aload_n 0, 1) := by decide +kernel
theorem dX11_sheet_14 : decode cX11_sheet 14 = .ok (.iconst 2, 1) := by decide +kernel
theorem dX11_sheet_15 : decode cX11_sheet 15 = .ok (.invokevirtual 47, 3) := by decide +kernel
theorem dX11_sheet_18 : decode cX11_sheet 18 = .ok (.ireturn, 1) := by decide +kernel
theorem dX11_sheet_19 : decode cX11_sheet 19 = .ok (.aload_n 0, 1) := by decide +kernel
theorem dX11_sheet_20 : decode cX11_sheet 20 = .ok (.getfield 39, 3) := by decide +kernel
theorem dX11_sheet_23 : decode cX11_sheet 23 = .ok (.iload_n 1, 1) := by decide +kernel
theorem dX11_sheet_24 : decode cX11_sheet 24 = .ok (.lload_n 2, 1) := by decide +kernel
theorem dX11_sheet_25 : decode cX11_sheet 25 = .ok (.lastore, 1) := by decide +kernel
theorem dX11_sheet_26 : decode cX11_sheet 26 = .ok (.aload_n 0, 1) := by decide +kernel
theorem dX11_sheet_27 : decode cX11_sheet 27 = .ok (.iconst 1, 1) := by decide +kernel
theorem dX11_sheet_28 : decode cX11_sheet 28 = .ok (.invokevirtual 57, 3) := by decide +kernel
theorem dX11_sheet_31 : decode cX11_sheet 31 = .ok (.ireturn, 1) := by decide +kernel
theorem dX11_check_0 : decode cX11_check 0 = .ok (.aload_n 0, 1) := by decide +kernel
theorem dX11_check_1 : decode cX11_check 1 = .ok (.iload_n 1, 1) := by decide +kernel
theorem dX11_check_2 : decode cX11_check 2 = .ok (.invokevirtual 65, 3) := by decide +kernel
theorem dX11_check_5 : decode cX11_check 5 = .ok (.astore_n 2, 1) := by decide +kernel
theorem dX11_check_6 : decode cX11_check 6 = .ok (.aload_n 2, 1) := by decide +kernel
theorem dX11_check_7 : decode cX11_check 7 = .ok (.ifnull 10, 3) := by decide +kernel
theorem dX11_check_17 : decode cX11_check 17 = .ok (.aload_n 0, 1) := by decide +kernel
theorem dX11_check_18 : decode cX11_check 18 = .ok (.iconst 1, 1) := by decide +kernel
theorem dX11_check_19 : decode cX11_check 19 = .ok (.invokevirtual 47, 3) := by decide +kernel
theorem dX11_check_22 : decode cX11_check 22 = .ok (.ireturn, 1) := by decide +kernel
theorem dX11_status_0 : decode cX11_status 0 = .ok (.aload_n 0, 1) := by decide +kernel
theorem dX11_status_1 : decode cX11_status 1 = .ok (.getfield 380, 3) := by decide +kernel
theorem dX11_status_4 : decode cX11_status 4 = .ok (.ireturn, 1) := by decide +kernel
theorem dX11_where_0 : decode cX11_where 0 = .ok (.aload_n 0, 1) := by decide +kernel
theorem dX11_where_1 : decode cX11_where 1 = .ok (.getfield 43, 3) := by decide +kernel
theorem dX11_where_4 : decode cX11_where 4 = .ok (.ireturn, 1) := by decide +kernel
theorem dX11_accept_0 : decode cX11_accept 0 = .ok (.aload_n 0, 1) := by decide +kernel
theorem dX11_accept_1 : decode cX11_accept 1 = .ok (.iconst 0, 1) := by decide +kernel
theorem dX11_accept_2 : decode cX11_accept 2 = .ok (.putfield 380, 3) := by decide +kernel
theorem dX11_accept_5 : decode cX11_accept 5 = .ok (.aload_n 0, 1) := by decide +kernel
theorem dX11_accept_6 : decode cX11_accept 6 = .ok (.iconst (-1), 1) := by decide +kernel
theorem dX11_accept_7 : decode cX11_accept 7 = .ok (.putfield 43, 3) := by decide +kernel
theorem dX11_accept_10 : decode cX11_accept 10 = .ok (.iload_n 1, 1) := by decide +kernel
theorem dX11_accept_11 : decode cX11_accept 11 = .ok (.ireturn, 1) := by decide +kernel
theorem dX11_refuse_0 : decode cX11_refuse 0 = .ok (.aload_n 0, 1) := by decide +kernel
theorem dX11_refuse_1 : decode cX11_refuse 1 = .ok (.iload_n 1, 1) := by decide +kernel
theorem dX11_refuse_2 : decode cX11_refuse 2 = .ok (.iconst (-1), 1) := by decide +kernel
theorem dX11_refuse_3 : decode cX11_refuse 3 = .ok (.invokevirtual 275, 3) := by decide +kernel
theorem dX11_refuse_6 : decode cX11_refuse 6 = .ok (.ireturn, 1) := by decide +kernel
theorem dX11_refuseAt_0 : decode cX11_refuseAt 0 = .ok (.aload_n 0, 1) := by decide +kernel
theorem dX11_refuseAt_1 : decode cX11_refuseAt 1 = .ok (.iload_n 1, 1) := by decide +kernel
theorem dX11_refuseAt_2 : decode cX11_refuseAt 2 = .ok (.putfield 380, 3) := by decide +kernel
theorem dX11_refuseAt_5 : decode cX11_refuseAt 5 = .ok (.aload_n 0, 1) := by decide +kernel
theorem dX11_refuseAt_6 : decode cX11_refuseAt 6 = .ok (.iload_n 2, 1) := by decide +kernel
theorem dX11_refuseAt_7 : decode cX11_refuseAt 7 = .ok (.putfield 43, 3) := by decide +kernel
theorem dX11_refuseAt_10 : decode cX11_refuseAt 10 = .ok (.iconst (-1), 1) := by decide +kernel
theorem dX11_refuseAt_11 : decode cX11_refuseAt 11 = .ok (.ireturn, 1) := by decide +kernel
theorem dX11_houseAt_0 : decode cX11_houseAt 0 = .ok (.iload_n 1, 1) := by decide +kernel
theorem dX11_houseAt_1 : decode cX11_houseAt 1 = .ok (.ifCond .lt 26, 3) := by decide +kernel
theorem dX11_houseAt_4 : decode cX11_houseAt 4 = .ok (.iload_n 1, 1) := by decide +kernel
theorem dX11_houseAt_5 : decode cX11_houseAt 5 = .ok (.aload_n 0, 1) := by decide +kernel
theorem dX11_houseAt_6 : decode cX11_houseAt 6 = .ok (.getfield 51, 3) := by decide +kernel
theorem dX11_houseAt_9 : decode cX11_houseAt 9 = .ok (.if_icmp .ge 18, 3) := by decide +kernel
theorem dX11_houseAt_27 : decode cX11_houseAt 27 = .ok (.aconst_null, 1) := by decide +kernel
theorem dX11_houseAt_28 : decode cX11_houseAt 28 = .ok (.areturn, 1) := by decide +kernel
theorem dX11_partnerAt_0 : decode cX11_partnerAt 0 = .ok (.iload_n 1, 1) := by decide +kernel
theorem dX11_partnerAt_1 : decode cX11_partnerAt 1 = .ok (.ifCond .lt 26, 3) := by decide +kernel
theorem dX11_partnerAt_4 : decode cX11_partnerAt 4 = .ok (.iload_n 1, 1) := by decide +kernel
theorem dX11_partnerAt_5 : decode cX11_partnerAt 5 = .ok (.aload_n 0, 1) := by decide +kernel
theorem dX11_partnerAt_6 : decode cX11_partnerAt 6 = .ok (.getfield 69, 3) := by decide +kernel
theorem dX11_partnerAt_9 : decode cX11_partnerAt 9 = .ok (.if_icmp .ge 18, 3) := by decide +kernel
theorem dX11_partnerAt_27 : decode cX11_partnerAt 27 = .ok (.aconst_null, 1) := by decide +kernel
theorem dX11_partnerAt_28 : decode cX11_partnerAt 28 = .ok (.areturn, 1) := by decide +kernel
theorem dX11_isLimitedKind_0 : decode cX11_isLimitedKind 0 = .ok (.iload_n 0, 1) := by decide +kernel
theorem dX11_isLimitedKind_1 : decode cX11_isLimitedKind 1 = .ok (.iconst 1, 1) := by decide +kernel
theorem dX11_isLimitedKind_2 : decode cX11_isLimitedKind 2 = .ok (.if_icmp .eq 13, 3) := by decide +kernel
theorem dX11_isLimitedKind_5 : decode cX11_isLimitedKind 5 = .ok (.iload_n 0, 1) := by decide +kernel
theorem dX11_isLimitedKind_6 : decode cX11_isLimitedKind 6 = .ok (.iconst 2, 1) := by decide +kernel
theorem dX11_isLimitedKind_7 : decode cX11_isLimitedKind 7 = .ok (.if_icmp .eq 8, 3) := by decide +kernel
theorem dX11_isLimitedKind_10 : decode cX11_isLimitedKind 10 = .ok (.iload_n 0, 1) := by decide +kernel
theorem dX11_isLimitedKind_11 : decode cX11_isLimitedKind 11 = .ok (.iconst 4, 1) := by decide +kernel
theorem dX11_isLimitedKind_12 : decode cX11_isLimitedKind 12 = .ok (.if_icmp .ne 7, 3) := by decide +kernel
theorem dX11_isLimitedKind_15 : decode cX11_isLimitedKind 15 = .ok (.iconst 1, 1) := by decide +kernel
theorem dX11_isLimitedKind_16 : decode cX11_isLimitedKind 16 = .ok (.goto 4, 3) := by decide +kernel
theorem dX11_isLimitedKind_19 : decode cX11_isLimitedKind 19 = .ok (.iconst 0, 1) := by decide +kernel
theorem dX11_isLimitedKind_20 : decode cX11_isLimitedKind 20 = .ok (.ireturn, 1) := by decide +kernel
theorem dX11_enter_0 : decode cX11_enter 0 = .ok (.aload_n 0, 1) := by decide +kernel
theorem dX11_enter_1 : decode cX11_enter 1 = .ok (.iload_n 1, 1) := by decide +kernel
theorem dX11_enter_2 : decode cX11_enter 2 = .ok (.invokevirtual 65, 3) := by decide +kernel
theorem dX11_enter_5 : decode cX11_enter 5 = .ok (.astore 5, 2) := by decide +kernel
theorem dX11_enter_7 : decode cX11_enter 7 = .ok (.aload 5, 2) := by decide +kernel
theorem dX11_enter_9 : decode cX11_enter 9 = .ok (.ifnonnull 9, 3) := by decide +kernel
theorem dX11_enter_12 : decode cX11_enter 12 = .ok (.aload_n 0, 1) := by decide +kernel
theorem dX11_enter_13 : decode cX11_enter 13 = .ok (.iconst 1, 1) := by decide +kernel
theorem dX11_enter_14 : decode cX11_enter 14 = .ok (.invokevirtual 47, 3) := by decide +kernel
theorem dX11_enter_17 : decode cX11_enter 17 = .ok (.ireturn, 1) := by decide +kernel
set_option maxHeartbeats 4000000 in
set_option maxRecDepth 100000 in
theorem k_refuseAt (l : Launch) (D : va_G) (sz : Nat) (xa : Nat) (x0 : Nat) (x1 : Int32) (x2 : Nat) (x3 : Int32) (x4 : Nat) (x5 : Nat) (x6 : Nat) (x7 : Int32) (x8 : Nat) (x9 : Int32) (x10 : Int32) (k1 : Int32) (k2 : Int32) : Met l yX11_refuseAt (wsM yX11_refuseAt cX11_refuseAt 3 (some .int)) ({ frames := 0, cells := 0, slots := 0, locals := 0 }) (va_Pc [.ref xa, .int k1, .int k2] (Pr D [(xa, .inr (11, [.ref x0, .int x1, .ref x2, .int x3, .ref x4, .ref x5, .ref x6, .int x7, .ref x8, .int x9, .int x10]))] [] sz)) (va_Qi (fun (r : Int32) (_ : Unit) => r = (-1)) (fun _ t => Po D [(xa, .inr (11, [.ref x0, .int x1, .ref x2, .int x3, .ref x4, .ref x5, .ref x6, .int x7, .ref x8, .int k1, .int k2]))] [] (va_A [(xa, .inr (11, [.ref x0, .int x1, .ref x2, .int x3, .ref x4, .ref x5, .ref x6, .int x7, .ref x8, .int x9, .int x10]))] sz) t) (va_A [(xa, .inr (11, [.ref x0, .int x1, .ref x2, .int x3, .ref x4, .ref x5, .ref x6, .int x7, .ref x8, .int x9, .int x10]))] sz)) 0 0 (va_A [(xa, .inr (11, [.ref x0, .int x1, .ref x2, .int x3, .ref x4, .ref x5, .ref x6, .int x7, .ref x8, .int x9, .int x10]))] sz) := by
  refine Met.ofW (cc := cX11_refuseAt) (maxL := 3) (ret := (some .int)) (by decide) rfl ?_
  intro p e s m args below meth c s₁ B hml hv
  obtain ⟨rfl, hsz, hP, hK, hD0, hN⟩ := hv
  have hx := B.exec
  have hb := B.bytes
  have hr := B.returns
  have hts := atoms_spec (ws := (wsM yX11_refuseAt cX11_refuseAt 3 (some .int))) B.pre
  have hg : ∀ w ∈ lw_good, w.before _ s = true := fun w h => hts w (List.mem_cons_of_mem _ h)
  have hown : s.vm.findClass RX11 = some m.cls := findClass_of_methodNamed B.named
  have hlocks := B.notSynchronized
  subst hsz
  have hD := hD0.self (sz := s.heap.size)
  generalize hAe : va_A [(xa, .inr (11, [.ref x0, .int x1, .ref x2, .int x3, .ref x4, .ref x5, .ref x6, .int x7, .ref x8, .int x9, .int x10]))] s.heap.size = A at hD ⊢
  have hA : ∀ q : Nat, s.heap.size ≤ q → A q := fun q h => by rw [← hAe]; exact Or.inr h
  have hS : va_S A s.heap s.heap [] := va_S.rf
  have hP : va_P D vwCl [(xa, .inr (11, [.ref x0, .int x1, .ref x2, .int x3, .ref x4, .ref x5, .ref x6, .int x7, .ref x8, .int x9, .int x10]))] s.heap := hP
  have hl := lv_entry ([.ref xa, .int k1, .int k2]) (n := 3) (Nat.le_of_ble_eq_true rfl)
  rw [lg_entry_eq]
  generalize (lg_sl ([.ref xa, .int k1, .int k2]) ++ List.replicate (3 - (lg_sl ([.ref xa, .int k1, .int k2])).length) Slot.unset).toArray = ls at hl ⊢
  have hl : lv_has ls 3 [(0, .ref xa), (1, .int k1), (2, .int k2)] := hl
  refine lv_aload_n hx hb dX11_refuseAt_0 rfl (lv_at hl 0 rfl) ?_
  refine lv_iload_n hx hb dX11_refuseAt_1 rfl (lv_at hl 1 rfl) ?_
  refine va_put (D := D) (ci := 11) (v := .int k1) (ty := .int) (C := RX11) (T := TX11) (N := 11) hx hb hg inG11 tyX11 tyX11_ok nmX11 hown hK hP hD hS 0 rfl rfl 9 (by decide) (hg _ wd_0) (fun _ h9 => h9) rfl (by decide +kernel) rfl rfl (Nat.le_of_ble_eq_true rfl) dX11_refuseAt_2 (fun H_1 locs hP hD hS => ?_)
  have hP : va_P D vwCl [(xa, .inr (11, [.ref x0, .int x1, .ref x2, .int x3, .ref x4, .ref x5, .ref x6, .int x7, .ref x8, .int k1, .int x10]))] H_1 := hP
  have hD : va_D A [(xa, .inr (11, [.ref x0, .int x1, .ref x2, .int x3, .ref x4, .ref x5, .ref x6, .int x7, .ref x8, .int k1, .int x10]))] := hD
  refine lv_aload_n hx hb dX11_refuseAt_5 rfl (lv_at hl 0 rfl) ?_
  refine lv_iload_n hx hb dX11_refuseAt_6 rfl (lv_at hl 2 rfl) ?_
  refine va_put (D := D) (ci := 11) (v := .int k2) (ty := .int) (C := RX11) (T := TX11) (N := 11) hx hb hg inG11 tyX11 tyX11_ok nmX11 hown hK hP hD hS 0 rfl rfl 10 (by decide) (hg _ wd_1) (fun _ h9 => h9) rfl (by decide +kernel) rfl rfl (Nat.le_of_ble_eq_true rfl) dX11_refuseAt_7 (fun H_2 locs hP hD hS => ?_)
  have hP : va_P D vwCl [(xa, .inr (11, [.ref x0, .int x1, .ref x2, .int x3, .ref x4, .ref x5, .ref x6, .int x7, .ref x8, .int k1, .int k2]))] H_2 := hP
  have hD : va_D A [(xa, .inr (11, [.ref x0, .int x1, .ref x2, .int x3, .ref x4, .ref x5, .ref x6, .int x7, .ref x8, .int k1, .int k2]))] := hD
  refine lv_iconst (v := (-1)) hx hb dX11_refuseAt_10 (by decide) ?_
  have hP9 := hP.sub (ws' := [(xa, .inr (11, [.ref x0, .int x1, .ref x2, .int x3, .ref x4, .ref x5, .ref x6, .int x7, .ref x8, .int k1, .int k2]))]) [0] rfl
  have hD9 := hD.sub (ws' := [(xa, .inr (11, [.ref x0, .int x1, .ref x2, .int x3, .ref x4, .ref x5, .ref x6, .int x7, .ref x8, .int k1, .int k2]))]) [0] (by decide) rfl
  have hK9 := hK.sub (tys' := []) [] rfl
  exact W.iret (v := (-1)) hx hb hr (fun t ht hW => ⟨⟨(-1), (), rfl, rfl, ⟨by rw [ht]; exact hP9, va_K.moved hW.alike hK9, hD9⟩⟩, hS.F ht⟩) hS.2.2 dX11_refuseAt_11
set_option maxHeartbeats 4000000 in
set_option maxRecDepth 100000 in
theorem k_refuse (l : Launch) (D : va_G) (sz : Nat) (xa : Nat) (x0 : Nat) (x1 : Int32) (x2 : Nat) (x3 : Int32) (x4 : Nat) (x5 : Nat) (x6 : Nat) (x7 : Int32) (x8 : Nat) (x9 : Int32) (x10 : Int32) (k1 : Int32) : Met l yX11_refuse (wsM yX11_refuse cX11_refuse 2 (some .int)) ({ frames := 1, cells := 0, slots := 0, locals := 22 }) (va_Pc [.ref xa, .int k1] (Pr D [(xa, .inr (11, [.ref x0, .int x1, .ref x2, .int x3, .ref x4, .ref x5, .ref x6, .int x7, .ref x8, .int x9, .int x10]))] [] sz)) (va_Qi (fun (r : Int32) (_ : Unit) => r = (-1)) (fun _ t => Po D [(xa, .inr (11, [.ref x0, .int x1, .ref x2, .int x3, .ref x4, .ref x5, .ref x6, .int x7, .ref x8, .int k1, .int (-1)]))] [] (va_A [(xa, .inr (11, [.ref x0, .int x1, .ref x2, .int x3, .ref x4, .ref x5, .ref x6, .int x7, .ref x8, .int x9, .int x10]))] sz) t) (va_A [(xa, .inr (11, [.ref x0, .int x1, .ref x2, .int x3, .ref x4, .ref x5, .ref x6, .int x7, .ref x8, .int x9, .int x10]))] sz)) 0 0 (va_A [(xa, .inr (11, [.ref x0, .int x1, .ref x2, .int x3, .ref x4, .ref x5, .ref x6, .int x7, .ref x8, .int x9, .int x10]))] sz) := by
  refine Met.ofW (cc := cX11_refuse) (maxL := 2) (ret := (some .int)) (by decide) rfl ?_
  intro p e s m args below meth c s₁ B hml hv
  obtain ⟨rfl, hsz, hP, hK, hD0, hN⟩ := hv
  have hx := B.exec
  have hb := B.bytes
  have hr := B.returns
  have hts := atoms_spec (ws := (wsM yX11_refuse cX11_refuse 2 (some .int))) B.pre
  have hg : ∀ w ∈ lw_good, w.before _ s = true := fun w h => hts w (List.mem_cons_of_mem _ h)
  have hown : s.vm.findClass RX11 = some m.cls := findClass_of_methodNamed B.named
  have hlocks := B.notSynchronized
  subst hsz
  have hD := hD0.self (sz := s.heap.size)
  generalize hAe : va_A [(xa, .inr (11, [.ref x0, .int x1, .ref x2, .int x3, .ref x4, .ref x5, .ref x6, .int x7, .ref x8, .int x9, .int x10]))] s.heap.size = A at hD ⊢
  have hA : ∀ q : Nat, s.heap.size ≤ q → A q := fun q h => by rw [← hAe]; exact Or.inr h
  have hS : va_S A s.heap s.heap [] := va_S.rf
  have hP : va_P D vwCl [(xa, .inr (11, [.ref x0, .int x1, .ref x2, .int x3, .ref x4, .ref x5, .ref x6, .int x7, .ref x8, .int x9, .int x10]))] s.heap := hP
  have hl := lv_entry ([.ref xa, .int k1]) (n := 2) (Nat.le_of_ble_eq_true rfl)
  rw [lg_entry_eq]
  generalize (lg_sl ([.ref xa, .int k1]) ++ List.replicate (2 - (lg_sl ([.ref xa, .int k1])).length) Slot.unset).toArray = ls at hl ⊢
  have hl : lv_has ls 2 [(0, .ref xa), (1, .int k1)] := hl
  refine lv_aload_n hx hb dX11_refuse_0 rfl (lv_at hl 0 rfl) ?_
  refine lv_iload_n hx hb dX11_refuse_1 rfl (lv_at hl 1 rfl) ?_
  refine lv_iconst (v := (-1)) hx hb dX11_refuse_2 (by decide) ?_
  have hPc := hP.sub (ws' := [(xa, .inr (11, [.ref x0, .int x1, .ref x2, .int x3, .ref x4, .ref x5, .ref x6, .int x7, .ref x8, .int x9, .int x10]))]) [0] rfl
  have hDc := hD.sub (ws' := [(xa, .inr (11, [.ref x0, .int x1, .ref x2, .int x3, .ref x4, .ref x5, .ref x6, .int x7, .ref x8, .int x9, .int x10]))]) [0] (by decide) rfl
  have hKc := hK.sub (tys' := []) [] rfl
  have hFc := va_free (wc := [(xa, .inr (11, [.ref x0, .int x1, .ref x2, .int x3, .ref x4, .ref x5, .ref x6, .int x7, .ref x8, .int x9, .int x10]))]) hD hS hA [0] rfl
  refine va_calli (va_runV (As := [.int k1, .int (-1)]) (rest := []) ⟨hx, hb, hml, hown, hg⟩ (k_refuseAt l D s.heap.size xa x0 x1 x2 x3 x4 x5 x6 x7 x8 x9 x10 k1 (-1)) (cwV 2 hg (gV wd_2 wd_3 wd_4 wd_5 wd_6) rfl rfl rfl (by decide +kernel) ⟨(Nat.le_of_ble_eq_true rfl), (Nat.le_of_ble_eq_true rfl)⟩) ⟨Pr.blind, va_recv hKc hPc (ci := 11) (q0 := 0) rfl rfl, fun U hU hW => ⟨rfl, Pr.at hPc hKc hDc hN hU hW⟩⟩ rfl rfl hl.1 rfl (lv_room (Nat.le_of_ble_eq_true rfl)) dX11_refuse_3 ⟨(Nat.le_of_ble_eq_true rfl), (Nat.le_of_ble_eq_true rfl)⟩) hS (fun q _ h => hFc q h) hFc (fun r_2 u t H_1 locs ht hvm hw hB hz1 hk1 hS => ?_)
  obtain ⟨hP1, hK1, hD1⟩ := hB
  rw [ht] at hP1
  have hK1 := va_K.moved hvm.symm hK1
  obtain ⟨hP, hD⟩ := va_join (wr := []) (w1 := [(xa, .inr (11, [.ref x0, .int x1, .ref x2, .int x3, .ref x4, .ref x5, .ref x6, .int x7, .ref x8, .int k1, .int (-1)]))]) hP hD [0] [] rfl rfl (by decide) (by decide) hk1 hFc hP1 hD1
  have hP : va_P D vwCl [(xa, .inr (11, [.ref x0, .int x1, .ref x2, .int x3, .ref x4, .ref x5, .ref x6, .int x7, .ref x8, .int k1, .int (-1)]))] H_1 := hP
  have hD : va_D A [(xa, .inr (11, [.ref x0, .int x1, .ref x2, .int x3, .ref x4, .ref x5, .ref x6, .int x7, .ref x8, .int k1, .int (-1)]))] := hD
  subst hw
  have hP9 := hP.sub (ws' := [(xa, .inr (11, [.ref x0, .int x1, .ref x2, .int x3, .ref x4, .ref x5, .ref x6, .int x7, .ref x8, .int k1, .int (-1)]))]) [0] rfl
  have hD9 := hD.sub (ws' := [(xa, .inr (11, [.ref x0, .int x1, .ref x2, .int x3, .ref x4, .ref x5, .ref x6, .int x7, .ref x8, .int k1, .int (-1)]))]) [0] (by decide) rfl
  have hK9 := hK.sub (tys' := []) [] rfl
  exact W.iret (v := (-1)) hx hb hr (fun t ht hW => ⟨⟨(-1), (), rfl, rfl, ⟨by rw [ht]; exact hP9, va_K.moved hW.alike hK9, hD9⟩⟩, hS.F ht⟩) hS.2.2 dX11_refuse_6
set_option maxHeartbeats 4000000 in
set_option maxRecDepth 100000 in
theorem k_accept (l : Launch) (D : va_G) (sz : Nat) (xa : Nat) (x0 : Nat) (x1 : Int32) (x2 : Nat) (x3 : Int32) (x4 : Nat) (x5 : Nat) (x6 : Nat) (x7 : Int32) (x8 : Nat) (x9 : Int32) (x10 : Int32) (k1 : Int32) : Met l yX11_accept (wsM yX11_accept cX11_accept 2 (some .int)) ({ frames := 0, cells := 0, slots := 0, locals := 0 }) (va_Pc [.ref xa, .int k1] (Pr D [(xa, .inr (11, [.ref x0, .int x1, .ref x2, .int x3, .ref x4, .ref x5, .ref x6, .int x7, .ref x8, .int x9, .int x10]))] [] sz)) (va_Qi (fun (r : Int32) (_ : Unit) => r = k1) (fun _ t => Po D [(xa, .inr (11, [.ref x0, .int x1, .ref x2, .int x3, .ref x4, .ref x5, .ref x6, .int x7, .ref x8, .int 0, .int (-1)]))] [] (va_A [(xa, .inr (11, [.ref x0, .int x1, .ref x2, .int x3, .ref x4, .ref x5, .ref x6, .int x7, .ref x8, .int x9, .int x10]))] sz) t) (va_A [(xa, .inr (11, [.ref x0, .int x1, .ref x2, .int x3, .ref x4, .ref x5, .ref x6, .int x7, .ref x8, .int x9, .int x10]))] sz)) 0 0 (va_A [(xa, .inr (11, [.ref x0, .int x1, .ref x2, .int x3, .ref x4, .ref x5, .ref x6, .int x7, .ref x8, .int x9, .int x10]))] sz) := by
  refine Met.ofW (cc := cX11_accept) (maxL := 2) (ret := (some .int)) (by decide) rfl ?_
  intro p e s m args below meth c s₁ B hml hv
  obtain ⟨rfl, hsz, hP, hK, hD0, hN⟩ := hv
  have hx := B.exec
  have hb := B.bytes
  have hr := B.returns
  have hts := atoms_spec (ws := (wsM yX11_accept cX11_accept 2 (some .int))) B.pre
  have hg : ∀ w ∈ lw_good, w.before _ s = true := fun w h => hts w (List.mem_cons_of_mem _ h)
  have hown : s.vm.findClass RX11 = some m.cls := findClass_of_methodNamed B.named
  have hlocks := B.notSynchronized
  subst hsz
  have hD := hD0.self (sz := s.heap.size)
  generalize hAe : va_A [(xa, .inr (11, [.ref x0, .int x1, .ref x2, .int x3, .ref x4, .ref x5, .ref x6, .int x7, .ref x8, .int x9, .int x10]))] s.heap.size = A at hD ⊢
  have hA : ∀ q : Nat, s.heap.size ≤ q → A q := fun q h => by rw [← hAe]; exact Or.inr h
  have hS : va_S A s.heap s.heap [] := va_S.rf
  have hP : va_P D vwCl [(xa, .inr (11, [.ref x0, .int x1, .ref x2, .int x3, .ref x4, .ref x5, .ref x6, .int x7, .ref x8, .int x9, .int x10]))] s.heap := hP
  have hl := lv_entry ([.ref xa, .int k1]) (n := 2) (Nat.le_of_ble_eq_true rfl)
  rw [lg_entry_eq]
  generalize (lg_sl ([.ref xa, .int k1]) ++ List.replicate (2 - (lg_sl ([.ref xa, .int k1])).length) Slot.unset).toArray = ls at hl ⊢
  have hl : lv_has ls 2 [(0, .ref xa), (1, .int k1)] := hl
  refine lv_aload_n hx hb dX11_accept_0 rfl (lv_at hl 0 rfl) ?_
  refine lv_iconst (v := 0) hx hb dX11_accept_1 (by decide) ?_
  refine va_put (D := D) (ci := 11) (v := .int 0) (ty := .int) (C := RX11) (T := TX11) (N := 11) hx hb hg inG11 tyX11 tyX11_ok nmX11 hown hK hP hD hS 0 rfl rfl 9 (by decide) (hg _ wd_0) (fun _ h9 => h9) rfl (by decide +kernel) rfl rfl (Nat.le_of_ble_eq_true rfl) dX11_accept_2 (fun H_1 locs hP hD hS => ?_)
  have hP : va_P D vwCl [(xa, .inr (11, [.ref x0, .int x1, .ref x2, .int x3, .ref x4, .ref x5, .ref x6, .int x7, .ref x8, .int 0, .int x10]))] H_1 := hP
  have hD : va_D A [(xa, .inr (11, [.ref x0, .int x1, .ref x2, .int x3, .ref x4, .ref x5, .ref x6, .int x7, .ref x8, .int 0, .int x10]))] := hD
  refine lv_aload_n hx hb dX11_accept_5 rfl (lv_at hl 0 rfl) ?_
  refine lv_iconst (v := (-1)) hx hb dX11_accept_6 (by decide) ?_
  refine va_put (D := D) (ci := 11) (v := .int (-1)) (ty := .int) (C := RX11) (T := TX11) (N := 11) hx hb hg inG11 tyX11 tyX11_ok nmX11 hown hK hP hD hS 0 rfl rfl 10 (by decide) (hg _ wd_1) (fun _ h9 => h9) rfl (by decide +kernel) rfl rfl (Nat.le_of_ble_eq_true rfl) dX11_accept_7 (fun H_2 locs hP hD hS => ?_)
  have hP : va_P D vwCl [(xa, .inr (11, [.ref x0, .int x1, .ref x2, .int x3, .ref x4, .ref x5, .ref x6, .int x7, .ref x8, .int 0, .int (-1)]))] H_2 := hP
  have hD : va_D A [(xa, .inr (11, [.ref x0, .int x1, .ref x2, .int x3, .ref x4, .ref x5, .ref x6, .int x7, .ref x8, .int 0, .int (-1)]))] := hD
  refine lv_iload_n hx hb dX11_accept_10 rfl (lv_at hl 1 rfl) ?_
  have hP9 := hP.sub (ws' := [(xa, .inr (11, [.ref x0, .int x1, .ref x2, .int x3, .ref x4, .ref x5, .ref x6, .int x7, .ref x8, .int 0, .int (-1)]))]) [0] rfl
  have hD9 := hD.sub (ws' := [(xa, .inr (11, [.ref x0, .int x1, .ref x2, .int x3, .ref x4, .ref x5, .ref x6, .int x7, .ref x8, .int 0, .int (-1)]))]) [0] (by decide) rfl
  have hK9 := hK.sub (tys' := []) [] rfl
  exact W.iret (v := k1) hx hb hr (fun t ht hW => ⟨⟨k1, (), rfl, rfl, ⟨by rw [ht]; exact hP9, va_K.moved hW.alike hK9, hD9⟩⟩, hS.F ht⟩) hS.2.2 dX11_accept_11
set_option maxHeartbeats 4000000 in
set_option maxRecDepth 100000 in
theorem k_houseAt0 (l : Launch) (D : va_G) (sz : Nat) (xa : Nat) (x0 : Nat) (x2 : Nat) (x4 : Nat) (x5 : Nat) (x6 : Nat) (x7 : Int32) (x8 : Nat) (x9 : Int32) (x10 : Int32) (k1 : Int32) : Met l yX11_houseAt (wsM yX11_houseAt cX11_houseAt 2 (some (.object "PartnersBook$House"))) ({ frames := 0, cells := 0, slots := 0, locals := 0 }) (va_Pc [.ref xa, .int k1] (Pr D [(xa, .inr (11, [.ref x0, .int 0, .ref x2, .int 0, .ref x4, .ref x5, .ref x6, .int x7, .ref x8, .int x9, .int x10]))] [] sz)) (va_Qq (fun (r : Option Nat) (_ : Unit) => r = none) (fun _ t => Po D [(xa, .inr (11, [.ref x0, .int 0, .ref x2, .int 0, .ref x4, .ref x5, .ref x6, .int x7, .ref x8, .int x9, .int x10]))] [] (va_A [(xa, .inr (11, [.ref x0, .int 0, .ref x2, .int 0, .ref x4, .ref x5, .ref x6, .int x7, .ref x8, .int x9, .int x10]))] sz) t) (va_A [(xa, .inr (11, [.ref x0, .int 0, .ref x2, .int 0, .ref x4, .ref x5, .ref x6, .int x7, .ref x8, .int x9, .int x10]))] sz)) 0 0 (va_A [(xa, .inr (11, [.ref x0, .int 0, .ref x2, .int 0, .ref x4, .ref x5, .ref x6, .int x7, .ref x8, .int x9, .int x10]))] sz) := by
  refine Met.ofW (cc := cX11_houseAt) (maxL := 2) (ret := (some (.object "PartnersBook$House"))) (by decide) rfl ?_
  intro p e s m args below meth c s₁ B hml hv
  obtain ⟨rfl, hsz, hP, hK, hD0, hN⟩ := hv
  have hx := B.exec
  have hb := B.bytes
  have hr := B.returns
  have hts := atoms_spec (ws := (wsM yX11_houseAt cX11_houseAt 2 (some (.object "PartnersBook$House")))) B.pre
  have hg : ∀ w ∈ lw_good, w.before _ s = true := fun w h => hts w (List.mem_cons_of_mem _ h)
  have hown : s.vm.findClass RX11 = some m.cls := findClass_of_methodNamed B.named
  have hlocks := B.notSynchronized
  subst hsz
  have hD := hD0.self (sz := s.heap.size)
  generalize hAe : va_A [(xa, .inr (11, [.ref x0, .int 0, .ref x2, .int 0, .ref x4, .ref x5, .ref x6, .int x7, .ref x8, .int x9, .int x10]))] s.heap.size = A at hD ⊢
  have hA : ∀ q : Nat, s.heap.size ≤ q → A q := fun q h => by rw [← hAe]; exact Or.inr h
  have hS : va_S A s.heap s.heap [] := va_S.rf
  have hP : va_P D vwCl [(xa, .inr (11, [.ref x0, .int 0, .ref x2, .int 0, .ref x4, .ref x5, .ref x6, .int x7, .ref x8, .int x9, .int x10]))] s.heap := hP
  have hl := lv_entry ([.ref xa, .int k1]) (n := 2) (Nat.le_of_ble_eq_true rfl)
  rw [lg_entry_eq]
  generalize (lg_sl ([.ref xa, .int k1]) ++ List.replicate (2 - (lg_sl ([.ref xa, .int k1])).length) Slot.unset).toArray = ls at hl ⊢
  have hl : lv_has ls 2 [(0, .ref xa), (1, .int k1)] := hl
  refine lv_iload_n hx hb dX11_houseAt_0 rfl (lv_at hl 1 rfl) ?_
  refine lv_if_lt (tgt := 27) hx hb dX11_houseAt_1 (by decide) (fun c_1 => ?_) (fun c_1 => ?_)
  · refine lv_null hx hb dX11_houseAt_27 ?_
    have hP9 := hP.sub (ws' := [(xa, .inr (11, [.ref x0, .int 0, .ref x2, .int 0, .ref x4, .ref x5, .ref x6, .int x7, .ref x8, .int x9, .int x10]))]) [0] rfl
    have hD9 := hD.sub (ws' := [(xa, .inr (11, [.ref x0, .int 0, .ref x2, .int 0, .ref x4, .ref x5, .ref x6, .int x7, .ref x8, .int x9, .int x10]))]) [0] (by decide) rfl
    have hK9 := hK.sub (tys' := []) [] rfl
    exact W.aret (v := .null) hx hb hr (Or.inl ⟨_, rfl⟩) (Or.inl rfl) (fun t ht hW => ⟨⟨none, (), rfl, rfl, ⟨by rw [ht]; exact hP9, va_K.moved hW.alike hK9, hD9⟩⟩, hS.F ht⟩) hS.2.2 dX11_houseAt_28
  · refine lv_iload_n hx hb dX11_houseAt_4 rfl (lv_at hl 1 rfl) ?_
    refine lv_aload_n hx hb dX11_houseAt_5 rfl (lv_at hl 0 rfl) ?_
    refine va_get (D := D) (ci := 11) (v := .int 0) (C := RX11) (T := TX11) (N := 11) hx hb hg inG11 hown hK hP 0 rfl rfl 1 (by decide) (hg _ wd_7) (fun _ h9 => h9) rfl dX11_houseAt_6 ?_
    refine lv_icmp_ge (tgt := 27) hx hb dX11_houseAt_9 (by decide) (fun c_2 => ?_) (fun c_2 => absurd (Int32.not_lt.mp c_1) c_2)
    refine lv_null hx hb dX11_houseAt_27 ?_
    have hP9 := hP.sub (ws' := [(xa, .inr (11, [.ref x0, .int 0, .ref x2, .int 0, .ref x4, .ref x5, .ref x6, .int x7, .ref x8, .int x9, .int x10]))]) [0] rfl
    have hD9 := hD.sub (ws' := [(xa, .inr (11, [.ref x0, .int 0, .ref x2, .int 0, .ref x4, .ref x5, .ref x6, .int x7, .ref x8, .int x9, .int x10]))]) [0] (by decide) rfl
    have hK9 := hK.sub (tys' := []) [] rfl
    exact W.aret (v := .null) hx hb hr (Or.inl ⟨_, rfl⟩) (Or.inl rfl) (fun t ht hW => ⟨⟨none, (), rfl, rfl, ⟨by rw [ht]; exact hP9, va_K.moved hW.alike hK9, hD9⟩⟩, hS.F ht⟩) hS.2.2 dX11_houseAt_28
set_option maxHeartbeats 4000000 in
set_option maxRecDepth 100000 in
theorem k_partnerAt0 (l : Launch) (D : va_G) (sz : Nat) (xa : Nat) (x0 : Nat) (x2 : Nat) (x4 : Nat) (x5 : Nat) (x6 : Nat) (x7 : Int32) (x8 : Nat) (x9 : Int32) (x10 : Int32) (k1 : Int32) : Met l yX11_partnerAt (wsM yX11_partnerAt cX11_partnerAt 2 (some (.object "PartnersBook$Partner"))) ({ frames := 0, cells := 0, slots := 0, locals := 0 }) (va_Pc [.ref xa, .int k1] (Pr D [(xa, .inr (11, [.ref x0, .int 0, .ref x2, .int 0, .ref x4, .ref x5, .ref x6, .int x7, .ref x8, .int x9, .int x10]))] [] sz)) (va_Qq (fun (r : Option Nat) (_ : Unit) => r = none) (fun _ t => Po D [(xa, .inr (11, [.ref x0, .int 0, .ref x2, .int 0, .ref x4, .ref x5, .ref x6, .int x7, .ref x8, .int x9, .int x10]))] [] (va_A [(xa, .inr (11, [.ref x0, .int 0, .ref x2, .int 0, .ref x4, .ref x5, .ref x6, .int x7, .ref x8, .int x9, .int x10]))] sz) t) (va_A [(xa, .inr (11, [.ref x0, .int 0, .ref x2, .int 0, .ref x4, .ref x5, .ref x6, .int x7, .ref x8, .int x9, .int x10]))] sz)) 0 0 (va_A [(xa, .inr (11, [.ref x0, .int 0, .ref x2, .int 0, .ref x4, .ref x5, .ref x6, .int x7, .ref x8, .int x9, .int x10]))] sz) := by
  refine Met.ofW (cc := cX11_partnerAt) (maxL := 2) (ret := (some (.object "PartnersBook$Partner"))) (by decide) rfl ?_
  intro p e s m args below meth c s₁ B hml hv
  obtain ⟨rfl, hsz, hP, hK, hD0, hN⟩ := hv
  have hx := B.exec
  have hb := B.bytes
  have hr := B.returns
  have hts := atoms_spec (ws := (wsM yX11_partnerAt cX11_partnerAt 2 (some (.object "PartnersBook$Partner")))) B.pre
  have hg : ∀ w ∈ lw_good, w.before _ s = true := fun w h => hts w (List.mem_cons_of_mem _ h)
  have hown : s.vm.findClass RX11 = some m.cls := findClass_of_methodNamed B.named
  have hlocks := B.notSynchronized
  subst hsz
  have hD := hD0.self (sz := s.heap.size)
  generalize hAe : va_A [(xa, .inr (11, [.ref x0, .int 0, .ref x2, .int 0, .ref x4, .ref x5, .ref x6, .int x7, .ref x8, .int x9, .int x10]))] s.heap.size = A at hD ⊢
  have hA : ∀ q : Nat, s.heap.size ≤ q → A q := fun q h => by rw [← hAe]; exact Or.inr h
  have hS : va_S A s.heap s.heap [] := va_S.rf
  have hP : va_P D vwCl [(xa, .inr (11, [.ref x0, .int 0, .ref x2, .int 0, .ref x4, .ref x5, .ref x6, .int x7, .ref x8, .int x9, .int x10]))] s.heap := hP
  have hl := lv_entry ([.ref xa, .int k1]) (n := 2) (Nat.le_of_ble_eq_true rfl)
  rw [lg_entry_eq]
  generalize (lg_sl ([.ref xa, .int k1]) ++ List.replicate (2 - (lg_sl ([.ref xa, .int k1])).length) Slot.unset).toArray = ls at hl ⊢
  have hl : lv_has ls 2 [(0, .ref xa), (1, .int k1)] := hl
  refine lv_iload_n hx hb dX11_partnerAt_0 rfl (lv_at hl 1 rfl) ?_
  refine lv_if_lt (tgt := 27) hx hb dX11_partnerAt_1 (by decide) (fun c_1 => ?_) (fun c_1 => ?_)
  · refine lv_null hx hb dX11_partnerAt_27 ?_
    have hP9 := hP.sub (ws' := [(xa, .inr (11, [.ref x0, .int 0, .ref x2, .int 0, .ref x4, .ref x5, .ref x6, .int x7, .ref x8, .int x9, .int x10]))]) [0] rfl
    have hD9 := hD.sub (ws' := [(xa, .inr (11, [.ref x0, .int 0, .ref x2, .int 0, .ref x4, .ref x5, .ref x6, .int x7, .ref x8, .int x9, .int x10]))]) [0] (by decide) rfl
    have hK9 := hK.sub (tys' := []) [] rfl
    exact W.aret (v := .null) hx hb hr (Or.inl ⟨_, rfl⟩) (Or.inl rfl) (fun t ht hW => ⟨⟨none, (), rfl, rfl, ⟨by rw [ht]; exact hP9, va_K.moved hW.alike hK9, hD9⟩⟩, hS.F ht⟩) hS.2.2 dX11_partnerAt_28
  · refine lv_iload_n hx hb dX11_partnerAt_4 rfl (lv_at hl 1 rfl) ?_
    refine lv_aload_n hx hb dX11_partnerAt_5 rfl (lv_at hl 0 rfl) ?_
    refine va_get (D := D) (ci := 11) (v := .int 0) (C := RX11) (T := TX11) (N := 11) hx hb hg inG11 hown hK hP 0 rfl rfl 3 (by decide) (hg _ wd_8) (fun _ h9 => h9) rfl dX11_partnerAt_6 ?_
    refine lv_icmp_ge (tgt := 27) hx hb dX11_partnerAt_9 (by decide) (fun c_2 => ?_) (fun c_2 => absurd (Int32.not_lt.mp c_1) c_2)
    refine lv_null hx hb dX11_partnerAt_27 ?_
    have hP9 := hP.sub (ws' := [(xa, .inr (11, [.ref x0, .int 0, .ref x2, .int 0, .ref x4, .ref x5, .ref x6, .int x7, .ref x8, .int x9, .int x10]))]) [0] rfl
    have hD9 := hD.sub (ws' := [(xa, .inr (11, [.ref x0, .int 0, .ref x2, .int 0, .ref x4, .ref x5, .ref x6, .int x7, .ref x8, .int x9, .int x10]))]) [0] (by decide) rfl
    have hK9 := hK.sub (tys' := []) [] rfl
    exact W.aret (v := .null) hx hb hr (Or.inl ⟨_, rfl⟩) (Or.inl rfl) (fun t ht hW => ⟨⟨none, (), rfl, rfl, ⟨by rw [ht]; exact hP9, va_K.moved hW.alike hK9, hD9⟩⟩, hS.F ht⟩) hS.2.2 dX11_partnerAt_28
set_option maxHeartbeats 4000000 in
set_option maxRecDepth 100000 in
theorem k_forget (l : Launch) (D : va_G) (sz : Nat) (ga : Nat) (g0 : Nat) (g1 : Nat) (g2 : Int32) : Met l yX5_forget (wsM yX5_forget cX5_forget 1 none) ({ frames := 0, cells := 0, slots := 0, locals := 0 }) (va_Pc [.ref ga] (Pr D [(ga, .inr (5, [.ref g0, .ref g1, .int g2]))] [] sz)) (va_Qv (fun _ : Unit => True) (fun _ t => Po D [(ga, .inr (5, [.ref g0, .ref g1, .int 0]))] [] (va_A [(ga, .inr (5, [.ref g0, .ref g1, .int g2]))] sz) t) (va_A [(ga, .inr (5, [.ref g0, .ref g1, .int g2]))] sz)) 0 0 (va_A [(ga, .inr (5, [.ref g0, .ref g1, .int g2]))] sz) := by
  refine Met.ofW (cc := cX5_forget) (maxL := 1) (ret := none) (by decide) rfl ?_
  intro p e s m args below meth c s₁ B hml hv
  obtain ⟨rfl, hsz, hP, hK, hD0, hN⟩ := hv
  have hx := B.exec
  have hb := B.bytes
  have hr := B.returns
  have hts := atoms_spec (ws := (wsM yX5_forget cX5_forget 1 none)) B.pre
  have hg : ∀ w ∈ lw_good, w.before _ s = true := fun w h => hts w (List.mem_cons_of_mem _ h)
  have hown : s.vm.findClass RX5 = some m.cls := findClass_of_methodNamed B.named
  have hlocks := B.notSynchronized
  subst hsz
  have hD := hD0.self (sz := s.heap.size)
  generalize hAe : va_A [(ga, .inr (5, [.ref g0, .ref g1, .int g2]))] s.heap.size = A at hD ⊢
  have hA : ∀ q : Nat, s.heap.size ≤ q → A q := fun q h => by rw [← hAe]; exact Or.inr h
  have hS : va_S A s.heap s.heap [] := va_S.rf
  have hP : va_P D vwCl [(ga, .inr (5, [.ref g0, .ref g1, .int g2]))] s.heap := hP
  have hl := lv_entry ([.ref ga]) (n := 1) (Nat.le_of_ble_eq_true rfl)
  rw [lg_entry_eq]
  generalize (lg_sl ([.ref ga]) ++ List.replicate (1 - (lg_sl ([.ref ga])).length) Slot.unset).toArray = ls at hl ⊢
  have hl : lv_has ls 1 [(0, .ref ga)] := hl
  refine lv_aload_n hx hb dX5_forget_0 rfl (lv_at hl 0 rfl) ?_
  refine lv_iconst (v := 0) hx hb dX5_forget_1 (by decide) ?_
  refine va_put (D := D) (ci := 5) (v := .int 0) (ty := .int) (C := RX5) (T := TX5) (N := 3) hx hb hg inG5 tyX5 tyX5_ok nmX5 hown hK hP hD hS 0 rfl rfl 2 (by decide) (hg _ wd_9) (fun _ h9 => h9) rfl (by decide +kernel) rfl rfl (Nat.le_of_ble_eq_true rfl) dX5_forget_2 (fun H_1 locs hP hD hS => ?_)
  have hP : va_P D vwCl [(ga, .inr (5, [.ref g0, .ref g1, .int 0]))] H_1 := hP
  have hD : va_D A [(ga, .inr (5, [.ref g0, .ref g1, .int 0]))] := hD
  have hP9 := hP.sub (ws' := [(ga, .inr (5, [.ref g0, .ref g1, .int 0]))]) [0] rfl
  have hD9 := hD.sub (ws' := [(ga, .inr (5, [.ref g0, .ref g1, .int 0]))]) [0] (by decide) rfl
  have hK9 := hK.sub (tys' := []) [] rfl
  exact W.vret hx hb hr (fun t ht hW => ⟨⟨(), rfl, trivial, ⟨by rw [ht]; exact hP9, va_K.moved hW.alike hK9, hD9⟩⟩, hS.F ht⟩) hS.2.2 dX5_forget_5
set_option maxHeartbeats 4000000 in
set_option maxRecDepth 100000 in
theorem k_houseAtStep0 (l : Launch) (D : va_G) (sz : Nat) (ga : Nat) (g0 : Nat) (g1 : Nat) (k1 : Int32) : Met l yX5_houseAtStep (wsM yX5_houseAtStep cX5_houseAtStep 2 (some .int)) ({ frames := 0, cells := 0, slots := 0, locals := 0 }) (va_Pc [.ref ga, .int k1] (Pr D [(ga, .inr (5, [.ref g0, .ref g1, .int 0]))] [] sz)) (va_Qi (fun (r : Int32) (_ : Unit) => r = (-1)) (fun _ _ => True) (va_A [(ga, .inr (5, [.ref g0, .ref g1, .int 0]))] sz)) 0 0 (va_A [(ga, .inr (5, [.ref g0, .ref g1, .int 0]))] sz) := by
  refine Met.ofW (cc := cX5_houseAtStep) (maxL := 2) (ret := (some .int)) (by decide) rfl ?_
  intro p e s m args below meth c s₁ B hml hv
  obtain ⟨rfl, hsz, hP, hK, hD0, hN⟩ := hv
  have hx := B.exec
  have hb := B.bytes
  have hr := B.returns
  have hts := atoms_spec (ws := (wsM yX5_houseAtStep cX5_houseAtStep 2 (some .int))) B.pre
  have hg : ∀ w ∈ lw_good, w.before _ s = true := fun w h => hts w (List.mem_cons_of_mem _ h)
  have hown : s.vm.findClass RX5 = some m.cls := findClass_of_methodNamed B.named
  have hlocks := B.notSynchronized
  subst hsz
  have hD := hD0.self (sz := s.heap.size)
  generalize hAe : va_A [(ga, .inr (5, [.ref g0, .ref g1, .int 0]))] s.heap.size = A at hD ⊢
  have hA : ∀ q : Nat, s.heap.size ≤ q → A q := fun q h => by rw [← hAe]; exact Or.inr h
  have hS : va_S A s.heap s.heap [] := va_S.rf
  have hP : va_P D vwCl [(ga, .inr (5, [.ref g0, .ref g1, .int 0]))] s.heap := hP
  have hl := lv_entry ([.ref ga, .int k1]) (n := 2) (Nat.le_of_ble_eq_true rfl)
  rw [lg_entry_eq]
  generalize (lg_sl ([.ref ga, .int k1]) ++ List.replicate (2 - (lg_sl ([.ref ga, .int k1])).length) Slot.unset).toArray = ls at hl ⊢
  have hl : lv_has ls 2 [(0, .ref ga), (1, .int k1)] := hl
  refine lv_iload_n hx hb dX5_houseAtStep_0 rfl (lv_at hl 1 rfl) ?_
  refine lv_if_lt (tgt := 27) hx hb dX5_houseAtStep_1 (by decide) (fun c_1 => ?_) (fun c_1 => ?_)
  · refine lv_iconst (v := (-1)) hx hb dX5_houseAtStep_27 (by decide) ?_
    exact W.iret (v := (-1)) hx hb hr (fun t ht hW => ⟨⟨(-1), (), rfl, rfl, trivial⟩, hS.F ht⟩) hS.2.2 dX5_houseAtStep_28
  · refine lv_iload_n hx hb dX5_houseAtStep_4 rfl (lv_at hl 1 rfl) ?_
    refine lv_aload_n hx hb dX5_houseAtStep_5 rfl (lv_at hl 0 rfl) ?_
    refine va_get (D := D) (ci := 5) (v := .int 0) (C := RX5) (T := TX5) (N := 3) hx hb hg inG5 hown hK hP 0 rfl rfl 2 (by decide) (hg _ wd_9) (fun _ h9 => h9) rfl dX5_houseAtStep_6 ?_
    refine lv_icmp_ge (tgt := 27) hx hb dX5_houseAtStep_9 (by decide) (fun c_2 => ?_) (fun c_2 => absurd (Int32.not_lt.mp c_1) c_2)
    refine lv_iconst (v := (-1)) hx hb dX5_houseAtStep_27 (by decide) ?_
    exact W.iret (v := (-1)) hx hb hr (fun t ht hW => ⟨⟨(-1), (), rfl, rfl, trivial⟩, hS.F ht⟩) hS.2.2 dX5_houseAtStep_28
set_option maxHeartbeats 4000000 in
set_option maxRecDepth 100000 in
theorem k_isLimitedKind (l : Launch) (D : va_G) (sz : Nat) (k1 : Int32) : Met l yX11_isLimitedKind (wsM yX11_isLimitedKind cX11_isLimitedKind 1 (some .boolean)) ({ frames := 0, cells := 0, slots := 0, locals := 0 }) (va_Pc [.int k1] (Pr D [] [] sz)) (va_Qi (fun (r : Int32) (_ : Unit) => r = limK k1) (fun _ t => Po D [] [] (va_A [] sz) t) (va_A [] sz)) 0 0 (va_A [] sz) := by
  refine Met.ofW (cc := cX11_isLimitedKind) (maxL := 1) (ret := (some .boolean)) (by decide) rfl ?_
  intro p e s m args below meth c s₁ B hml hv
  obtain ⟨rfl, hsz, hP, hK, hD0, hN⟩ := hv
  have hx := B.exec
  have hb := B.bytes
  have hr := B.returns
  have hts := atoms_spec (ws := (wsM yX11_isLimitedKind cX11_isLimitedKind 1 (some .boolean))) B.pre
  have hg : ∀ w ∈ lw_good, w.before _ s = true := fun w h => hts w (List.mem_cons_of_mem _ h)
  have hown : s.vm.findClass RX11 = some m.cls := findClass_of_methodNamed B.named
  have hlocks := B.notSynchronized
  subst hsz
  have hD := hD0.self (sz := s.heap.size)
  generalize hAe : va_A [] s.heap.size = A at hD ⊢
  have hA : ∀ q : Nat, s.heap.size ≤ q → A q := fun q h => by rw [← hAe]; exact Or.inr h
  have hS : va_S A s.heap s.heap [] := va_S.rf
  have hP : va_P D vwCl [] s.heap := hP
  have hl := lv_entry ([.int k1]) (n := 1) (Nat.le_of_ble_eq_true rfl)
  rw [lg_entry_eq]
  generalize (lg_sl ([.int k1]) ++ List.replicate (1 - (lg_sl ([.int k1])).length) Slot.unset).toArray = ls at hl ⊢
  have hl : lv_has ls 1 [(0, .int k1)] := hl
  refine lv_iload_n hx hb dX11_isLimitedKind_0 rfl (lv_at hl 0 rfl) ?_
  refine lv_iconst (v := 1) hx hb dX11_isLimitedKind_1 (by decide) ?_
  refine lv_icmp_eq (tgt := 15) hx hb dX11_isLimitedKind_2 (by decide) (fun c_1 => ?_) (fun c_1 => ?_)
  · refine lv_iconst (v := 1) hx hb dX11_isLimitedKind_15 (by decide) ?_
    refine lv_goto (tgt := 20) hx hb dX11_isLimitedKind_16 (by decide) ?_
    have hP9 := hP.sub (ws' := []) [] rfl
    have hD9 := hD.sub (ws' := []) [] (by decide) rfl
    have hK9 := hK.sub (tys' := []) [] rfl
    exact W.zret (v := 1) hx hb hr rfl (fun t ht hW => ⟨⟨1, (), rfl, by simp [limK, c_1], ⟨by rw [ht]; exact hP9, va_K.moved hW.alike hK9, hD9⟩⟩, hS.F ht⟩) hS.2.2 dX11_isLimitedKind_20
  · refine lv_iload_n hx hb dX11_isLimitedKind_5 rfl (lv_at hl 0 rfl) ?_
    refine lv_iconst (v := 2) hx hb dX11_isLimitedKind_6 (by decide) ?_
    refine lv_icmp_eq (tgt := 15) hx hb dX11_isLimitedKind_7 (by decide) (fun c_2 => ?_) (fun c_2 => ?_)
    · refine lv_iconst (v := 1) hx hb dX11_isLimitedKind_15 (by decide) ?_
      refine lv_goto (tgt := 20) hx hb dX11_isLimitedKind_16 (by decide) ?_
      have hP9 := hP.sub (ws' := []) [] rfl
      have hD9 := hD.sub (ws' := []) [] (by decide) rfl
      have hK9 := hK.sub (tys' := []) [] rfl
      exact W.zret (v := 1) hx hb hr rfl (fun t ht hW => ⟨⟨1, (), rfl, by simp [limK, c_1, c_2], ⟨by rw [ht]; exact hP9, va_K.moved hW.alike hK9, hD9⟩⟩, hS.F ht⟩) hS.2.2 dX11_isLimitedKind_20
    · refine lv_iload_n hx hb dX11_isLimitedKind_10 rfl (lv_at hl 0 rfl) ?_
      refine lv_iconst (v := 4) hx hb dX11_isLimitedKind_11 (by decide) ?_
      refine lv_icmp_ne (tgt := 19) hx hb dX11_isLimitedKind_12 (by decide) (fun c_3 => ?_) (fun c_3 => ?_)
      · refine lv_iconst (v := 0) hx hb dX11_isLimitedKind_19 (by decide) ?_
        have hP9 := hP.sub (ws' := []) [] rfl
        have hD9 := hD.sub (ws' := []) [] (by decide) rfl
        have hK9 := hK.sub (tys' := []) [] rfl
        exact W.zret (v := 0) hx hb hr rfl (fun t ht hW => ⟨⟨0, (), rfl, by simp [limK, c_1, c_2, c_3], ⟨by rw [ht]; exact hP9, va_K.moved hW.alike hK9, hD9⟩⟩, hS.F ht⟩) hS.2.2 dX11_isLimitedKind_20
      · refine lv_iconst (v := 1) hx hb dX11_isLimitedKind_15 (by decide) ?_
        refine lv_goto (tgt := 20) hx hb dX11_isLimitedKind_16 (by decide) ?_
        have hP9 := hP.sub (ws' := []) [] rfl
        have hD9 := hD.sub (ws' := []) [] (by decide) rfl
        have hK9 := hK.sub (tys' := []) [] rfl
        exact W.zret (v := 1) hx hb hr rfl (fun t ht hW => ⟨⟨1, (), rfl, by simp [limK, c_1, c_2, c_3], ⟨by rw [ht]; exact hP9, va_K.moved hW.alike hK9, hD9⟩⟩, hS.F ht⟩) hS.2.2 dX11_isLimitedKind_20
set_option maxHeartbeats 4000000 in
set_option maxRecDepth 100000 in
theorem k_enter (l : Launch) (D : va_G) (sz : Nat) (xa : Nat) (x0 : Nat) (x2 : Nat) (x4 : Nat) (x5 : Nat) (x6 : Nat) (x7 : Int32) (x8 : Nat) (x9 : Int32) (x10 : Int32) (k1 : Int32) (k2 : Int32) (k3 : Int32) (k4 : Int32) : Met l yX11_enter (wsM yX11_enter cX11_enter 8 (some .int)) ({ frames := 2, cells := 0, slots := 0, locals := 43 }) (va_Pc [.ref xa, .int k1, .int k2, .int k3, .int k4] (Pr D [(xa, .inr (11, [.ref x0, .int 0, .ref x2, .int 0, .ref x4, .ref x5, .ref x6, .int x7, .ref x8, .int x9, .int x10]))] [] sz)) (va_Qi (fun (r : Int32) (_ : Unit) => r = (-1)) (fun _ _ => True) (va_A [(xa, .inr (11, [.ref x0, .int 0, .ref x2, .int 0, .ref x4, .ref x5, .ref x6, .int x7, .ref x8, .int x9, .int x10]))] sz)) 0 0 (va_A [(xa, .inr (11, [.ref x0, .int 0, .ref x2, .int 0, .ref x4, .ref x5, .ref x6, .int x7, .ref x8, .int x9, .int x10]))] sz) := by
  refine Met.ofW (cc := cX11_enter) (maxL := 8) (ret := (some .int)) (by decide) rfl ?_
  intro p e s m args below meth c s₁ B hml hv
  obtain ⟨rfl, hsz, hP, hK, hD0, hN⟩ := hv
  have hx := B.exec
  have hb := B.bytes
  have hr := B.returns
  have hts := atoms_spec (ws := (wsM yX11_enter cX11_enter 8 (some .int))) B.pre
  have hg : ∀ w ∈ lw_good, w.before _ s = true := fun w h => hts w (List.mem_cons_of_mem _ h)
  have hown : s.vm.findClass RX11 = some m.cls := findClass_of_methodNamed B.named
  have hlocks := B.notSynchronized
  subst hsz
  have hD := hD0.self (sz := s.heap.size)
  generalize hAe : va_A [(xa, .inr (11, [.ref x0, .int 0, .ref x2, .int 0, .ref x4, .ref x5, .ref x6, .int x7, .ref x8, .int x9, .int x10]))] s.heap.size = A at hD ⊢
  have hA : ∀ q : Nat, s.heap.size ≤ q → A q := fun q h => by rw [← hAe]; exact Or.inr h
  have hS : va_S A s.heap s.heap [] := va_S.rf
  have hP : va_P D vwCl [(xa, .inr (11, [.ref x0, .int 0, .ref x2, .int 0, .ref x4, .ref x5, .ref x6, .int x7, .ref x8, .int x9, .int x10]))] s.heap := hP
  have hl := lv_entry ([.ref xa, .int k1, .int k2, .int k3, .int k4]) (n := 8) (Nat.le_of_ble_eq_true rfl)
  rw [lg_entry_eq]
  generalize (lg_sl ([.ref xa, .int k1, .int k2, .int k3, .int k4]) ++ List.replicate (8 - (lg_sl ([.ref xa, .int k1, .int k2, .int k3, .int k4])).length) Slot.unset).toArray = ls at hl ⊢
  have hl : lv_has ls 8 [(0, .ref xa), (1, .int k1), (2, .int k2), (3, .int k3), (4, .int k4)] := hl
  refine lv_aload_n hx hb dX11_enter_0 rfl (lv_at hl 0 rfl) ?_
  refine lv_iload_n hx hb dX11_enter_1 rfl (lv_at hl 1 rfl) ?_
  have hPc := hP.sub (ws' := [(xa, .inr (11, [.ref x0, .int 0, .ref x2, .int 0, .ref x4, .ref x5, .ref x6, .int x7, .ref x8, .int x9, .int x10]))]) [0] rfl
  have hDc := hD.sub (ws' := [(xa, .inr (11, [.ref x0, .int 0, .ref x2, .int 0, .ref x4, .ref x5, .ref x6, .int x7, .ref x8, .int x9, .int x10]))]) [0] (by decide) rfl
  have hKc := hK.sub (tys' := []) [] rfl
  have hFc := va_free (wc := [(xa, .inr (11, [.ref x0, .int 0, .ref x2, .int 0, .ref x4, .ref x5, .ref x6, .int x7, .ref x8, .int x9, .int x10]))]) hD hS hA [0] rfl
  refine va_callq (va_runV (As := [.int k1]) (rest := []) ⟨hx, hb, hml, hown, hg⟩ (k_houseAt0 l D s.heap.size xa x0 x2 x4 x5 x6 x7 x8 x9 x10 k1) (cwV 1 hg (gV wd_10 wd_11 wd_12 wd_5 wd_13) rfl rfl rfl (by decide +kernel) ⟨(Nat.le_of_ble_eq_true rfl), (Nat.le_of_ble_eq_true rfl)⟩) ⟨Pr.blind, va_recv hKc hPc (ci := 11) (q0 := 0) rfl rfl, fun U hU hW => ⟨rfl, Pr.at hPc hKc hDc hN hU hW⟩⟩ rfl rfl hl.1 rfl (lv_room (Nat.le_of_ble_eq_true rfl)) dX11_enter_2 ⟨(Nat.le_of_ble_eq_true rfl), (Nat.le_of_ble_eq_true rfl)⟩) hS (fun q _ h => hFc q h) hFc (fun r_2 u t H_1 locs ht hvm hw hB hz1 hk1 hS => ?_)
  obtain ⟨hP1, hK1, hD1⟩ := hB
  rw [ht] at hP1
  have hK1 := va_K.moved hvm.symm hK1
  obtain ⟨hP, hD⟩ := va_join (wr := []) (w1 := [(xa, .inr (11, [.ref x0, .int 0, .ref x2, .int 0, .ref x4, .ref x5, .ref x6, .int x7, .ref x8, .int x9, .int x10]))]) hP hD [0] [] rfl rfl (by decide) (by decide) hk1 hFc hP1 hD1
  have hP : va_P D vwCl [(xa, .inr (11, [.ref x0, .int 0, .ref x2, .int 0, .ref x4, .ref x5, .ref x6, .int x7, .ref x8, .int x9, .int x10]))] H_1 := hP
  have hD : va_D A [(xa, .inr (11, [.ref x0, .int 0, .ref x2, .int 0, .ref x4, .ref x5, .ref x6, .int x7, .ref x8, .int x9, .int x10]))] := hD
  subst hw
  refine lv_astoreN (lv' := [(5, .null), (0, .ref xa), (1, .int k1), (2, .int k2), (3, .int k3), (4, .int k4)]) hx hb dX11_enter_5 hl (by decide) rfl (fun ls hl => ?_)
  refine lv_aloadN hx hb dX11_enter_7 (lv_at hl 0 rfl) ?_
  refine lv_ifnonnullN hx hb dX11_enter_9 ?_
  refine lv_aload_n hx hb dX11_enter_12 rfl (lv_at hl 1 rfl) ?_
  refine lv_iconst (v := 1) hx hb dX11_enter_13 (by decide) ?_
  have hPc := hP.sub (ws' := [(xa, .inr (11, [.ref x0, .int 0, .ref x2, .int 0, .ref x4, .ref x5, .ref x6, .int x7, .ref x8, .int x9, .int x10]))]) [0] rfl
  have hDc := hD.sub (ws' := [(xa, .inr (11, [.ref x0, .int 0, .ref x2, .int 0, .ref x4, .ref x5, .ref x6, .int x7, .ref x8, .int x9, .int x10]))]) [0] (by decide) rfl
  have hKc := hK.sub (tys' := []) [] rfl
  have hFc := va_free (wc := [(xa, .inr (11, [.ref x0, .int 0, .ref x2, .int 0, .ref x4, .ref x5, .ref x6, .int x7, .ref x8, .int x9, .int x10]))]) hD hS hA [0] rfl
  refine va_calli (va_runV (As := [.int 1]) (rest := []) ⟨hx, hb, hml, hown, hg⟩ (k_refuse l D H_1.size xa x0 0 x2 0 x4 x5 x6 x7 x8 x9 x10 1) (cwV 1 hg (gV wd_14 wd_15 wd_16 wd_5 wd_17) rfl rfl rfl (by decide +kernel) ⟨(Nat.le_of_ble_eq_true rfl), (Nat.le_of_ble_eq_true rfl)⟩) ⟨Pr.blind, va_recv hKc hPc (ci := 11) (q0 := 0) rfl rfl, fun U hU hW => ⟨rfl, Pr.at hPc hKc hDc hN hU hW⟩⟩ rfl rfl hl.1 rfl (lv_room (Nat.le_of_ble_eq_true rfl)) dX11_enter_14 ⟨(Nat.le_of_ble_eq_true rfl), (Nat.le_of_ble_eq_true rfl)⟩) hS (fun q _ h => hFc q h) hFc (fun r_4 u t H_3 locs ht hvm hw hB hz1 hk1 hS => ?_)
  obtain ⟨hP1, hK1, hD1⟩ := hB
  rw [ht] at hP1
  have hK1 := va_K.moved hvm.symm hK1
  obtain ⟨hP, hD⟩ := va_join (wr := []) (w1 := [(xa, .inr (11, [.ref x0, .int 0, .ref x2, .int 0, .ref x4, .ref x5, .ref x6, .int x7, .ref x8, .int 1, .int (-1)]))]) hP hD [0] [] rfl rfl (by decide) (by decide) hk1 hFc hP1 hD1
  have hP : va_P D vwCl [(xa, .inr (11, [.ref x0, .int 0, .ref x2, .int 0, .ref x4, .ref x5, .ref x6, .int x7, .ref x8, .int 1, .int (-1)]))] H_3 := hP
  have hD : va_D A [(xa, .inr (11, [.ref x0, .int 0, .ref x2, .int 0, .ref x4, .ref x5, .ref x6, .int x7, .ref x8, .int 1, .int (-1)]))] := hD
  subst hw
  exact W.iret (v := (-1)) hx hb hr (fun t ht hW => ⟨⟨(-1), (), rfl, rfl, trivial⟩, hS.F ht⟩) hS.2.2 dX11_enter_17
set_option maxHeartbeats 4000000 in
set_option maxRecDepth 100000 in
theorem k_letter (l : Launch) (D : va_G) (sz : Nat) (xa : Nat) (x0 : Nat) (x2 : Nat) (x4 : Nat) (x5 : Nat) (x6 : Nat) (x7 : Int32) (x8 : Nat) (x9 : Int32) (x10 : Int32) (k1 : Int32) (k2 : Int32) (k3 : Int32) : Met l yX11_letter (wsM yX11_letter cX11_letter 5 (some .int)) ({ frames := 2, cells := 0, slots := 0, locals := 43 }) (va_Pc [.ref xa, .int k1, .int k2, .int k3] (Pr D [(xa, .inr (11, [.ref x0, .int 0, .ref x2, .int 0, .ref x4, .ref x5, .ref x6, .int x7, .ref x8, .int x9, .int x10]))] [] sz)) (va_Qi (fun (r : Int32) (_ : Unit) => r = (-1)) (fun _ _ => True) (va_A [(xa, .inr (11, [.ref x0, .int 0, .ref x2, .int 0, .ref x4, .ref x5, .ref x6, .int x7, .ref x8, .int x9, .int x10]))] sz)) 0 0 (va_A [(xa, .inr (11, [.ref x0, .int 0, .ref x2, .int 0, .ref x4, .ref x5, .ref x6, .int x7, .ref x8, .int x9, .int x10]))] sz) := by
  refine Met.ofW (cc := cX11_letter) (maxL := 5) (ret := (some .int)) (by decide) rfl ?_
  intro p e s m args below meth c s₁ B hml hv
  obtain ⟨rfl, hsz, hP, hK, hD0, hN⟩ := hv
  have hx := B.exec
  have hb := B.bytes
  have hr := B.returns
  have hts := atoms_spec (ws := (wsM yX11_letter cX11_letter 5 (some .int))) B.pre
  have hg : ∀ w ∈ lw_good, w.before _ s = true := fun w h => hts w (List.mem_cons_of_mem _ h)
  have hown : s.vm.findClass RX11 = some m.cls := findClass_of_methodNamed B.named
  have hlocks := B.notSynchronized
  subst hsz
  have hD := hD0.self (sz := s.heap.size)
  generalize hAe : va_A [(xa, .inr (11, [.ref x0, .int 0, .ref x2, .int 0, .ref x4, .ref x5, .ref x6, .int x7, .ref x8, .int x9, .int x10]))] s.heap.size = A at hD ⊢
  have hA : ∀ q : Nat, s.heap.size ≤ q → A q := fun q h => by rw [← hAe]; exact Or.inr h
  have hS : va_S A s.heap s.heap [] := va_S.rf
  have hP : va_P D vwCl [(xa, .inr (11, [.ref x0, .int 0, .ref x2, .int 0, .ref x4, .ref x5, .ref x6, .int x7, .ref x8, .int x9, .int x10]))] s.heap := hP
  have hl := lv_entry ([.ref xa, .int k1, .int k2, .int k3]) (n := 5) (Nat.le_of_ble_eq_true rfl)
  rw [lg_entry_eq]
  generalize (lg_sl ([.ref xa, .int k1, .int k2, .int k3]) ++ List.replicate (5 - (lg_sl ([.ref xa, .int k1, .int k2, .int k3])).length) Slot.unset).toArray = ls at hl ⊢
  have hl : lv_has ls 5 [(0, .ref xa), (1, .int k1), (2, .int k2), (3, .int k3)] := hl
  refine lv_aload_n hx hb dX11_letter_0 rfl (lv_at hl 0 rfl) ?_
  refine lv_iload_n hx hb dX11_letter_1 rfl (lv_at hl 1 rfl) ?_
  have hPc := hP.sub (ws' := [(xa, .inr (11, [.ref x0, .int 0, .ref x2, .int 0, .ref x4, .ref x5, .ref x6, .int x7, .ref x8, .int x9, .int x10]))]) [0] rfl
  have hDc := hD.sub (ws' := [(xa, .inr (11, [.ref x0, .int 0, .ref x2, .int 0, .ref x4, .ref x5, .ref x6, .int x7, .ref x8, .int x9, .int x10]))]) [0] (by decide) rfl
  have hKc := hK.sub (tys' := []) [] rfl
  have hFc := va_free (wc := [(xa, .inr (11, [.ref x0, .int 0, .ref x2, .int 0, .ref x4, .ref x5, .ref x6, .int x7, .ref x8, .int x9, .int x10]))]) hD hS hA [0] rfl
  refine va_callq (va_runV (As := [.int k1]) (rest := []) ⟨hx, hb, hml, hown, hg⟩ (k_houseAt0 l D s.heap.size xa x0 x2 x4 x5 x6 x7 x8 x9 x10 k1) (cwV 1 hg (gV wd_10 wd_11 wd_12 wd_5 wd_13) rfl rfl rfl (by decide +kernel) ⟨(Nat.le_of_ble_eq_true rfl), (Nat.le_of_ble_eq_true rfl)⟩) ⟨Pr.blind, va_recv hKc hPc (ci := 11) (q0 := 0) rfl rfl, fun U hU hW => ⟨rfl, Pr.at hPc hKc hDc hN hU hW⟩⟩ rfl rfl hl.1 rfl (lv_room (Nat.le_of_ble_eq_true rfl)) dX11_letter_2 ⟨(Nat.le_of_ble_eq_true rfl), (Nat.le_of_ble_eq_true rfl)⟩) hS (fun q _ h => hFc q h) hFc (fun r_2 u t H_1 locs ht hvm hw hB hz1 hk1 hS => ?_)
  obtain ⟨hP1, hK1, hD1⟩ := hB
  rw [ht] at hP1
  have hK1 := va_K.moved hvm.symm hK1
  obtain ⟨hP, hD⟩ := va_join (wr := []) (w1 := [(xa, .inr (11, [.ref x0, .int 0, .ref x2, .int 0, .ref x4, .ref x5, .ref x6, .int x7, .ref x8, .int x9, .int x10]))]) hP hD [0] [] rfl rfl (by decide) (by decide) hk1 hFc hP1 hD1
  have hP : va_P D vwCl [(xa, .inr (11, [.ref x0, .int 0, .ref x2, .int 0, .ref x4, .ref x5, .ref x6, .int x7, .ref x8, .int x9, .int x10]))] H_1 := hP
  have hD : va_D A [(xa, .inr (11, [.ref x0, .int 0, .ref x2, .int 0, .ref x4, .ref x5, .ref x6, .int x7, .ref x8, .int x9, .int x10]))] := hD
  subst hw
  refine lv_astoreN (lv' := [(4, .null), (0, .ref xa), (1, .int k1), (2, .int k2), (3, .int k3)]) hx hb dX11_letter_5 hl (by decide) rfl (fun ls hl => ?_)
  refine lv_aloadN hx hb dX11_letter_7 (lv_at hl 0 rfl) ?_
  refine lv_ifnullN (tgt := 19) hx hb dX11_letter_9 (by decide) ?_
  refine lv_aload_n hx hb dX11_letter_19 rfl (lv_at hl 1 rfl) ?_
  refine lv_iconst (v := 1) hx hb dX11_letter_20 (by decide) ?_
  have hPc := hP.sub (ws' := [(xa, .inr (11, [.ref x0, .int 0, .ref x2, .int 0, .ref x4, .ref x5, .ref x6, .int x7, .ref x8, .int x9, .int x10]))]) [0] rfl
  have hDc := hD.sub (ws' := [(xa, .inr (11, [.ref x0, .int 0, .ref x2, .int 0, .ref x4, .ref x5, .ref x6, .int x7, .ref x8, .int x9, .int x10]))]) [0] (by decide) rfl
  have hKc := hK.sub (tys' := []) [] rfl
  have hFc := va_free (wc := [(xa, .inr (11, [.ref x0, .int 0, .ref x2, .int 0, .ref x4, .ref x5, .ref x6, .int x7, .ref x8, .int x9, .int x10]))]) hD hS hA [0] rfl
  refine va_calli (va_runV (As := [.int 1]) (rest := []) ⟨hx, hb, hml, hown, hg⟩ (k_refuse l D H_1.size xa x0 0 x2 0 x4 x5 x6 x7 x8 x9 x10 1) (cwV 1 hg (gV wd_14 wd_15 wd_16 wd_5 wd_17) rfl rfl rfl (by decide +kernel) ⟨(Nat.le_of_ble_eq_true rfl), (Nat.le_of_ble_eq_true rfl)⟩) ⟨Pr.blind, va_recv hKc hPc (ci := 11) (q0 := 0) rfl rfl, fun U hU hW => ⟨rfl, Pr.at hPc hKc hDc hN hU hW⟩⟩ rfl rfl hl.1 rfl (lv_room (Nat.le_of_ble_eq_true rfl)) dX11_letter_21 ⟨(Nat.le_of_ble_eq_true rfl), (Nat.le_of_ble_eq_true rfl)⟩) hS (fun q _ h => hFc q h) hFc (fun r_4 u t H_3 locs ht hvm hw hB hz1 hk1 hS => ?_)
  obtain ⟨hP1, hK1, hD1⟩ := hB
  rw [ht] at hP1
  have hK1 := va_K.moved hvm.symm hK1
  obtain ⟨hP, hD⟩ := va_join (wr := []) (w1 := [(xa, .inr (11, [.ref x0, .int 0, .ref x2, .int 0, .ref x4, .ref x5, .ref x6, .int x7, .ref x8, .int 1, .int (-1)]))]) hP hD [0] [] rfl rfl (by decide) (by decide) hk1 hFc hP1 hD1
  have hP : va_P D vwCl [(xa, .inr (11, [.ref x0, .int 0, .ref x2, .int 0, .ref x4, .ref x5, .ref x6, .int x7, .ref x8, .int 1, .int (-1)]))] H_3 := hP
  have hD : va_D A [(xa, .inr (11, [.ref x0, .int 0, .ref x2, .int 0, .ref x4, .ref x5, .ref x6, .int x7, .ref x8, .int 1, .int (-1)]))] := hD
  subst hw
  exact W.iret (v := (-1)) hx hb hr (fun t ht hW => ⟨⟨(-1), (), rfl, rfl, trivial⟩, hS.F ht⟩) hS.2.2 dX11_letter_24
set_option maxHeartbeats 4000000 in
set_option maxRecDepth 100000 in
theorem k_unseal (l : Launch) (D : va_G) (sz : Nat) (xa : Nat) (x0 : Nat) (x2 : Nat) (x4 : Nat) (x5 : Nat) (x6 : Nat) (x7 : Int32) (x8 : Nat) (x9 : Int32) (x10 : Int32) (k1 : Int32) (k2 : Int32) : Met l yX11_unseal (wsM yX11_unseal cX11_unseal 5 (some .int)) ({ frames := 2, cells := 0, slots := 0, locals := 43 }) (va_Pc [.ref xa, .int k1, .int k2] (Pr D [(xa, .inr (11, [.ref x0, .int 0, .ref x2, .int 0, .ref x4, .ref x5, .ref x6, .int x7, .ref x8, .int x9, .int x10]))] [] sz)) (va_Qi (fun (r : Int32) (_ : Unit) => r = (-1)) (fun _ _ => True) (va_A [(xa, .inr (11, [.ref x0, .int 0, .ref x2, .int 0, .ref x4, .ref x5, .ref x6, .int x7, .ref x8, .int x9, .int x10]))] sz)) 0 0 (va_A [(xa, .inr (11, [.ref x0, .int 0, .ref x2, .int 0, .ref x4, .ref x5, .ref x6, .int x7, .ref x8, .int x9, .int x10]))] sz) := by
  refine Met.ofW (cc := cX11_unseal) (maxL := 5) (ret := (some .int)) (by decide) rfl ?_
  intro p e s m args below meth c s₁ B hml hv
  obtain ⟨rfl, hsz, hP, hK, hD0, hN⟩ := hv
  have hx := B.exec
  have hb := B.bytes
  have hr := B.returns
  have hts := atoms_spec (ws := (wsM yX11_unseal cX11_unseal 5 (some .int))) B.pre
  have hg : ∀ w ∈ lw_good, w.before _ s = true := fun w h => hts w (List.mem_cons_of_mem _ h)
  have hown : s.vm.findClass RX11 = some m.cls := findClass_of_methodNamed B.named
  have hlocks := B.notSynchronized
  subst hsz
  have hD := hD0.self (sz := s.heap.size)
  generalize hAe : va_A [(xa, .inr (11, [.ref x0, .int 0, .ref x2, .int 0, .ref x4, .ref x5, .ref x6, .int x7, .ref x8, .int x9, .int x10]))] s.heap.size = A at hD ⊢
  have hA : ∀ q : Nat, s.heap.size ≤ q → A q := fun q h => by rw [← hAe]; exact Or.inr h
  have hS : va_S A s.heap s.heap [] := va_S.rf
  have hP : va_P D vwCl [(xa, .inr (11, [.ref x0, .int 0, .ref x2, .int 0, .ref x4, .ref x5, .ref x6, .int x7, .ref x8, .int x9, .int x10]))] s.heap := hP
  have hl := lv_entry ([.ref xa, .int k1, .int k2]) (n := 5) (Nat.le_of_ble_eq_true rfl)
  rw [lg_entry_eq]
  generalize (lg_sl ([.ref xa, .int k1, .int k2]) ++ List.replicate (5 - (lg_sl ([.ref xa, .int k1, .int k2])).length) Slot.unset).toArray = ls at hl ⊢
  have hl : lv_has ls 5 [(0, .ref xa), (1, .int k1), (2, .int k2)] := hl
  refine lv_aload_n hx hb dX11_unseal_0 rfl (lv_at hl 0 rfl) ?_
  refine lv_iload_n hx hb dX11_unseal_1 rfl (lv_at hl 1 rfl) ?_
  have hPc := hP.sub (ws' := [(xa, .inr (11, [.ref x0, .int 0, .ref x2, .int 0, .ref x4, .ref x5, .ref x6, .int x7, .ref x8, .int x9, .int x10]))]) [0] rfl
  have hDc := hD.sub (ws' := [(xa, .inr (11, [.ref x0, .int 0, .ref x2, .int 0, .ref x4, .ref x5, .ref x6, .int x7, .ref x8, .int x9, .int x10]))]) [0] (by decide) rfl
  have hKc := hK.sub (tys' := []) [] rfl
  have hFc := va_free (wc := [(xa, .inr (11, [.ref x0, .int 0, .ref x2, .int 0, .ref x4, .ref x5, .ref x6, .int x7, .ref x8, .int x9, .int x10]))]) hD hS hA [0] rfl
  refine va_callq (va_runV (As := [.int k1]) (rest := []) ⟨hx, hb, hml, hown, hg⟩ (k_houseAt0 l D s.heap.size xa x0 x2 x4 x5 x6 x7 x8 x9 x10 k1) (cwV 1 hg (gV wd_10 wd_11 wd_12 wd_5 wd_13) rfl rfl rfl (by decide +kernel) ⟨(Nat.le_of_ble_eq_true rfl), (Nat.le_of_ble_eq_true rfl)⟩) ⟨Pr.blind, va_recv hKc hPc (ci := 11) (q0 := 0) rfl rfl, fun U hU hW => ⟨rfl, Pr.at hPc hKc hDc hN hU hW⟩⟩ rfl rfl hl.1 rfl (lv_room (Nat.le_of_ble_eq_true rfl)) dX11_unseal_2 ⟨(Nat.le_of_ble_eq_true rfl), (Nat.le_of_ble_eq_true rfl)⟩) hS (fun q _ h => hFc q h) hFc (fun r_2 u t H_1 locs ht hvm hw hB hz1 hk1 hS => ?_)
  obtain ⟨hP1, hK1, hD1⟩ := hB
  rw [ht] at hP1
  have hK1 := va_K.moved hvm.symm hK1
  obtain ⟨hP, hD⟩ := va_join (wr := []) (w1 := [(xa, .inr (11, [.ref x0, .int 0, .ref x2, .int 0, .ref x4, .ref x5, .ref x6, .int x7, .ref x8, .int x9, .int x10]))]) hP hD [0] [] rfl rfl (by decide) (by decide) hk1 hFc hP1 hD1
  have hP : va_P D vwCl [(xa, .inr (11, [.ref x0, .int 0, .ref x2, .int 0, .ref x4, .ref x5, .ref x6, .int x7, .ref x8, .int x9, .int x10]))] H_1 := hP
  have hD : va_D A [(xa, .inr (11, [.ref x0, .int 0, .ref x2, .int 0, .ref x4, .ref x5, .ref x6, .int x7, .ref x8, .int x9, .int x10]))] := hD
  subst hw
  refine lv_astore_nN (lv' := [(3, .null), (0, .ref xa), (1, .int k1), (2, .int k2)]) hx hb dX11_unseal_5 rfl hl (by decide) rfl (fun ls hl => ?_)
  refine lv_aload_nN hx hb dX11_unseal_6 rfl (lv_at hl 0 rfl) ?_
  refine lv_ifnullN (tgt := 17) hx hb dX11_unseal_7 (by decide) ?_
  refine lv_aload_n hx hb dX11_unseal_17 rfl (lv_at hl 1 rfl) ?_
  refine lv_iconst (v := 1) hx hb dX11_unseal_18 (by decide) ?_
  have hPc := hP.sub (ws' := [(xa, .inr (11, [.ref x0, .int 0, .ref x2, .int 0, .ref x4, .ref x5, .ref x6, .int x7, .ref x8, .int x9, .int x10]))]) [0] rfl
  have hDc := hD.sub (ws' := [(xa, .inr (11, [.ref x0, .int 0, .ref x2, .int 0, .ref x4, .ref x5, .ref x6, .int x7, .ref x8, .int x9, .int x10]))]) [0] (by decide) rfl
  have hKc := hK.sub (tys' := []) [] rfl
  have hFc := va_free (wc := [(xa, .inr (11, [.ref x0, .int 0, .ref x2, .int 0, .ref x4, .ref x5, .ref x6, .int x7, .ref x8, .int x9, .int x10]))]) hD hS hA [0] rfl
  refine va_calli (va_runV (As := [.int 1]) (rest := []) ⟨hx, hb, hml, hown, hg⟩ (k_refuse l D H_1.size xa x0 0 x2 0 x4 x5 x6 x7 x8 x9 x10 1) (cwV 1 hg (gV wd_14 wd_15 wd_16 wd_5 wd_17) rfl rfl rfl (by decide +kernel) ⟨(Nat.le_of_ble_eq_true rfl), (Nat.le_of_ble_eq_true rfl)⟩) ⟨Pr.blind, va_recv hKc hPc (ci := 11) (q0 := 0) rfl rfl, fun U hU hW => ⟨rfl, Pr.at hPc hKc hDc hN hU hW⟩⟩ rfl rfl hl.1 rfl (lv_room (Nat.le_of_ble_eq_true rfl)) dX11_unseal_19 ⟨(Nat.le_of_ble_eq_true rfl), (Nat.le_of_ble_eq_true rfl)⟩) hS (fun q _ h => hFc q h) hFc (fun r_4 u t H_3 locs ht hvm hw hB hz1 hk1 hS => ?_)
  obtain ⟨hP1, hK1, hD1⟩ := hB
  rw [ht] at hP1
  have hK1 := va_K.moved hvm.symm hK1
  obtain ⟨hP, hD⟩ := va_join (wr := []) (w1 := [(xa, .inr (11, [.ref x0, .int 0, .ref x2, .int 0, .ref x4, .ref x5, .ref x6, .int x7, .ref x8, .int 1, .int (-1)]))]) hP hD [0] [] rfl rfl (by decide) (by decide) hk1 hFc hP1 hD1
  have hP : va_P D vwCl [(xa, .inr (11, [.ref x0, .int 0, .ref x2, .int 0, .ref x4, .ref x5, .ref x6, .int x7, .ref x8, .int 1, .int (-1)]))] H_3 := hP
  have hD : va_D A [(xa, .inr (11, [.ref x0, .int 0, .ref x2, .int 0, .ref x4, .ref x5, .ref x6, .int x7, .ref x8, .int 1, .int (-1)]))] := hD
  subst hw
  exact W.iret (v := (-1)) hx hb hr (fun t ht hW => ⟨⟨(-1), (), rfl, rfl, trivial⟩, hS.F ht⟩) hS.2.2 dX11_unseal_22
set_option maxHeartbeats 4000000 in
set_option maxRecDepth 100000 in
theorem k_holds (l : Launch) (D : va_G) (sz : Nat) (xa : Nat) (x0 : Nat) (x2 : Nat) (x4 : Nat) (x5 : Nat) (x6 : Nat) (x7 : Int32) (x8 : Nat) (x9 : Int32) (x10 : Int32) (k1 : Int32) (k2 : Int32) : Met l yX11_holds (wsM yX11_holds cX11_holds 5 (some .int)) ({ frames := 2, cells := 0, slots := 0, locals := 43 }) (va_Pc [.ref xa, .int k1, .int k2] (Pr D [(xa, .inr (11, [.ref x0, .int 0, .ref x2, .int 0, .ref x4, .ref x5, .ref x6, .int x7, .ref x8, .int x9, .int x10]))] [] sz)) (va_Qi (fun (r : Int32) (_ : Unit) => r = (-1)) (fun _ _ => True) (va_A [(xa, .inr (11, [.ref x0, .int 0, .ref x2, .int 0, .ref x4, .ref x5, .ref x6, .int x7, .ref x8, .int x9, .int x10]))] sz)) 0 0 (va_A [(xa, .inr (11, [.ref x0, .int 0, .ref x2, .int 0, .ref x4, .ref x5, .ref x6, .int x7, .ref x8, .int x9, .int x10]))] sz) := by
  refine Met.ofW (cc := cX11_holds) (maxL := 5) (ret := (some .int)) (by decide) rfl ?_
  intro p e s m args below meth c s₁ B hml hv
  obtain ⟨rfl, hsz, hP, hK, hD0, hN⟩ := hv
  have hx := B.exec
  have hb := B.bytes
  have hr := B.returns
  have hts := atoms_spec (ws := (wsM yX11_holds cX11_holds 5 (some .int))) B.pre
  have hg : ∀ w ∈ lw_good, w.before _ s = true := fun w h => hts w (List.mem_cons_of_mem _ h)
  have hown : s.vm.findClass RX11 = some m.cls := findClass_of_methodNamed B.named
  have hlocks := B.notSynchronized
  subst hsz
  have hD := hD0.self (sz := s.heap.size)
  generalize hAe : va_A [(xa, .inr (11, [.ref x0, .int 0, .ref x2, .int 0, .ref x4, .ref x5, .ref x6, .int x7, .ref x8, .int x9, .int x10]))] s.heap.size = A at hD ⊢
  have hA : ∀ q : Nat, s.heap.size ≤ q → A q := fun q h => by rw [← hAe]; exact Or.inr h
  have hS : va_S A s.heap s.heap [] := va_S.rf
  have hP : va_P D vwCl [(xa, .inr (11, [.ref x0, .int 0, .ref x2, .int 0, .ref x4, .ref x5, .ref x6, .int x7, .ref x8, .int x9, .int x10]))] s.heap := hP
  have hl := lv_entry ([.ref xa, .int k1, .int k2]) (n := 5) (Nat.le_of_ble_eq_true rfl)
  rw [lg_entry_eq]
  generalize (lg_sl ([.ref xa, .int k1, .int k2]) ++ List.replicate (5 - (lg_sl ([.ref xa, .int k1, .int k2])).length) Slot.unset).toArray = ls at hl ⊢
  have hl : lv_has ls 5 [(0, .ref xa), (1, .int k1), (2, .int k2)] := hl
  refine lv_aload_n hx hb dX11_holds_0 rfl (lv_at hl 0 rfl) ?_
  refine lv_iload_n hx hb dX11_holds_1 rfl (lv_at hl 1 rfl) ?_
  have hPc := hP.sub (ws' := [(xa, .inr (11, [.ref x0, .int 0, .ref x2, .int 0, .ref x4, .ref x5, .ref x6, .int x7, .ref x8, .int x9, .int x10]))]) [0] rfl
  have hDc := hD.sub (ws' := [(xa, .inr (11, [.ref x0, .int 0, .ref x2, .int 0, .ref x4, .ref x5, .ref x6, .int x7, .ref x8, .int x9, .int x10]))]) [0] (by decide) rfl
  have hKc := hK.sub (tys' := []) [] rfl
  have hFc := va_free (wc := [(xa, .inr (11, [.ref x0, .int 0, .ref x2, .int 0, .ref x4, .ref x5, .ref x6, .int x7, .ref x8, .int x9, .int x10]))]) hD hS hA [0] rfl
  refine va_callq (va_runV (As := [.int k1]) (rest := []) ⟨hx, hb, hml, hown, hg⟩ (k_houseAt0 l D s.heap.size xa x0 x2 x4 x5 x6 x7 x8 x9 x10 k1) (cwV 1 hg (gV wd_10 wd_11 wd_12 wd_5 wd_13) rfl rfl rfl (by decide +kernel) ⟨(Nat.le_of_ble_eq_true rfl), (Nat.le_of_ble_eq_true rfl)⟩) ⟨Pr.blind, va_recv hKc hPc (ci := 11) (q0 := 0) rfl rfl, fun U hU hW => ⟨rfl, Pr.at hPc hKc hDc hN hU hW⟩⟩ rfl rfl hl.1 rfl (lv_room (Nat.le_of_ble_eq_true rfl)) dX11_holds_2 ⟨(Nat.le_of_ble_eq_true rfl), (Nat.le_of_ble_eq_true rfl)⟩) hS (fun q _ h => hFc q h) hFc (fun r_2 u t H_1 locs ht hvm hw hB hz1 hk1 hS => ?_)
  obtain ⟨hP1, hK1, hD1⟩ := hB
  rw [ht] at hP1
  have hK1 := va_K.moved hvm.symm hK1
  obtain ⟨hP, hD⟩ := va_join (wr := []) (w1 := [(xa, .inr (11, [.ref x0, .int 0, .ref x2, .int 0, .ref x4, .ref x5, .ref x6, .int x7, .ref x8, .int x9, .int x10]))]) hP hD [0] [] rfl rfl (by decide) (by decide) hk1 hFc hP1 hD1
  have hP : va_P D vwCl [(xa, .inr (11, [.ref x0, .int 0, .ref x2, .int 0, .ref x4, .ref x5, .ref x6, .int x7, .ref x8, .int x9, .int x10]))] H_1 := hP
  have hD : va_D A [(xa, .inr (11, [.ref x0, .int 0, .ref x2, .int 0, .ref x4, .ref x5, .ref x6, .int x7, .ref x8, .int x9, .int x10]))] := hD
  subst hw
  refine lv_astore_nN (lv' := [(3, .null), (0, .ref xa), (1, .int k1), (2, .int k2)]) hx hb dX11_holds_5 rfl hl (by decide) rfl (fun ls hl => ?_)
  refine lv_aload_nN hx hb dX11_holds_6 rfl (lv_at hl 0 rfl) ?_
  refine lv_ifnullN (tgt := 17) hx hb dX11_holds_7 (by decide) ?_
  refine lv_aload_n hx hb dX11_holds_17 rfl (lv_at hl 1 rfl) ?_
  refine lv_iconst (v := 1) hx hb dX11_holds_18 (by decide) ?_
  have hPc := hP.sub (ws' := [(xa, .inr (11, [.ref x0, .int 0, .ref x2, .int 0, .ref x4, .ref x5, .ref x6, .int x7, .ref x8, .int x9, .int x10]))]) [0] rfl
  have hDc := hD.sub (ws' := [(xa, .inr (11, [.ref x0, .int 0, .ref x2, .int 0, .ref x4, .ref x5, .ref x6, .int x7, .ref x8, .int x9, .int x10]))]) [0] (by decide) rfl
  have hKc := hK.sub (tys' := []) [] rfl
  have hFc := va_free (wc := [(xa, .inr (11, [.ref x0, .int 0, .ref x2, .int 0, .ref x4, .ref x5, .ref x6, .int x7, .ref x8, .int x9, .int x10]))]) hD hS hA [0] rfl
  refine va_calli (va_runV (As := [.int 1]) (rest := []) ⟨hx, hb, hml, hown, hg⟩ (k_refuse l D H_1.size xa x0 0 x2 0 x4 x5 x6 x7 x8 x9 x10 1) (cwV 1 hg (gV wd_14 wd_15 wd_16 wd_5 wd_17) rfl rfl rfl (by decide +kernel) ⟨(Nat.le_of_ble_eq_true rfl), (Nat.le_of_ble_eq_true rfl)⟩) ⟨Pr.blind, va_recv hKc hPc (ci := 11) (q0 := 0) rfl rfl, fun U hU hW => ⟨rfl, Pr.at hPc hKc hDc hN hU hW⟩⟩ rfl rfl hl.1 rfl (lv_room (Nat.le_of_ble_eq_true rfl)) dX11_holds_19 ⟨(Nat.le_of_ble_eq_true rfl), (Nat.le_of_ble_eq_true rfl)⟩) hS (fun q _ h => hFc q h) hFc (fun r_4 u t H_3 locs ht hvm hw hB hz1 hk1 hS => ?_)
  obtain ⟨hP1, hK1, hD1⟩ := hB
  rw [ht] at hP1
  have hK1 := va_K.moved hvm.symm hK1
  obtain ⟨hP, hD⟩ := va_join (wr := []) (w1 := [(xa, .inr (11, [.ref x0, .int 0, .ref x2, .int 0, .ref x4, .ref x5, .ref x6, .int x7, .ref x8, .int 1, .int (-1)]))]) hP hD [0] [] rfl rfl (by decide) (by decide) hk1 hFc hP1 hD1
  have hP : va_P D vwCl [(xa, .inr (11, [.ref x0, .int 0, .ref x2, .int 0, .ref x4, .ref x5, .ref x6, .int x7, .ref x8, .int 1, .int (-1)]))] H_3 := hP
  have hD : va_D A [(xa, .inr (11, [.ref x0, .int 0, .ref x2, .int 0, .ref x4, .ref x5, .ref x6, .int x7, .ref x8, .int 1, .int (-1)]))] := hD
  subst hw
  exact W.iret (v := (-1)) hx hb hr (fun t ht hW => ⟨⟨(-1), (), rfl, rfl, trivial⟩, hS.F ht⟩) hS.2.2 dX11_holds_22
set_option maxHeartbeats 4000000 in
set_option maxRecDepth 100000 in
theorem k_leave (l : Launch) (D : va_G) (sz : Nat) (xa : Nat) (x0 : Nat) (x2 : Nat) (x4 : Nat) (x5 : Nat) (x6 : Nat) (x7 : Int32) (x8 : Nat) (x9 : Int32) (x10 : Int32) (k1 : Int32) (k2 : Int32) (k3 : Int32) (k4 : Int32) (k5 : Int32) : Met l yX11_leave (wsM yX11_leave cX11_leave 8 (some .int)) ({ frames := 2, cells := 0, slots := 0, locals := 43 }) (va_Pc [.ref xa, .int k1, .int k2, .int k3, .int k4, .int k5] (Pr D [(xa, .inr (11, [.ref x0, .int 0, .ref x2, .int 0, .ref x4, .ref x5, .ref x6, .int x7, .ref x8, .int x9, .int x10]))] [] sz)) (va_Qi (fun (r : Int32) (_ : Unit) => r = (-1)) (fun _ _ => True) (va_A [(xa, .inr (11, [.ref x0, .int 0, .ref x2, .int 0, .ref x4, .ref x5, .ref x6, .int x7, .ref x8, .int x9, .int x10]))] sz)) 0 0 (va_A [(xa, .inr (11, [.ref x0, .int 0, .ref x2, .int 0, .ref x4, .ref x5, .ref x6, .int x7, .ref x8, .int x9, .int x10]))] sz) := by
  refine Met.ofW (cc := cX11_leave) (maxL := 8) (ret := (some .int)) (by decide) rfl ?_
  intro p e s m args below meth c s₁ B hml hv
  obtain ⟨rfl, hsz, hP, hK, hD0, hN⟩ := hv
  have hx := B.exec
  have hb := B.bytes
  have hr := B.returns
  have hts := atoms_spec (ws := (wsM yX11_leave cX11_leave 8 (some .int))) B.pre
  have hg : ∀ w ∈ lw_good, w.before _ s = true := fun w h => hts w (List.mem_cons_of_mem _ h)
  have hown : s.vm.findClass RX11 = some m.cls := findClass_of_methodNamed B.named
  have hlocks := B.notSynchronized
  subst hsz
  have hD := hD0.self (sz := s.heap.size)
  generalize hAe : va_A [(xa, .inr (11, [.ref x0, .int 0, .ref x2, .int 0, .ref x4, .ref x5, .ref x6, .int x7, .ref x8, .int x9, .int x10]))] s.heap.size = A at hD ⊢
  have hA : ∀ q : Nat, s.heap.size ≤ q → A q := fun q h => by rw [← hAe]; exact Or.inr h
  have hS : va_S A s.heap s.heap [] := va_S.rf
  have hP : va_P D vwCl [(xa, .inr (11, [.ref x0, .int 0, .ref x2, .int 0, .ref x4, .ref x5, .ref x6, .int x7, .ref x8, .int x9, .int x10]))] s.heap := hP
  have hl := lv_entry ([.ref xa, .int k1, .int k2, .int k3, .int k4, .int k5]) (n := 8) (Nat.le_of_ble_eq_true rfl)
  rw [lg_entry_eq]
  generalize (lg_sl ([.ref xa, .int k1, .int k2, .int k3, .int k4, .int k5]) ++ List.replicate (8 - (lg_sl ([.ref xa, .int k1, .int k2, .int k3, .int k4, .int k5])).length) Slot.unset).toArray = ls at hl ⊢
  have hl : lv_has ls 8 [(0, .ref xa), (1, .int k1), (2, .int k2), (3, .int k3), (4, .int k4), (5, .int k5)] := hl
  refine lv_aload_n hx hb dX11_leave_0 rfl (lv_at hl 0 rfl) ?_
  refine lv_iload_n hx hb dX11_leave_1 rfl (lv_at hl 1 rfl) ?_
  have hPc := hP.sub (ws' := [(xa, .inr (11, [.ref x0, .int 0, .ref x2, .int 0, .ref x4, .ref x5, .ref x6, .int x7, .ref x8, .int x9, .int x10]))]) [0] rfl
  have hDc := hD.sub (ws' := [(xa, .inr (11, [.ref x0, .int 0, .ref x2, .int 0, .ref x4, .ref x5, .ref x6, .int x7, .ref x8, .int x9, .int x10]))]) [0] (by decide) rfl
  have hKc := hK.sub (tys' := []) [] rfl
  have hFc := va_free (wc := [(xa, .inr (11, [.ref x0, .int 0, .ref x2, .int 0, .ref x4, .ref x5, .ref x6, .int x7, .ref x8, .int x9, .int x10]))]) hD hS hA [0] rfl
  refine va_callq (va_runV (As := [.int k1]) (rest := []) ⟨hx, hb, hml, hown, hg⟩ (k_houseAt0 l D s.heap.size xa x0 x2 x4 x5 x6 x7 x8 x9 x10 k1) (cwV 1 hg (gV wd_10 wd_11 wd_12 wd_5 wd_13) rfl rfl rfl (by decide +kernel) ⟨(Nat.le_of_ble_eq_true rfl), (Nat.le_of_ble_eq_true rfl)⟩) ⟨Pr.blind, va_recv hKc hPc (ci := 11) (q0 := 0) rfl rfl, fun U hU hW => ⟨rfl, Pr.at hPc hKc hDc hN hU hW⟩⟩ rfl rfl hl.1 rfl (lv_room (Nat.le_of_ble_eq_true rfl)) dX11_leave_2 ⟨(Nat.le_of_ble_eq_true rfl), (Nat.le_of_ble_eq_true rfl)⟩) hS (fun q _ h => hFc q h) hFc (fun r_2 u t H_1 locs ht hvm hw hB hz1 hk1 hS => ?_)
  obtain ⟨hP1, hK1, hD1⟩ := hB
  rw [ht] at hP1
  have hK1 := va_K.moved hvm.symm hK1
  obtain ⟨hP, hD⟩ := va_join (wr := []) (w1 := [(xa, .inr (11, [.ref x0, .int 0, .ref x2, .int 0, .ref x4, .ref x5, .ref x6, .int x7, .ref x8, .int x9, .int x10]))]) hP hD [0] [] rfl rfl (by decide) (by decide) hk1 hFc hP1 hD1
  have hP : va_P D vwCl [(xa, .inr (11, [.ref x0, .int 0, .ref x2, .int 0, .ref x4, .ref x5, .ref x6, .int x7, .ref x8, .int x9, .int x10]))] H_1 := hP
  have hD : va_D A [(xa, .inr (11, [.ref x0, .int 0, .ref x2, .int 0, .ref x4, .ref x5, .ref x6, .int x7, .ref x8, .int x9, .int x10]))] := hD
  subst hw
  refine lv_astoreN (lv' := [(6, .null), (0, .ref xa), (1, .int k1), (2, .int k2), (3, .int k3), (4, .int k4), (5, .int k5)]) hx hb dX11_leave_5 hl (by decide) rfl (fun ls hl => ?_)
  refine lv_aloadN hx hb dX11_leave_7 (lv_at hl 0 rfl) ?_
  refine lv_ifnullN (tgt := 19) hx hb dX11_leave_9 (by decide) ?_
  refine lv_aload_n hx hb dX11_leave_19 rfl (lv_at hl 1 rfl) ?_
  refine lv_iconst (v := 1) hx hb dX11_leave_20 (by decide) ?_
  have hPc := hP.sub (ws' := [(xa, .inr (11, [.ref x0, .int 0, .ref x2, .int 0, .ref x4, .ref x5, .ref x6, .int x7, .ref x8, .int x9, .int x10]))]) [0] rfl
  have hDc := hD.sub (ws' := [(xa, .inr (11, [.ref x0, .int 0, .ref x2, .int 0, .ref x4, .ref x5, .ref x6, .int x7, .ref x8, .int x9, .int x10]))]) [0] (by decide) rfl
  have hKc := hK.sub (tys' := []) [] rfl
  have hFc := va_free (wc := [(xa, .inr (11, [.ref x0, .int 0, .ref x2, .int 0, .ref x4, .ref x5, .ref x6, .int x7, .ref x8, .int x9, .int x10]))]) hD hS hA [0] rfl
  refine va_calli (va_runV (As := [.int 1]) (rest := []) ⟨hx, hb, hml, hown, hg⟩ (k_refuse l D H_1.size xa x0 0 x2 0 x4 x5 x6 x7 x8 x9 x10 1) (cwV 1 hg (gV wd_14 wd_15 wd_16 wd_5 wd_17) rfl rfl rfl (by decide +kernel) ⟨(Nat.le_of_ble_eq_true rfl), (Nat.le_of_ble_eq_true rfl)⟩) ⟨Pr.blind, va_recv hKc hPc (ci := 11) (q0 := 0) rfl rfl, fun U hU hW => ⟨rfl, Pr.at hPc hKc hDc hN hU hW⟩⟩ rfl rfl hl.1 rfl (lv_room (Nat.le_of_ble_eq_true rfl)) dX11_leave_21 ⟨(Nat.le_of_ble_eq_true rfl), (Nat.le_of_ble_eq_true rfl)⟩) hS (fun q _ h => hFc q h) hFc (fun r_4 u t H_3 locs ht hvm hw hB hz1 hk1 hS => ?_)
  obtain ⟨hP1, hK1, hD1⟩ := hB
  rw [ht] at hP1
  have hK1 := va_K.moved hvm.symm hK1
  obtain ⟨hP, hD⟩ := va_join (wr := []) (w1 := [(xa, .inr (11, [.ref x0, .int 0, .ref x2, .int 0, .ref x4, .ref x5, .ref x6, .int x7, .ref x8, .int 1, .int (-1)]))]) hP hD [0] [] rfl rfl (by decide) (by decide) hk1 hFc hP1 hD1
  have hP : va_P D vwCl [(xa, .inr (11, [.ref x0, .int 0, .ref x2, .int 0, .ref x4, .ref x5, .ref x6, .int x7, .ref x8, .int 1, .int (-1)]))] H_3 := hP
  have hD : va_D A [(xa, .inr (11, [.ref x0, .int 0, .ref x2, .int 0, .ref x4, .ref x5, .ref x6, .int x7, .ref x8, .int 1, .int (-1)]))] := hD
  subst hw
  exact W.iret (v := (-1)) hx hb hr (fun t ht hW => ⟨⟨(-1), (), rfl, rfl, trivial⟩, hS.F ht⟩) hS.2.2 dX11_leave_24
set_option maxHeartbeats 4000000 in
set_option maxRecDepth 100000 in
theorem k_die (l : Launch) (D : va_G) (sz : Nat) (xa : Nat) (x0 : Nat) (x2 : Nat) (x4 : Nat) (x5 : Nat) (x6 : Nat) (x7 : Int32) (x8 : Nat) (x9 : Int32) (x10 : Int32) (k1 : Int32) (k2 : Int32) (k3 : Int32) (k4 : Int32) : Met l yX11_die (wsM yX11_die cX11_die 9 (some .int)) ({ frames := 2, cells := 0, slots := 0, locals := 43 }) (va_Pc [.ref xa, .int k1, .int k2, .int k3, .int k4] (Pr D [(xa, .inr (11, [.ref x0, .int 0, .ref x2, .int 0, .ref x4, .ref x5, .ref x6, .int x7, .ref x8, .int x9, .int x10]))] [] sz)) (va_Qi (fun (r : Int32) (_ : Unit) => r = (-1)) (fun _ _ => True) (va_A [(xa, .inr (11, [.ref x0, .int 0, .ref x2, .int 0, .ref x4, .ref x5, .ref x6, .int x7, .ref x8, .int x9, .int x10]))] sz)) 0 0 (va_A [(xa, .inr (11, [.ref x0, .int 0, .ref x2, .int 0, .ref x4, .ref x5, .ref x6, .int x7, .ref x8, .int x9, .int x10]))] sz) := by
  refine Met.ofW (cc := cX11_die) (maxL := 9) (ret := (some .int)) (by decide) rfl ?_
  intro p e s m args below meth c s₁ B hml hv
  obtain ⟨rfl, hsz, hP, hK, hD0, hN⟩ := hv
  have hx := B.exec
  have hb := B.bytes
  have hr := B.returns
  have hts := atoms_spec (ws := (wsM yX11_die cX11_die 9 (some .int))) B.pre
  have hg : ∀ w ∈ lw_good, w.before _ s = true := fun w h => hts w (List.mem_cons_of_mem _ h)
  have hown : s.vm.findClass RX11 = some m.cls := findClass_of_methodNamed B.named
  have hlocks := B.notSynchronized
  subst hsz
  have hD := hD0.self (sz := s.heap.size)
  generalize hAe : va_A [(xa, .inr (11, [.ref x0, .int 0, .ref x2, .int 0, .ref x4, .ref x5, .ref x6, .int x7, .ref x8, .int x9, .int x10]))] s.heap.size = A at hD ⊢
  have hA : ∀ q : Nat, s.heap.size ≤ q → A q := fun q h => by rw [← hAe]; exact Or.inr h
  have hS : va_S A s.heap s.heap [] := va_S.rf
  have hP : va_P D vwCl [(xa, .inr (11, [.ref x0, .int 0, .ref x2, .int 0, .ref x4, .ref x5, .ref x6, .int x7, .ref x8, .int x9, .int x10]))] s.heap := hP
  have hl := lv_entry ([.ref xa, .int k1, .int k2, .int k3, .int k4]) (n := 9) (Nat.le_of_ble_eq_true rfl)
  rw [lg_entry_eq]
  generalize (lg_sl ([.ref xa, .int k1, .int k2, .int k3, .int k4]) ++ List.replicate (9 - (lg_sl ([.ref xa, .int k1, .int k2, .int k3, .int k4])).length) Slot.unset).toArray = ls at hl ⊢
  have hl : lv_has ls 9 [(0, .ref xa), (1, .int k1), (2, .int k2), (3, .int k3), (4, .int k4)] := hl
  refine lv_aload_n hx hb dX11_die_0 rfl (lv_at hl 0 rfl) ?_
  refine lv_iload_n hx hb dX11_die_1 rfl (lv_at hl 1 rfl) ?_
  have hPc := hP.sub (ws' := [(xa, .inr (11, [.ref x0, .int 0, .ref x2, .int 0, .ref x4, .ref x5, .ref x6, .int x7, .ref x8, .int x9, .int x10]))]) [0] rfl
  have hDc := hD.sub (ws' := [(xa, .inr (11, [.ref x0, .int 0, .ref x2, .int 0, .ref x4, .ref x5, .ref x6, .int x7, .ref x8, .int x9, .int x10]))]) [0] (by decide) rfl
  have hKc := hK.sub (tys' := []) [] rfl
  have hFc := va_free (wc := [(xa, .inr (11, [.ref x0, .int 0, .ref x2, .int 0, .ref x4, .ref x5, .ref x6, .int x7, .ref x8, .int x9, .int x10]))]) hD hS hA [0] rfl
  refine va_callq (va_runV (As := [.int k1]) (rest := []) ⟨hx, hb, hml, hown, hg⟩ (k_houseAt0 l D s.heap.size xa x0 x2 x4 x5 x6 x7 x8 x9 x10 k1) (cwV 1 hg (gV wd_10 wd_11 wd_12 wd_5 wd_13) rfl rfl rfl (by decide +kernel) ⟨(Nat.le_of_ble_eq_true rfl), (Nat.le_of_ble_eq_true rfl)⟩) ⟨Pr.blind, va_recv hKc hPc (ci := 11) (q0 := 0) rfl rfl, fun U hU hW => ⟨rfl, Pr.at hPc hKc hDc hN hU hW⟩⟩ rfl rfl hl.1 rfl (lv_room (Nat.le_of_ble_eq_true rfl)) dX11_die_2 ⟨(Nat.le_of_ble_eq_true rfl), (Nat.le_of_ble_eq_true rfl)⟩) hS (fun q _ h => hFc q h) hFc (fun r_2 u t H_1 locs ht hvm hw hB hz1 hk1 hS => ?_)
  obtain ⟨hP1, hK1, hD1⟩ := hB
  rw [ht] at hP1
  have hK1 := va_K.moved hvm.symm hK1
  obtain ⟨hP, hD⟩ := va_join (wr := []) (w1 := [(xa, .inr (11, [.ref x0, .int 0, .ref x2, .int 0, .ref x4, .ref x5, .ref x6, .int x7, .ref x8, .int x9, .int x10]))]) hP hD [0] [] rfl rfl (by decide) (by decide) hk1 hFc hP1 hD1
  have hP : va_P D vwCl [(xa, .inr (11, [.ref x0, .int 0, .ref x2, .int 0, .ref x4, .ref x5, .ref x6, .int x7, .ref x8, .int x9, .int x10]))] H_1 := hP
  have hD : va_D A [(xa, .inr (11, [.ref x0, .int 0, .ref x2, .int 0, .ref x4, .ref x5, .ref x6, .int x7, .ref x8, .int x9, .int x10]))] := hD
  subst hw
  refine lv_astoreN (lv' := [(5, .null), (0, .ref xa), (1, .int k1), (2, .int k2), (3, .int k3), (4, .int k4)]) hx hb dX11_die_5 hl (by decide) rfl (fun ls hl => ?_)
  refine lv_aload_n hx hb dX11_die_7 rfl (lv_at hl 1 rfl) ?_
  refine lv_iload hx hb dX11_die_8 (lv_at hl 5 rfl) ?_
  have hPc := hP.sub (ws' := [(xa, .inr (11, [.ref x0, .int 0, .ref x2, .int 0, .ref x4, .ref x5, .ref x6, .int x7, .ref x8, .int x9, .int x10]))]) [0] rfl
  have hDc := hD.sub (ws' := [(xa, .inr (11, [.ref x0, .int 0, .ref x2, .int 0, .ref x4, .ref x5, .ref x6, .int x7, .ref x8, .int x9, .int x10]))]) [0] (by decide) rfl
  have hKc := hK.sub (tys' := []) [] rfl
  have hFc := va_free (wc := [(xa, .inr (11, [.ref x0, .int 0, .ref x2, .int 0, .ref x4, .ref x5, .ref x6, .int x7, .ref x8, .int x9, .int x10]))]) hD hS hA [0] rfl
  refine va_callq (va_runV (As := [.int k4]) (rest := []) ⟨hx, hb, hml, hown, hg⟩ (k_partnerAt0 l D H_1.size xa x0 x2 x4 x5 x6 x7 x8 x9 x10 k4) (cwV 1 hg (gV wd_18 wd_19 wd_20 wd_5 wd_21) rfl rfl rfl (by decide +kernel) ⟨(Nat.le_of_ble_eq_true rfl), (Nat.le_of_ble_eq_true rfl)⟩) ⟨Pr.blind, va_recv hKc hPc (ci := 11) (q0 := 0) rfl rfl, fun U hU hW => ⟨rfl, Pr.at hPc hKc hDc hN hU hW⟩⟩ rfl rfl hl.1 rfl (lv_room (Nat.le_of_ble_eq_true rfl)) dX11_die_10 ⟨(Nat.le_of_ble_eq_true rfl), (Nat.le_of_ble_eq_true rfl)⟩) hS (fun q _ h => hFc q h) hFc (fun r_4 u t H_3 locs ht hvm hw hB hz1 hk1 hS => ?_)
  obtain ⟨hP1, hK1, hD1⟩ := hB
  rw [ht] at hP1
  have hK1 := va_K.moved hvm.symm hK1
  obtain ⟨hP, hD⟩ := va_join (wr := []) (w1 := [(xa, .inr (11, [.ref x0, .int 0, .ref x2, .int 0, .ref x4, .ref x5, .ref x6, .int x7, .ref x8, .int x9, .int x10]))]) hP hD [0] [] rfl rfl (by decide) (by decide) hk1 hFc hP1 hD1
  have hP : va_P D vwCl [(xa, .inr (11, [.ref x0, .int 0, .ref x2, .int 0, .ref x4, .ref x5, .ref x6, .int x7, .ref x8, .int x9, .int x10]))] H_3 := hP
  have hD : va_D A [(xa, .inr (11, [.ref x0, .int 0, .ref x2, .int 0, .ref x4, .ref x5, .ref x6, .int x7, .ref x8, .int x9, .int x10]))] := hD
  subst hw
  refine lv_astoreN (lv' := [(6, .null), (5, .null), (0, .ref xa), (1, .int k1), (2, .int k2), (3, .int k3), (4, .int k4)]) hx hb dX11_die_13 hl (by decide) rfl (fun ls hl => ?_)
  refine lv_aloadN hx hb dX11_die_15 (lv_at hl 1 rfl) ?_
  refine lv_ifnullN (tgt := 32) hx hb dX11_die_17 (by decide) ?_
  refine lv_aload_n hx hb dX11_die_32 rfl (lv_at hl 2 rfl) ?_
  refine lv_iconst (v := 1) hx hb dX11_die_33 (by decide) ?_
  have hPc := hP.sub (ws' := [(xa, .inr (11, [.ref x0, .int 0, .ref x2, .int 0, .ref x4, .ref x5, .ref x6, .int x7, .ref x8, .int x9, .int x10]))]) [0] rfl
  have hDc := hD.sub (ws' := [(xa, .inr (11, [.ref x0, .int 0, .ref x2, .int 0, .ref x4, .ref x5, .ref x6, .int x7, .ref x8, .int x9, .int x10]))]) [0] (by decide) rfl
  have hKc := hK.sub (tys' := []) [] rfl
  have hFc := va_free (wc := [(xa, .inr (11, [.ref x0, .int 0, .ref x2, .int 0, .ref x4, .ref x5, .ref x6, .int x7, .ref x8, .int x9, .int x10]))]) hD hS hA [0] rfl
  refine va_calli (va_runV (As := [.int 1]) (rest := []) ⟨hx, hb, hml, hown, hg⟩ (k_refuse l D H_3.size xa x0 0 x2 0 x4 x5 x6 x7 x8 x9 x10 1) (cwV 1 hg (gV wd_14 wd_15 wd_16 wd_5 wd_17) rfl rfl rfl (by decide +kernel) ⟨(Nat.le_of_ble_eq_true rfl), (Nat.le_of_ble_eq_true rfl)⟩) ⟨Pr.blind, va_recv hKc hPc (ci := 11) (q0 := 0) rfl rfl, fun U hU hW => ⟨rfl, Pr.at hPc hKc hDc hN hU hW⟩⟩ rfl rfl hl.1 rfl (lv_room (Nat.le_of_ble_eq_true rfl)) dX11_die_34 ⟨(Nat.le_of_ble_eq_true rfl), (Nat.le_of_ble_eq_true rfl)⟩) hS (fun q _ h => hFc q h) hFc (fun r_6 u t H_5 locs ht hvm hw hB hz1 hk1 hS => ?_)
  obtain ⟨hP1, hK1, hD1⟩ := hB
  rw [ht] at hP1
  have hK1 := va_K.moved hvm.symm hK1
  obtain ⟨hP, hD⟩ := va_join (wr := []) (w1 := [(xa, .inr (11, [.ref x0, .int 0, .ref x2, .int 0, .ref x4, .ref x5, .ref x6, .int x7, .ref x8, .int 1, .int (-1)]))]) hP hD [0] [] rfl rfl (by decide) (by decide) hk1 hFc hP1 hD1
  have hP : va_P D vwCl [(xa, .inr (11, [.ref x0, .int 0, .ref x2, .int 0, .ref x4, .ref x5, .ref x6, .int x7, .ref x8, .int 1, .int (-1)]))] H_5 := hP
  have hD : va_D A [(xa, .inr (11, [.ref x0, .int 0, .ref x2, .int 0, .ref x4, .ref x5, .ref x6, .int x7, .ref x8, .int 1, .int (-1)]))] := hD
  subst hw
  exact W.iret (v := (-1)) hx hb hr (fun t ht hW => ⟨⟨(-1), (), rfl, rfl, trivial⟩, hS.F ht⟩) hS.2.2 dX11_die_37
set_option maxHeartbeats 4000000 in
set_option maxRecDepth 100000 in
theorem k_rule (l : Launch) (D : va_G) (sz : Nat) (xa : Nat) (x0 : Nat) (x2 : Nat) (x4 : Nat) (x5 : Nat) (x6 : Nat) (x7 : Int32) (x8 : Nat) (x9 : Int32) (x10 : Int32) (k1 : Int32) (k2 : Int32) : Met l yX11_rule (wsM yX11_rule cX11_rule 6 (some .int)) ({ frames := 2, cells := 0, slots := 0, locals := 43 }) (va_Pc [.ref xa, .int k1, .int k2] (Pr D [(xa, .inr (11, [.ref x0, .int 0, .ref x2, .int 0, .ref x4, .ref x5, .ref x6, .int x7, .ref x8, .int x9, .int x10]))] [] sz)) (va_Qi (fun (r : Int32) (_ : Unit) => r = (-1)) (fun _ _ => True) (va_A [(xa, .inr (11, [.ref x0, .int 0, .ref x2, .int 0, .ref x4, .ref x5, .ref x6, .int x7, .ref x8, .int x9, .int x10]))] sz)) 0 0 (va_A [(xa, .inr (11, [.ref x0, .int 0, .ref x2, .int 0, .ref x4, .ref x5, .ref x6, .int x7, .ref x8, .int x9, .int x10]))] sz) := by
  refine Met.ofW (cc := cX11_rule) (maxL := 6) (ret := (some .int)) (by decide) rfl ?_
  intro p e s m args below meth c s₁ B hml hv
  obtain ⟨rfl, hsz, hP, hK, hD0, hN⟩ := hv
  have hx := B.exec
  have hb := B.bytes
  have hr := B.returns
  have hts := atoms_spec (ws := (wsM yX11_rule cX11_rule 6 (some .int))) B.pre
  have hg : ∀ w ∈ lw_good, w.before _ s = true := fun w h => hts w (List.mem_cons_of_mem _ h)
  have hown : s.vm.findClass RX11 = some m.cls := findClass_of_methodNamed B.named
  have hlocks := B.notSynchronized
  subst hsz
  have hD := hD0.self (sz := s.heap.size)
  generalize hAe : va_A [(xa, .inr (11, [.ref x0, .int 0, .ref x2, .int 0, .ref x4, .ref x5, .ref x6, .int x7, .ref x8, .int x9, .int x10]))] s.heap.size = A at hD ⊢
  have hA : ∀ q : Nat, s.heap.size ≤ q → A q := fun q h => by rw [← hAe]; exact Or.inr h
  have hS : va_S A s.heap s.heap [] := va_S.rf
  have hP : va_P D vwCl [(xa, .inr (11, [.ref x0, .int 0, .ref x2, .int 0, .ref x4, .ref x5, .ref x6, .int x7, .ref x8, .int x9, .int x10]))] s.heap := hP
  have hl := lv_entry ([.ref xa, .int k1, .int k2]) (n := 6) (Nat.le_of_ble_eq_true rfl)
  rw [lg_entry_eq]
  generalize (lg_sl ([.ref xa, .int k1, .int k2]) ++ List.replicate (6 - (lg_sl ([.ref xa, .int k1, .int k2])).length) Slot.unset).toArray = ls at hl ⊢
  have hl : lv_has ls 6 [(0, .ref xa), (1, .int k1), (2, .int k2)] := hl
  refine lv_aload_n hx hb dX11_rule_0 rfl (lv_at hl 0 rfl) ?_
  refine lv_iload_n hx hb dX11_rule_1 rfl (lv_at hl 1 rfl) ?_
  have hPc := hP.sub (ws' := [(xa, .inr (11, [.ref x0, .int 0, .ref x2, .int 0, .ref x4, .ref x5, .ref x6, .int x7, .ref x8, .int x9, .int x10]))]) [0] rfl
  have hDc := hD.sub (ws' := [(xa, .inr (11, [.ref x0, .int 0, .ref x2, .int 0, .ref x4, .ref x5, .ref x6, .int x7, .ref x8, .int x9, .int x10]))]) [0] (by decide) rfl
  have hKc := hK.sub (tys' := []) [] rfl
  have hFc := va_free (wc := [(xa, .inr (11, [.ref x0, .int 0, .ref x2, .int 0, .ref x4, .ref x5, .ref x6, .int x7, .ref x8, .int x9, .int x10]))]) hD hS hA [0] rfl
  refine va_callq (va_runV (As := [.int k1]) (rest := []) ⟨hx, hb, hml, hown, hg⟩ (k_houseAt0 l D s.heap.size xa x0 x2 x4 x5 x6 x7 x8 x9 x10 k1) (cwV 1 hg (gV wd_10 wd_11 wd_12 wd_5 wd_13) rfl rfl rfl (by decide +kernel) ⟨(Nat.le_of_ble_eq_true rfl), (Nat.le_of_ble_eq_true rfl)⟩) ⟨Pr.blind, va_recv hKc hPc (ci := 11) (q0 := 0) rfl rfl, fun U hU hW => ⟨rfl, Pr.at hPc hKc hDc hN hU hW⟩⟩ rfl rfl hl.1 rfl (lv_room (Nat.le_of_ble_eq_true rfl)) dX11_rule_2 ⟨(Nat.le_of_ble_eq_true rfl), (Nat.le_of_ble_eq_true rfl)⟩) hS (fun q _ h => hFc q h) hFc (fun r_2 u t H_1 locs ht hvm hw hB hz1 hk1 hS => ?_)
  obtain ⟨hP1, hK1, hD1⟩ := hB
  rw [ht] at hP1
  have hK1 := va_K.moved hvm.symm hK1
  obtain ⟨hP, hD⟩ := va_join (wr := []) (w1 := [(xa, .inr (11, [.ref x0, .int 0, .ref x2, .int 0, .ref x4, .ref x5, .ref x6, .int x7, .ref x8, .int x9, .int x10]))]) hP hD [0] [] rfl rfl (by decide) (by decide) hk1 hFc hP1 hD1
  have hP : va_P D vwCl [(xa, .inr (11, [.ref x0, .int 0, .ref x2, .int 0, .ref x4, .ref x5, .ref x6, .int x7, .ref x8, .int x9, .int x10]))] H_1 := hP
  have hD : va_D A [(xa, .inr (11, [.ref x0, .int 0, .ref x2, .int 0, .ref x4, .ref x5, .ref x6, .int x7, .ref x8, .int x9, .int x10]))] := hD
  subst hw
  refine lv_astore_nN (lv' := [(3, .null), (0, .ref xa), (1, .int k1), (2, .int k2)]) hx hb dX11_rule_5 rfl hl (by decide) rfl (fun ls hl => ?_)
  refine lv_aload_nN hx hb dX11_rule_6 rfl (lv_at hl 0 rfl) ?_
  refine lv_ifnonnullN hx hb dX11_rule_7 ?_
  refine lv_aload_n hx hb dX11_rule_10 rfl (lv_at hl 1 rfl) ?_
  refine lv_iconst (v := 1) hx hb dX11_rule_11 (by decide) ?_
  have hPc := hP.sub (ws' := [(xa, .inr (11, [.ref x0, .int 0, .ref x2, .int 0, .ref x4, .ref x5, .ref x6, .int x7, .ref x8, .int x9, .int x10]))]) [0] rfl
  have hDc := hD.sub (ws' := [(xa, .inr (11, [.ref x0, .int 0, .ref x2, .int 0, .ref x4, .ref x5, .ref x6, .int x7, .ref x8, .int x9, .int x10]))]) [0] (by decide) rfl
  have hKc := hK.sub (tys' := []) [] rfl
  have hFc := va_free (wc := [(xa, .inr (11, [.ref x0, .int 0, .ref x2, .int 0, .ref x4, .ref x5, .ref x6, .int x7, .ref x8, .int x9, .int x10]))]) hD hS hA [0] rfl
  refine va_calli (va_runV (As := [.int 1]) (rest := []) ⟨hx, hb, hml, hown, hg⟩ (k_refuse l D H_1.size xa x0 0 x2 0 x4 x5 x6 x7 x8 x9 x10 1) (cwV 1 hg (gV wd_14 wd_15 wd_16 wd_5 wd_17) rfl rfl rfl (by decide +kernel) ⟨(Nat.le_of_ble_eq_true rfl), (Nat.le_of_ble_eq_true rfl)⟩) ⟨Pr.blind, va_recv hKc hPc (ci := 11) (q0 := 0) rfl rfl, fun U hU hW => ⟨rfl, Pr.at hPc hKc hDc hN hU hW⟩⟩ rfl rfl hl.1 rfl (lv_room (Nat.le_of_ble_eq_true rfl)) dX11_rule_12 ⟨(Nat.le_of_ble_eq_true rfl), (Nat.le_of_ble_eq_true rfl)⟩) hS (fun q _ h => hFc q h) hFc (fun r_4 u t H_3 locs ht hvm hw hB hz1 hk1 hS => ?_)
  obtain ⟨hP1, hK1, hD1⟩ := hB
  rw [ht] at hP1
  have hK1 := va_K.moved hvm.symm hK1
  obtain ⟨hP, hD⟩ := va_join (wr := []) (w1 := [(xa, .inr (11, [.ref x0, .int 0, .ref x2, .int 0, .ref x4, .ref x5, .ref x6, .int x7, .ref x8, .int 1, .int (-1)]))]) hP hD [0] [] rfl rfl (by decide) (by decide) hk1 hFc hP1 hD1
  have hP : va_P D vwCl [(xa, .inr (11, [.ref x0, .int 0, .ref x2, .int 0, .ref x4, .ref x5, .ref x6, .int x7, .ref x8, .int 1, .int (-1)]))] H_3 := hP
  have hD : va_D A [(xa, .inr (11, [.ref x0, .int 0, .ref x2, .int 0, .ref x4, .ref x5, .ref x6, .int x7, .ref x8, .int 1, .int (-1)]))] := hD
  subst hw
  exact W.iret (v := (-1)) hx hb hr (fun t ht hW => ⟨⟨(-1), (), rfl, rfl, trivial⟩, hS.F ht⟩) hS.2.2 dX11_rule_15
set_option maxHeartbeats 4000000 in
set_option maxRecDepth 100000 in
theorem k_term (l : Launch) (D : va_G) (sz : Nat) (xa : Nat) (x0 : Nat) (x2 : Nat) (x4 : Nat) (x5 : Nat) (x6 : Nat) (x7 : Int32) (x8 : Nat) (x9 : Int32) (x10 : Int32) (k1 : Int32) (k2 : Int32) (k3 : Int32) (k4 : Int32) : Met l yX11_term (wsM yX11_term cX11_term 7 (some .int)) ({ frames := 2, cells := 0, slots := 0, locals := 43 }) (va_Pc [.ref xa, .int k1, .int k2, .int k3, .int k4] (Pr D [(xa, .inr (11, [.ref x0, .int 0, .ref x2, .int 0, .ref x4, .ref x5, .ref x6, .int x7, .ref x8, .int x9, .int x10]))] [] sz)) (va_Qi (fun (r : Int32) (_ : Unit) => r = (-1)) (fun _ _ => True) (va_A [(xa, .inr (11, [.ref x0, .int 0, .ref x2, .int 0, .ref x4, .ref x5, .ref x6, .int x7, .ref x8, .int x9, .int x10]))] sz)) 0 0 (va_A [(xa, .inr (11, [.ref x0, .int 0, .ref x2, .int 0, .ref x4, .ref x5, .ref x6, .int x7, .ref x8, .int x9, .int x10]))] sz) := by
  refine Met.ofW (cc := cX11_term) (maxL := 7) (ret := (some .int)) (by decide) rfl ?_
  intro p e s m args below meth c s₁ B hml hv
  obtain ⟨rfl, hsz, hP, hK, hD0, hN⟩ := hv
  have hx := B.exec
  have hb := B.bytes
  have hr := B.returns
  have hts := atoms_spec (ws := (wsM yX11_term cX11_term 7 (some .int))) B.pre
  have hg : ∀ w ∈ lw_good, w.before _ s = true := fun w h => hts w (List.mem_cons_of_mem _ h)
  have hown : s.vm.findClass RX11 = some m.cls := findClass_of_methodNamed B.named
  have hlocks := B.notSynchronized
  subst hsz
  have hD := hD0.self (sz := s.heap.size)
  generalize hAe : va_A [(xa, .inr (11, [.ref x0, .int 0, .ref x2, .int 0, .ref x4, .ref x5, .ref x6, .int x7, .ref x8, .int x9, .int x10]))] s.heap.size = A at hD ⊢
  have hA : ∀ q : Nat, s.heap.size ≤ q → A q := fun q h => by rw [← hAe]; exact Or.inr h
  have hS : va_S A s.heap s.heap [] := va_S.rf
  have hP : va_P D vwCl [(xa, .inr (11, [.ref x0, .int 0, .ref x2, .int 0, .ref x4, .ref x5, .ref x6, .int x7, .ref x8, .int x9, .int x10]))] s.heap := hP
  have hl := lv_entry ([.ref xa, .int k1, .int k2, .int k3, .int k4]) (n := 7) (Nat.le_of_ble_eq_true rfl)
  rw [lg_entry_eq]
  generalize (lg_sl ([.ref xa, .int k1, .int k2, .int k3, .int k4]) ++ List.replicate (7 - (lg_sl ([.ref xa, .int k1, .int k2, .int k3, .int k4])).length) Slot.unset).toArray = ls at hl ⊢
  have hl : lv_has ls 7 [(0, .ref xa), (1, .int k1), (2, .int k2), (3, .int k3), (4, .int k4)] := hl
  refine lv_aload_n hx hb dX11_term_0 rfl (lv_at hl 0 rfl) ?_
  refine lv_iload_n hx hb dX11_term_1 rfl (lv_at hl 1 rfl) ?_
  have hPc := hP.sub (ws' := [(xa, .inr (11, [.ref x0, .int 0, .ref x2, .int 0, .ref x4, .ref x5, .ref x6, .int x7, .ref x8, .int x9, .int x10]))]) [0] rfl
  have hDc := hD.sub (ws' := [(xa, .inr (11, [.ref x0, .int 0, .ref x2, .int 0, .ref x4, .ref x5, .ref x6, .int x7, .ref x8, .int x9, .int x10]))]) [0] (by decide) rfl
  have hKc := hK.sub (tys' := []) [] rfl
  have hFc := va_free (wc := [(xa, .inr (11, [.ref x0, .int 0, .ref x2, .int 0, .ref x4, .ref x5, .ref x6, .int x7, .ref x8, .int x9, .int x10]))]) hD hS hA [0] rfl
  refine va_callq (va_runV (As := [.int k1]) (rest := []) ⟨hx, hb, hml, hown, hg⟩ (k_houseAt0 l D s.heap.size xa x0 x2 x4 x5 x6 x7 x8 x9 x10 k1) (cwV 1 hg (gV wd_10 wd_11 wd_12 wd_5 wd_13) rfl rfl rfl (by decide +kernel) ⟨(Nat.le_of_ble_eq_true rfl), (Nat.le_of_ble_eq_true rfl)⟩) ⟨Pr.blind, va_recv hKc hPc (ci := 11) (q0 := 0) rfl rfl, fun U hU hW => ⟨rfl, Pr.at hPc hKc hDc hN hU hW⟩⟩ rfl rfl hl.1 rfl (lv_room (Nat.le_of_ble_eq_true rfl)) dX11_term_2 ⟨(Nat.le_of_ble_eq_true rfl), (Nat.le_of_ble_eq_true rfl)⟩) hS (fun q _ h => hFc q h) hFc (fun r_2 u t H_1 locs ht hvm hw hB hz1 hk1 hS => ?_)
  obtain ⟨hP1, hK1, hD1⟩ := hB
  rw [ht] at hP1
  have hK1 := va_K.moved hvm.symm hK1
  obtain ⟨hP, hD⟩ := va_join (wr := []) (w1 := [(xa, .inr (11, [.ref x0, .int 0, .ref x2, .int 0, .ref x4, .ref x5, .ref x6, .int x7, .ref x8, .int x9, .int x10]))]) hP hD [0] [] rfl rfl (by decide) (by decide) hk1 hFc hP1 hD1
  have hP : va_P D vwCl [(xa, .inr (11, [.ref x0, .int 0, .ref x2, .int 0, .ref x4, .ref x5, .ref x6, .int x7, .ref x8, .int x9, .int x10]))] H_1 := hP
  have hD : va_D A [(xa, .inr (11, [.ref x0, .int 0, .ref x2, .int 0, .ref x4, .ref x5, .ref x6, .int x7, .ref x8, .int x9, .int x10]))] := hD
  subst hw
  refine lv_astoreN (lv' := [(5, .null), (0, .ref xa), (1, .int k1), (2, .int k2), (3, .int k3), (4, .int k4)]) hx hb dX11_term_5 hl (by decide) rfl (fun ls hl => ?_)
  refine lv_aloadN hx hb dX11_term_7 (lv_at hl 0 rfl) ?_
  refine lv_ifnonnullN hx hb dX11_term_9 ?_
  refine lv_null hx hb dX11_term_12 ?_
  refine lv_goto (tgt := 21) hx hb dX11_term_13 (by decide) ?_
  refine lv_astoreN (lv' := [(6, .null), (5, .null), (0, .ref xa), (1, .int k1), (2, .int k2), (3, .int k3), (4, .int k4)]) hx hb dX11_term_21 hl (by decide) rfl (fun ls hl => ?_)
  refine lv_aloadN hx hb dX11_term_23 (lv_at hl 1 rfl) ?_
  refine lv_ifnullN (tgt := 45) hx hb dX11_term_25 (by decide) ?_
  refine lv_aload_n hx hb dX11_term_45 rfl (lv_at hl 2 rfl) ?_
  refine lv_iconst (v := 1) hx hb dX11_term_46 (by decide) ?_
  have hPc := hP.sub (ws' := [(xa, .inr (11, [.ref x0, .int 0, .ref x2, .int 0, .ref x4, .ref x5, .ref x6, .int x7, .ref x8, .int x9, .int x10]))]) [0] rfl
  have hDc := hD.sub (ws' := [(xa, .inr (11, [.ref x0, .int 0, .ref x2, .int 0, .ref x4, .ref x5, .ref x6, .int x7, .ref x8, .int x9, .int x10]))]) [0] (by decide) rfl
  have hKc := hK.sub (tys' := []) [] rfl
  have hFc := va_free (wc := [(xa, .inr (11, [.ref x0, .int 0, .ref x2, .int 0, .ref x4, .ref x5, .ref x6, .int x7, .ref x8, .int x9, .int x10]))]) hD hS hA [0] rfl
  refine va_calli (va_runV (As := [.int 1]) (rest := []) ⟨hx, hb, hml, hown, hg⟩ (k_refuse l D H_1.size xa x0 0 x2 0 x4 x5 x6 x7 x8 x9 x10 1) (cwV 1 hg (gV wd_14 wd_15 wd_16 wd_5 wd_17) rfl rfl rfl (by decide +kernel) ⟨(Nat.le_of_ble_eq_true rfl), (Nat.le_of_ble_eq_true rfl)⟩) ⟨Pr.blind, va_recv hKc hPc (ci := 11) (q0 := 0) rfl rfl, fun U hU hW => ⟨rfl, Pr.at hPc hKc hDc hN hU hW⟩⟩ rfl rfl hl.1 rfl (lv_room (Nat.le_of_ble_eq_true rfl)) dX11_term_47 ⟨(Nat.le_of_ble_eq_true rfl), (Nat.le_of_ble_eq_true rfl)⟩) hS (fun q _ h => hFc q h) hFc (fun r_4 u t H_3 locs ht hvm hw hB hz1 hk1 hS => ?_)
  obtain ⟨hP1, hK1, hD1⟩ := hB
  rw [ht] at hP1
  have hK1 := va_K.moved hvm.symm hK1
  obtain ⟨hP, hD⟩ := va_join (wr := []) (w1 := [(xa, .inr (11, [.ref x0, .int 0, .ref x2, .int 0, .ref x4, .ref x5, .ref x6, .int x7, .ref x8, .int 1, .int (-1)]))]) hP hD [0] [] rfl rfl (by decide) (by decide) hk1 hFc hP1 hD1
  have hP : va_P D vwCl [(xa, .inr (11, [.ref x0, .int 0, .ref x2, .int 0, .ref x4, .ref x5, .ref x6, .int x7, .ref x8, .int 1, .int (-1)]))] H_3 := hP
  have hD : va_D A [(xa, .inr (11, [.ref x0, .int 0, .ref x2, .int 0, .ref x4, .ref x5, .ref x6, .int x7, .ref x8, .int 1, .int (-1)]))] := hD
  subst hw
  exact W.iret (v := (-1)) hx hb hr (fun t ht hW => ⟨⟨(-1), (), rfl, rfl, trivial⟩, hS.F ht⟩) hS.2.2 dX11_term_50
set_option maxHeartbeats 4000000 in
set_option maxRecDepth 100000 in
theorem k_leaf (l : Launch) (D : va_G) (sz : Nat) (xa : Nat) (x0 : Nat) (x2 : Nat) (x4 : Nat) (x5 : Nat) (x6 : Nat) (x7 : Int32) (x8 : Nat) (x9 : Int32) (x10 : Int32) (k1 : Int32) (k2 : Int32) (k3 : Int32) (k4 : Int32) : Met l yX11_leaf (wsM yX11_leaf cX11_leaf 6 (some .int)) ({ frames := 2, cells := 0, slots := 0, locals := 43 }) (va_Pc [.ref xa, .int k1, .int k2, .int k3, .int k4] (Pr D [(xa, .inr (11, [.ref x0, .int 0, .ref x2, .int 0, .ref x4, .ref x5, .ref x6, .int x7, .ref x8, .int x9, .int x10]))] [] sz)) (va_Qi (fun (r : Int32) (_ : Unit) => r = (-1)) (fun _ _ => True) (va_A [(xa, .inr (11, [.ref x0, .int 0, .ref x2, .int 0, .ref x4, .ref x5, .ref x6, .int x7, .ref x8, .int x9, .int x10]))] sz)) 0 0 (va_A [(xa, .inr (11, [.ref x0, .int 0, .ref x2, .int 0, .ref x4, .ref x5, .ref x6, .int x7, .ref x8, .int x9, .int x10]))] sz) := by
  refine Met.ofW (cc := cX11_leaf) (maxL := 6) (ret := (some .int)) (by decide) rfl ?_
  intro p e s m args below meth c s₁ B hml hv
  obtain ⟨rfl, hsz, hP, hK, hD0, hN⟩ := hv
  have hx := B.exec
  have hb := B.bytes
  have hr := B.returns
  have hts := atoms_spec (ws := (wsM yX11_leaf cX11_leaf 6 (some .int))) B.pre
  have hg : ∀ w ∈ lw_good, w.before _ s = true := fun w h => hts w (List.mem_cons_of_mem _ h)
  have hown : s.vm.findClass RX11 = some m.cls := findClass_of_methodNamed B.named
  have hlocks := B.notSynchronized
  subst hsz
  have hD := hD0.self (sz := s.heap.size)
  generalize hAe : va_A [(xa, .inr (11, [.ref x0, .int 0, .ref x2, .int 0, .ref x4, .ref x5, .ref x6, .int x7, .ref x8, .int x9, .int x10]))] s.heap.size = A at hD ⊢
  have hA : ∀ q : Nat, s.heap.size ≤ q → A q := fun q h => by rw [← hAe]; exact Or.inr h
  have hS : va_S A s.heap s.heap [] := va_S.rf
  have hP : va_P D vwCl [(xa, .inr (11, [.ref x0, .int 0, .ref x2, .int 0, .ref x4, .ref x5, .ref x6, .int x7, .ref x8, .int x9, .int x10]))] s.heap := hP
  have hl := lv_entry ([.ref xa, .int k1, .int k2, .int k3, .int k4]) (n := 6) (Nat.le_of_ble_eq_true rfl)
  rw [lg_entry_eq]
  generalize (lg_sl ([.ref xa, .int k1, .int k2, .int k3, .int k4]) ++ List.replicate (6 - (lg_sl ([.ref xa, .int k1, .int k2, .int k3, .int k4])).length) Slot.unset).toArray = ls at hl ⊢
  have hl : lv_has ls 6 [(0, .ref xa), (1, .int k1), (2, .int k2), (3, .int k3), (4, .int k4)] := hl
  refine lv_aload_n hx hb dX11_leaf_0 rfl (lv_at hl 0 rfl) ?_
  refine lv_iload_n hx hb dX11_leaf_1 rfl (lv_at hl 1 rfl) ?_
  have hPc := hP.sub (ws' := [(xa, .inr (11, [.ref x0, .int 0, .ref x2, .int 0, .ref x4, .ref x5, .ref x6, .int x7, .ref x8, .int x9, .int x10]))]) [0] rfl
  have hDc := hD.sub (ws' := [(xa, .inr (11, [.ref x0, .int 0, .ref x2, .int 0, .ref x4, .ref x5, .ref x6, .int x7, .ref x8, .int x9, .int x10]))]) [0] (by decide) rfl
  have hKc := hK.sub (tys' := []) [] rfl
  have hFc := va_free (wc := [(xa, .inr (11, [.ref x0, .int 0, .ref x2, .int 0, .ref x4, .ref x5, .ref x6, .int x7, .ref x8, .int x9, .int x10]))]) hD hS hA [0] rfl
  refine va_callq (va_runV (As := [.int k1]) (rest := []) ⟨hx, hb, hml, hown, hg⟩ (k_houseAt0 l D s.heap.size xa x0 x2 x4 x5 x6 x7 x8 x9 x10 k1) (cwV 1 hg (gV wd_10 wd_11 wd_12 wd_5 wd_13) rfl rfl rfl (by decide +kernel) ⟨(Nat.le_of_ble_eq_true rfl), (Nat.le_of_ble_eq_true rfl)⟩) ⟨Pr.blind, va_recv hKc hPc (ci := 11) (q0 := 0) rfl rfl, fun U hU hW => ⟨rfl, Pr.at hPc hKc hDc hN hU hW⟩⟩ rfl rfl hl.1 rfl (lv_room (Nat.le_of_ble_eq_true rfl)) dX11_leaf_2 ⟨(Nat.le_of_ble_eq_true rfl), (Nat.le_of_ble_eq_true rfl)⟩) hS (fun q _ h => hFc q h) hFc (fun r_2 u t H_1 locs ht hvm hw hB hz1 hk1 hS => ?_)
  obtain ⟨hP1, hK1, hD1⟩ := hB
  rw [ht] at hP1
  have hK1 := va_K.moved hvm.symm hK1
  obtain ⟨hP, hD⟩ := va_join (wr := []) (w1 := [(xa, .inr (11, [.ref x0, .int 0, .ref x2, .int 0, .ref x4, .ref x5, .ref x6, .int x7, .ref x8, .int x9, .int x10]))]) hP hD [0] [] rfl rfl (by decide) (by decide) hk1 hFc hP1 hD1
  have hP : va_P D vwCl [(xa, .inr (11, [.ref x0, .int 0, .ref x2, .int 0, .ref x4, .ref x5, .ref x6, .int x7, .ref x8, .int x9, .int x10]))] H_1 := hP
  have hD : va_D A [(xa, .inr (11, [.ref x0, .int 0, .ref x2, .int 0, .ref x4, .ref x5, .ref x6, .int x7, .ref x8, .int x9, .int x10]))] := hD
  subst hw
  refine lv_astoreN (lv' := [(5, .null), (0, .ref xa), (1, .int k1), (2, .int k2), (3, .int k3), (4, .int k4)]) hx hb dX11_leaf_5 hl (by decide) rfl (fun ls hl => ?_)
  refine lv_aloadN hx hb dX11_leaf_7 (lv_at hl 0 rfl) ?_
  refine lv_ifnonnullN hx hb dX11_leaf_9 ?_
  refine lv_aload_n hx hb dX11_leaf_12 rfl (lv_at hl 1 rfl) ?_
  refine lv_iconst (v := 1) hx hb dX11_leaf_13 (by decide) ?_
  have hPc := hP.sub (ws' := [(xa, .inr (11, [.ref x0, .int 0, .ref x2, .int 0, .ref x4, .ref x5, .ref x6, .int x7, .ref x8, .int x9, .int x10]))]) [0] rfl
  have hDc := hD.sub (ws' := [(xa, .inr (11, [.ref x0, .int 0, .ref x2, .int 0, .ref x4, .ref x5, .ref x6, .int x7, .ref x8, .int x9, .int x10]))]) [0] (by decide) rfl
  have hKc := hK.sub (tys' := []) [] rfl
  have hFc := va_free (wc := [(xa, .inr (11, [.ref x0, .int 0, .ref x2, .int 0, .ref x4, .ref x5, .ref x6, .int x7, .ref x8, .int x9, .int x10]))]) hD hS hA [0] rfl
  refine va_calli (va_runV (As := [.int 1]) (rest := []) ⟨hx, hb, hml, hown, hg⟩ (k_refuse l D H_1.size xa x0 0 x2 0 x4 x5 x6 x7 x8 x9 x10 1) (cwV 1 hg (gV wd_14 wd_15 wd_16 wd_5 wd_17) rfl rfl rfl (by decide +kernel) ⟨(Nat.le_of_ble_eq_true rfl), (Nat.le_of_ble_eq_true rfl)⟩) ⟨Pr.blind, va_recv hKc hPc (ci := 11) (q0 := 0) rfl rfl, fun U hU hW => ⟨rfl, Pr.at hPc hKc hDc hN hU hW⟩⟩ rfl rfl hl.1 rfl (lv_room (Nat.le_of_ble_eq_true rfl)) dX11_leaf_14 ⟨(Nat.le_of_ble_eq_true rfl), (Nat.le_of_ble_eq_true rfl)⟩) hS (fun q _ h => hFc q h) hFc (fun r_4 u t H_3 locs ht hvm hw hB hz1 hk1 hS => ?_)
  obtain ⟨hP1, hK1, hD1⟩ := hB
  rw [ht] at hP1
  have hK1 := va_K.moved hvm.symm hK1
  obtain ⟨hP, hD⟩ := va_join (wr := []) (w1 := [(xa, .inr (11, [.ref x0, .int 0, .ref x2, .int 0, .ref x4, .ref x5, .ref x6, .int x7, .ref x8, .int 1, .int (-1)]))]) hP hD [0] [] rfl rfl (by decide) (by decide) hk1 hFc hP1 hD1
  have hP : va_P D vwCl [(xa, .inr (11, [.ref x0, .int 0, .ref x2, .int 0, .ref x4, .ref x5, .ref x6, .int x7, .ref x8, .int 1, .int (-1)]))] H_3 := hP
  have hD : va_D A [(xa, .inr (11, [.ref x0, .int 0, .ref x2, .int 0, .ref x4, .ref x5, .ref x6, .int x7, .ref x8, .int 1, .int (-1)]))] := hD
  subst hw
  exact W.iret (v := (-1)) hx hb hr (fun t ht hW => ⟨⟨(-1), (), rfl, rfl, trivial⟩, hS.F ht⟩) hS.2.2 dX11_leaf_17
set_option maxHeartbeats 4000000 in
set_option maxRecDepth 100000 in
theorem k_tear (l : Launch) (D : va_G) (sz : Nat) (xa : Nat) (x0 : Nat) (x2 : Nat) (x4 : Nat) (x5 : Nat) (x6 : Nat) (x7 : Int32) (x8 : Nat) (x9 : Int32) (x10 : Int32) (k1 : Int32) (k2 : Int32) : Met l yX11_tear (wsM yX11_tear cX11_tear 5 (some .int)) ({ frames := 2, cells := 0, slots := 0, locals := 43 }) (va_Pc [.ref xa, .int k1, .int k2] (Pr D [(xa, .inr (11, [.ref x0, .int 0, .ref x2, .int 0, .ref x4, .ref x5, .ref x6, .int x7, .ref x8, .int x9, .int x10]))] [] sz)) (va_Qi (fun (r : Int32) (_ : Unit) => r = (-1)) (fun _ _ => True) (va_A [(xa, .inr (11, [.ref x0, .int 0, .ref x2, .int 0, .ref x4, .ref x5, .ref x6, .int x7, .ref x8, .int x9, .int x10]))] sz)) 0 0 (va_A [(xa, .inr (11, [.ref x0, .int 0, .ref x2, .int 0, .ref x4, .ref x5, .ref x6, .int x7, .ref x8, .int x9, .int x10]))] sz) := by
  refine Met.ofW (cc := cX11_tear) (maxL := 5) (ret := (some .int)) (by decide) rfl ?_
  intro p e s m args below meth c s₁ B hml hv
  obtain ⟨rfl, hsz, hP, hK, hD0, hN⟩ := hv
  have hx := B.exec
  have hb := B.bytes
  have hr := B.returns
  have hts := atoms_spec (ws := (wsM yX11_tear cX11_tear 5 (some .int))) B.pre
  have hg : ∀ w ∈ lw_good, w.before _ s = true := fun w h => hts w (List.mem_cons_of_mem _ h)
  have hown : s.vm.findClass RX11 = some m.cls := findClass_of_methodNamed B.named
  have hlocks := B.notSynchronized
  subst hsz
  have hD := hD0.self (sz := s.heap.size)
  generalize hAe : va_A [(xa, .inr (11, [.ref x0, .int 0, .ref x2, .int 0, .ref x4, .ref x5, .ref x6, .int x7, .ref x8, .int x9, .int x10]))] s.heap.size = A at hD ⊢
  have hA : ∀ q : Nat, s.heap.size ≤ q → A q := fun q h => by rw [← hAe]; exact Or.inr h
  have hS : va_S A s.heap s.heap [] := va_S.rf
  have hP : va_P D vwCl [(xa, .inr (11, [.ref x0, .int 0, .ref x2, .int 0, .ref x4, .ref x5, .ref x6, .int x7, .ref x8, .int x9, .int x10]))] s.heap := hP
  have hl := lv_entry ([.ref xa, .int k1, .int k2]) (n := 5) (Nat.le_of_ble_eq_true rfl)
  rw [lg_entry_eq]
  generalize (lg_sl ([.ref xa, .int k1, .int k2]) ++ List.replicate (5 - (lg_sl ([.ref xa, .int k1, .int k2])).length) Slot.unset).toArray = ls at hl ⊢
  have hl : lv_has ls 5 [(0, .ref xa), (1, .int k1), (2, .int k2)] := hl
  refine lv_aload_n hx hb dX11_tear_0 rfl (lv_at hl 0 rfl) ?_
  refine lv_iload_n hx hb dX11_tear_1 rfl (lv_at hl 1 rfl) ?_
  have hPc := hP.sub (ws' := [(xa, .inr (11, [.ref x0, .int 0, .ref x2, .int 0, .ref x4, .ref x5, .ref x6, .int x7, .ref x8, .int x9, .int x10]))]) [0] rfl
  have hDc := hD.sub (ws' := [(xa, .inr (11, [.ref x0, .int 0, .ref x2, .int 0, .ref x4, .ref x5, .ref x6, .int x7, .ref x8, .int x9, .int x10]))]) [0] (by decide) rfl
  have hKc := hK.sub (tys' := []) [] rfl
  have hFc := va_free (wc := [(xa, .inr (11, [.ref x0, .int 0, .ref x2, .int 0, .ref x4, .ref x5, .ref x6, .int x7, .ref x8, .int x9, .int x10]))]) hD hS hA [0] rfl
  refine va_callq (va_runV (As := [.int k1]) (rest := []) ⟨hx, hb, hml, hown, hg⟩ (k_houseAt0 l D s.heap.size xa x0 x2 x4 x5 x6 x7 x8 x9 x10 k1) (cwV 1 hg (gV wd_10 wd_11 wd_12 wd_5 wd_13) rfl rfl rfl (by decide +kernel) ⟨(Nat.le_of_ble_eq_true rfl), (Nat.le_of_ble_eq_true rfl)⟩) ⟨Pr.blind, va_recv hKc hPc (ci := 11) (q0 := 0) rfl rfl, fun U hU hW => ⟨rfl, Pr.at hPc hKc hDc hN hU hW⟩⟩ rfl rfl hl.1 rfl (lv_room (Nat.le_of_ble_eq_true rfl)) dX11_tear_2 ⟨(Nat.le_of_ble_eq_true rfl), (Nat.le_of_ble_eq_true rfl)⟩) hS (fun q _ h => hFc q h) hFc (fun r_2 u t H_1 locs ht hvm hw hB hz1 hk1 hS => ?_)
  obtain ⟨hP1, hK1, hD1⟩ := hB
  rw [ht] at hP1
  have hK1 := va_K.moved hvm.symm hK1
  obtain ⟨hP, hD⟩ := va_join (wr := []) (w1 := [(xa, .inr (11, [.ref x0, .int 0, .ref x2, .int 0, .ref x4, .ref x5, .ref x6, .int x7, .ref x8, .int x9, .int x10]))]) hP hD [0] [] rfl rfl (by decide) (by decide) hk1 hFc hP1 hD1
  have hP : va_P D vwCl [(xa, .inr (11, [.ref x0, .int 0, .ref x2, .int 0, .ref x4, .ref x5, .ref x6, .int x7, .ref x8, .int x9, .int x10]))] H_1 := hP
  have hD : va_D A [(xa, .inr (11, [.ref x0, .int 0, .ref x2, .int 0, .ref x4, .ref x5, .ref x6, .int x7, .ref x8, .int x9, .int x10]))] := hD
  subst hw
  refine lv_astore_nN (lv' := [(3, .null), (0, .ref xa), (1, .int k1), (2, .int k2)]) hx hb dX11_tear_5 rfl hl (by decide) rfl (fun ls hl => ?_)
  refine lv_aload_nN hx hb dX11_tear_6 rfl (lv_at hl 0 rfl) ?_
  refine lv_ifnonnullN hx hb dX11_tear_7 ?_
  refine lv_aload_n hx hb dX11_tear_10 rfl (lv_at hl 1 rfl) ?_
  refine lv_iconst (v := 1) hx hb dX11_tear_11 (by decide) ?_
  have hPc := hP.sub (ws' := [(xa, .inr (11, [.ref x0, .int 0, .ref x2, .int 0, .ref x4, .ref x5, .ref x6, .int x7, .ref x8, .int x9, .int x10]))]) [0] rfl
  have hDc := hD.sub (ws' := [(xa, .inr (11, [.ref x0, .int 0, .ref x2, .int 0, .ref x4, .ref x5, .ref x6, .int x7, .ref x8, .int x9, .int x10]))]) [0] (by decide) rfl
  have hKc := hK.sub (tys' := []) [] rfl
  have hFc := va_free (wc := [(xa, .inr (11, [.ref x0, .int 0, .ref x2, .int 0, .ref x4, .ref x5, .ref x6, .int x7, .ref x8, .int x9, .int x10]))]) hD hS hA [0] rfl
  refine va_calli (va_runV (As := [.int 1]) (rest := []) ⟨hx, hb, hml, hown, hg⟩ (k_refuse l D H_1.size xa x0 0 x2 0 x4 x5 x6 x7 x8 x9 x10 1) (cwV 1 hg (gV wd_14 wd_15 wd_16 wd_5 wd_17) rfl rfl rfl (by decide +kernel) ⟨(Nat.le_of_ble_eq_true rfl), (Nat.le_of_ble_eq_true rfl)⟩) ⟨Pr.blind, va_recv hKc hPc (ci := 11) (q0 := 0) rfl rfl, fun U hU hW => ⟨rfl, Pr.at hPc hKc hDc hN hU hW⟩⟩ rfl rfl hl.1 rfl (lv_room (Nat.le_of_ble_eq_true rfl)) dX11_tear_12 ⟨(Nat.le_of_ble_eq_true rfl), (Nat.le_of_ble_eq_true rfl)⟩) hS (fun q _ h => hFc q h) hFc (fun r_4 u t H_3 locs ht hvm hw hB hz1 hk1 hS => ?_)
  obtain ⟨hP1, hK1, hD1⟩ := hB
  rw [ht] at hP1
  have hK1 := va_K.moved hvm.symm hK1
  obtain ⟨hP, hD⟩ := va_join (wr := []) (w1 := [(xa, .inr (11, [.ref x0, .int 0, .ref x2, .int 0, .ref x4, .ref x5, .ref x6, .int x7, .ref x8, .int 1, .int (-1)]))]) hP hD [0] [] rfl rfl (by decide) (by decide) hk1 hFc hP1 hD1
  have hP : va_P D vwCl [(xa, .inr (11, [.ref x0, .int 0, .ref x2, .int 0, .ref x4, .ref x5, .ref x6, .int x7, .ref x8, .int 1, .int (-1)]))] H_3 := hP
  have hD : va_D A [(xa, .inr (11, [.ref x0, .int 0, .ref x2, .int 0, .ref x4, .ref x5, .ref x6, .int x7, .ref x8, .int 1, .int (-1)]))] := hD
  subst hw
  exact W.iret (v := (-1)) hx hb hr (fun t ht hW => ⟨⟨(-1), (), rfl, rfl, trivial⟩, hS.F ht⟩) hS.2.2 dX11_tear_15
set_option maxHeartbeats 4000000 in
set_option maxRecDepth 100000 in
theorem k_earn (l : Launch) (D : va_G) (sz : Nat) (xa : Nat) (x0 : Nat) (x2 : Nat) (x4 : Nat) (x5 : Nat) (x6 : Nat) (x7 : Int32) (x8 : Nat) (x9 : Int32) (x10 : Int32) (k1 : Int32) (k2 : Int32) (k3 : Int32) : Met l yX11_earn (wsM yX11_earn cX11_earn 4 (some .int)) ({ frames := 3, cells := 0, slots := 0, locals := 70 }) (va_Pc [.ref xa, .int k1, .int k2, .int k3] (Pr D [(xa, .inr (11, [.ref x0, .int 0, .ref x2, .int 0, .ref x4, .ref x5, .ref x6, .int x7, .ref x8, .int x9, .int x10]))] [] sz)) (va_Qi (fun (r : Int32) (_ : Unit) => r = (-1)) (fun _ _ => True) (va_A [(xa, .inr (11, [.ref x0, .int 0, .ref x2, .int 0, .ref x4, .ref x5, .ref x6, .int x7, .ref x8, .int x9, .int x10]))] sz)) 0 0 (va_A [(xa, .inr (11, [.ref x0, .int 0, .ref x2, .int 0, .ref x4, .ref x5, .ref x6, .int x7, .ref x8, .int x9, .int x10]))] sz) := by
  refine Met.ofW (cc := cX11_earn) (maxL := 4) (ret := (some .int)) (by decide) rfl ?_
  intro p e s m args below meth c s₁ B hml hv
  obtain ⟨rfl, hsz, hP, hK, hD0, hN⟩ := hv
  have hx := B.exec
  have hb := B.bytes
  have hr := B.returns
  have hts := atoms_spec (ws := (wsM yX11_earn cX11_earn 4 (some .int))) B.pre
  have hg : ∀ w ∈ lw_good, w.before _ s = true := fun w h => hts w (List.mem_cons_of_mem _ h)
  have hown : s.vm.findClass RX11 = some m.cls := findClass_of_methodNamed B.named
  have hlocks := B.notSynchronized
  subst hsz
  have hD := hD0.self (sz := s.heap.size)
  generalize hAe : va_A [(xa, .inr (11, [.ref x0, .int 0, .ref x2, .int 0, .ref x4, .ref x5, .ref x6, .int x7, .ref x8, .int x9, .int x10]))] s.heap.size = A at hD ⊢
  have hA : ∀ q : Nat, s.heap.size ≤ q → A q := fun q h => by rw [← hAe]; exact Or.inr h
  have hS : va_S A s.heap s.heap [] := va_S.rf
  have hP : va_P D vwCl [(xa, .inr (11, [.ref x0, .int 0, .ref x2, .int 0, .ref x4, .ref x5, .ref x6, .int x7, .ref x8, .int x9, .int x10]))] s.heap := hP
  have hl := lv_entry ([.ref xa, .int k1, .int k2, .int k3]) (n := 4) (Nat.le_of_ble_eq_true rfl)
  rw [lg_entry_eq]
  generalize (lg_sl ([.ref xa, .int k1, .int k2, .int k3]) ++ List.replicate (4 - (lg_sl ([.ref xa, .int k1, .int k2, .int k3])).length) Slot.unset).toArray = ls at hl ⊢
  have hl : lv_has ls 4 [(0, .ref xa), (1, .int k1), (2, .int k2), (3, .int k3)] := hl
  refine lv_aload_n hx hb dX11_earn_0 rfl (lv_at hl 0 rfl) ?_
  refine lv_iload_n hx hb dX11_earn_1 rfl (lv_at hl 1 rfl) ?_
  refine lv_iload_n hx hb dX11_earn_2 rfl (lv_at hl 2 rfl) ?_
  refine lv_iload_n hx hb dX11_earn_3 rfl (lv_at hl 3 rfl) ?_
  refine lv_iconst (v := 1) hx hb dX11_earn_4 (by decide) ?_
  have hPc := hP.sub (ws' := [(xa, .inr (11, [.ref x0, .int 0, .ref x2, .int 0, .ref x4, .ref x5, .ref x6, .int x7, .ref x8, .int x9, .int x10]))]) [0] rfl
  have hDc := hD.sub (ws' := [(xa, .inr (11, [.ref x0, .int 0, .ref x2, .int 0, .ref x4, .ref x5, .ref x6, .int x7, .ref x8, .int x9, .int x10]))]) [0] (by decide) rfl
  have hKc := hK.sub (tys' := []) [] rfl
  have hFc := va_free (wc := [(xa, .inr (11, [.ref x0, .int 0, .ref x2, .int 0, .ref x4, .ref x5, .ref x6, .int x7, .ref x8, .int x9, .int x10]))]) hD hS hA [0] rfl
  refine va_calli (va_runV (As := [.int k1, .int k2, .int k3, .int 1]) (rest := []) ⟨hx, hb, hml, hown, hg⟩ (k_enter l D s.heap.size xa x0 x2 x4 x5 x6 x7 x8 x9 x10 k1 k2 k3 1) (cwV 4 hg (gV wd_22 wd_23 wd_24 wd_5 wd_25) rfl rfl rfl (by decide +kernel) ⟨(Nat.le_of_ble_eq_true rfl), (Nat.le_of_ble_eq_true rfl)⟩) ⟨Pr.blind, va_recv hKc hPc (ci := 11) (q0 := 0) rfl rfl, fun U hU hW => ⟨rfl, Pr.at hPc hKc hDc hN hU hW⟩⟩ rfl rfl hl.1 rfl (lv_room (Nat.le_of_ble_eq_true rfl)) dX11_earn_5 ⟨(Nat.le_of_ble_eq_true rfl), (Nat.le_of_ble_eq_true rfl)⟩) hS (fun q _ h => hFc q h) hFc (fun r_2 u t H_1 locs ht hvm hw hB hz1 hk1 hS => ?_)
  obtain ⟨hP, hD⟩ := forget_join (wr := []) hP hD [0] [] rfl rfl (by decide) (by decide) hk1 hFc
  have hP : va_P D vwCl [] H_1 := hP
  have hD : va_D A [] := hD
  subst hw
  exact W.iret (v := (-1)) hx hb hr (fun t ht hW => ⟨⟨(-1), (), rfl, rfl, trivial⟩, hS.F ht⟩) hS.2.2 dX11_earn_8
set_option maxHeartbeats 4000000 in
set_option maxRecDepth 100000 in
theorem k_spend (l : Launch) (D : va_G) (sz : Nat) (xa : Nat) (x0 : Nat) (x2 : Nat) (x4 : Nat) (x5 : Nat) (x6 : Nat) (x7 : Int32) (x8 : Nat) (x9 : Int32) (x10 : Int32) (k1 : Int32) (k2 : Int32) (k3 : Int32) : Met l yX11_spend (wsM yX11_spend cX11_spend 4 (some .int)) ({ frames := 3, cells := 0, slots := 0, locals := 70 }) (va_Pc [.ref xa, .int k1, .int k2, .int k3] (Pr D [(xa, .inr (11, [.ref x0, .int 0, .ref x2, .int 0, .ref x4, .ref x5, .ref x6, .int x7, .ref x8, .int x9, .int x10]))] [] sz)) (va_Qi (fun (r : Int32) (_ : Unit) => r = (-1)) (fun _ _ => True) (va_A [(xa, .inr (11, [.ref x0, .int 0, .ref x2, .int 0, .ref x4, .ref x5, .ref x6, .int x7, .ref x8, .int x9, .int x10]))] sz)) 0 0 (va_A [(xa, .inr (11, [.ref x0, .int 0, .ref x2, .int 0, .ref x4, .ref x5, .ref x6, .int x7, .ref x8, .int x9, .int x10]))] sz) := by
  refine Met.ofW (cc := cX11_spend) (maxL := 4) (ret := (some .int)) (by decide) rfl ?_
  intro p e s m args below meth c s₁ B hml hv
  obtain ⟨rfl, hsz, hP, hK, hD0, hN⟩ := hv
  have hx := B.exec
  have hb := B.bytes
  have hr := B.returns
  have hts := atoms_spec (ws := (wsM yX11_spend cX11_spend 4 (some .int))) B.pre
  have hg : ∀ w ∈ lw_good, w.before _ s = true := fun w h => hts w (List.mem_cons_of_mem _ h)
  have hown : s.vm.findClass RX11 = some m.cls := findClass_of_methodNamed B.named
  have hlocks := B.notSynchronized
  subst hsz
  have hD := hD0.self (sz := s.heap.size)
  generalize hAe : va_A [(xa, .inr (11, [.ref x0, .int 0, .ref x2, .int 0, .ref x4, .ref x5, .ref x6, .int x7, .ref x8, .int x9, .int x10]))] s.heap.size = A at hD ⊢
  have hA : ∀ q : Nat, s.heap.size ≤ q → A q := fun q h => by rw [← hAe]; exact Or.inr h
  have hS : va_S A s.heap s.heap [] := va_S.rf
  have hP : va_P D vwCl [(xa, .inr (11, [.ref x0, .int 0, .ref x2, .int 0, .ref x4, .ref x5, .ref x6, .int x7, .ref x8, .int x9, .int x10]))] s.heap := hP
  have hl := lv_entry ([.ref xa, .int k1, .int k2, .int k3]) (n := 4) (Nat.le_of_ble_eq_true rfl)
  rw [lg_entry_eq]
  generalize (lg_sl ([.ref xa, .int k1, .int k2, .int k3]) ++ List.replicate (4 - (lg_sl ([.ref xa, .int k1, .int k2, .int k3])).length) Slot.unset).toArray = ls at hl ⊢
  have hl : lv_has ls 4 [(0, .ref xa), (1, .int k1), (2, .int k2), (3, .int k3)] := hl
  refine lv_aload_n hx hb dX11_spend_0 rfl (lv_at hl 0 rfl) ?_
  refine lv_iload_n hx hb dX11_spend_1 rfl (lv_at hl 1 rfl) ?_
  refine lv_iload_n hx hb dX11_spend_2 rfl (lv_at hl 2 rfl) ?_
  refine lv_iload_n hx hb dX11_spend_3 rfl (lv_at hl 3 rfl) ?_
  refine lv_iconst (v := (-1)) hx hb dX11_spend_4 (by decide) ?_
  have hPc := hP.sub (ws' := [(xa, .inr (11, [.ref x0, .int 0, .ref x2, .int 0, .ref x4, .ref x5, .ref x6, .int x7, .ref x8, .int x9, .int x10]))]) [0] rfl
  have hDc := hD.sub (ws' := [(xa, .inr (11, [.ref x0, .int 0, .ref x2, .int 0, .ref x4, .ref x5, .ref x6, .int x7, .ref x8, .int x9, .int x10]))]) [0] (by decide) rfl
  have hKc := hK.sub (tys' := []) [] rfl
  have hFc := va_free (wc := [(xa, .inr (11, [.ref x0, .int 0, .ref x2, .int 0, .ref x4, .ref x5, .ref x6, .int x7, .ref x8, .int x9, .int x10]))]) hD hS hA [0] rfl
  refine va_calli (va_runV (As := [.int k1, .int k2, .int k3, .int (-1)]) (rest := []) ⟨hx, hb, hml, hown, hg⟩ (k_enter l D s.heap.size xa x0 x2 x4 x5 x6 x7 x8 x9 x10 k1 k2 k3 (-1)) (cwV 4 hg (gV wd_22 wd_23 wd_24 wd_5 wd_25) rfl rfl rfl (by decide +kernel) ⟨(Nat.le_of_ble_eq_true rfl), (Nat.le_of_ble_eq_true rfl)⟩) ⟨Pr.blind, va_recv hKc hPc (ci := 11) (q0 := 0) rfl rfl, fun U hU hW => ⟨rfl, Pr.at hPc hKc hDc hN hU hW⟩⟩ rfl rfl hl.1 rfl (lv_room (Nat.le_of_ble_eq_true rfl)) dX11_spend_5 ⟨(Nat.le_of_ble_eq_true rfl), (Nat.le_of_ble_eq_true rfl)⟩) hS (fun q _ h => hFc q h) hFc (fun r_2 u t H_1 locs ht hvm hw hB hz1 hk1 hS => ?_)
  obtain ⟨hP, hD⟩ := forget_join (wr := []) hP hD [0] [] rfl rfl (by decide) (by decide) hk1 hFc
  have hP : va_P D vwCl [] H_1 := hP
  have hD : va_D A [] := hD
  subst hw
  exact W.iret (v := (-1)) hx hb hr (fun t ht hW => ⟨⟨(-1), (), rfl, rfl, trivial⟩, hS.F ht⟩) hS.2.2 dX11_spend_8
set_option maxHeartbeats 4000000 in
set_option maxRecDepth 100000 in
theorem k_loose (l : Launch) (D : va_G) (sz : Nat) (xa : Nat) (x0 : Nat) (x2 : Nat) (x4 : Nat) (x5 : Nat) (x6 : Nat) (x7 : Int32) (x8 : Nat) (x9 : Int32) (x10 : Int32) (k1 : Int32) (k2 : Int32) : Met l yX11_loose (wsM yX11_loose cX11_loose 4 (some .int)) ({ frames := 2, cells := 0, slots := 0, locals := 43 }) (va_Pc [.ref xa, .int k1, .int k2] (Pr D [(xa, .inr (11, [.ref x0, .int 0, .ref x2, .int 0, .ref x4, .ref x5, .ref x6, .int x7, .ref x8, .int x9, .int x10]))] [] sz)) (va_Qi (fun (r : Int32) (_ : Unit) => r = (-1)) (fun _ _ => True) (va_A [(xa, .inr (11, [.ref x0, .int 0, .ref x2, .int 0, .ref x4, .ref x5, .ref x6, .int x7, .ref x8, .int x9, .int x10]))] sz)) 0 0 (va_A [(xa, .inr (11, [.ref x0, .int 0, .ref x2, .int 0, .ref x4, .ref x5, .ref x6, .int x7, .ref x8, .int x9, .int x10]))] sz) := by
  refine Met.ofW (cc := cX11_loose) (maxL := 4) (ret := (some .int)) (by decide) rfl ?_
  intro p e s m args below meth c s₁ B hml hv
  obtain ⟨rfl, hsz, hP, hK, hD0, hN⟩ := hv
  have hx := B.exec
  have hb := B.bytes
  have hr := B.returns
  have hts := atoms_spec (ws := (wsM yX11_loose cX11_loose 4 (some .int))) B.pre
  have hg : ∀ w ∈ lw_good, w.before _ s = true := fun w h => hts w (List.mem_cons_of_mem _ h)
  have hown : s.vm.findClass RX11 = some m.cls := findClass_of_methodNamed B.named
  have hlocks := B.notSynchronized
  subst hsz
  have hD := hD0.self (sz := s.heap.size)
  generalize hAe : va_A [(xa, .inr (11, [.ref x0, .int 0, .ref x2, .int 0, .ref x4, .ref x5, .ref x6, .int x7, .ref x8, .int x9, .int x10]))] s.heap.size = A at hD ⊢
  have hA : ∀ q : Nat, s.heap.size ≤ q → A q := fun q h => by rw [← hAe]; exact Or.inr h
  have hS : va_S A s.heap s.heap [] := va_S.rf
  have hP : va_P D vwCl [(xa, .inr (11, [.ref x0, .int 0, .ref x2, .int 0, .ref x4, .ref x5, .ref x6, .int x7, .ref x8, .int x9, .int x10]))] s.heap := hP
  have hl := lv_entry ([.ref xa, .int k1, .int k2]) (n := 4) (Nat.le_of_ble_eq_true rfl)
  rw [lg_entry_eq]
  generalize (lg_sl ([.ref xa, .int k1, .int k2]) ++ List.replicate (4 - (lg_sl ([.ref xa, .int k1, .int k2])).length) Slot.unset).toArray = ls at hl ⊢
  have hl : lv_has ls 4 [(0, .ref xa), (1, .int k1), (2, .int k2)] := hl
  refine lv_aload_n hx hb dX11_loose_0 rfl (lv_at hl 0 rfl) ?_
  refine lv_iload_n hx hb dX11_loose_1 rfl (lv_at hl 1 rfl) ?_
  have hPc := hP.sub (ws' := [(xa, .inr (11, [.ref x0, .int 0, .ref x2, .int 0, .ref x4, .ref x5, .ref x6, .int x7, .ref x8, .int x9, .int x10]))]) [0] rfl
  have hDc := hD.sub (ws' := [(xa, .inr (11, [.ref x0, .int 0, .ref x2, .int 0, .ref x4, .ref x5, .ref x6, .int x7, .ref x8, .int x9, .int x10]))]) [0] (by decide) rfl
  have hKc := hK.sub (tys' := []) [] rfl
  have hFc := va_free (wc := [(xa, .inr (11, [.ref x0, .int 0, .ref x2, .int 0, .ref x4, .ref x5, .ref x6, .int x7, .ref x8, .int x9, .int x10]))]) hD hS hA [0] rfl
  refine va_callq (va_runV (As := [.int k1]) (rest := []) ⟨hx, hb, hml, hown, hg⟩ (k_houseAt0 l D s.heap.size xa x0 x2 x4 x5 x6 x7 x8 x9 x10 k1) (cwV 1 hg (gV wd_10 wd_11 wd_12 wd_5 wd_13) rfl rfl rfl (by decide +kernel) ⟨(Nat.le_of_ble_eq_true rfl), (Nat.le_of_ble_eq_true rfl)⟩) ⟨Pr.blind, va_recv hKc hPc (ci := 11) (q0 := 0) rfl rfl, fun U hU hW => ⟨rfl, Pr.at hPc hKc hDc hN hU hW⟩⟩ rfl rfl hl.1 rfl (lv_room (Nat.le_of_ble_eq_true rfl)) dX11_loose_2 ⟨(Nat.le_of_ble_eq_true rfl), (Nat.le_of_ble_eq_true rfl)⟩) hS (fun q _ h => hFc q h) hFc (fun r_2 u t H_1 locs ht hvm hw hB hz1 hk1 hS => ?_)
  obtain ⟨hP1, hK1, hD1⟩ := hB
  rw [ht] at hP1
  have hK1 := va_K.moved hvm.symm hK1
  obtain ⟨hP, hD⟩ := va_join (wr := []) (w1 := [(xa, .inr (11, [.ref x0, .int 0, .ref x2, .int 0, .ref x4, .ref x5, .ref x6, .int x7, .ref x8, .int x9, .int x10]))]) hP hD [0] [] rfl rfl (by decide) (by decide) hk1 hFc hP1 hD1
  have hP : va_P D vwCl [(xa, .inr (11, [.ref x0, .int 0, .ref x2, .int 0, .ref x4, .ref x5, .ref x6, .int x7, .ref x8, .int x9, .int x10]))] H_1 := hP
  have hD : va_D A [(xa, .inr (11, [.ref x0, .int 0, .ref x2, .int 0, .ref x4, .ref x5, .ref x6, .int x7, .ref x8, .int x9, .int x10]))] := hD
  subst hw
  refine lv_astore_nN (lv' := [(3, .null), (0, .ref xa), (1, .int k1), (2, .int k2)]) hx hb dX11_loose_5 rfl hl (by decide) rfl (fun ls hl => ?_)
  refine lv_aload_nN hx hb dX11_loose_6 rfl (lv_at hl 0 rfl) ?_
  refine lv_ifnonnullN hx hb dX11_loose_7 ?_
  refine lv_aload_n hx hb dX11_loose_10 rfl (lv_at hl 1 rfl) ?_
  refine lv_iconst (v := 1) hx hb dX11_loose_11 (by decide) ?_
  have hPc := hP.sub (ws' := [(xa, .inr (11, [.ref x0, .int 0, .ref x2, .int 0, .ref x4, .ref x5, .ref x6, .int x7, .ref x8, .int x9, .int x10]))]) [0] rfl
  have hDc := hD.sub (ws' := [(xa, .inr (11, [.ref x0, .int 0, .ref x2, .int 0, .ref x4, .ref x5, .ref x6, .int x7, .ref x8, .int x9, .int x10]))]) [0] (by decide) rfl
  have hKc := hK.sub (tys' := []) [] rfl
  have hFc := va_free (wc := [(xa, .inr (11, [.ref x0, .int 0, .ref x2, .int 0, .ref x4, .ref x5, .ref x6, .int x7, .ref x8, .int x9, .int x10]))]) hD hS hA [0] rfl
  refine va_calli (va_runV (As := [.int 1]) (rest := []) ⟨hx, hb, hml, hown, hg⟩ (k_refuse l D H_1.size xa x0 0 x2 0 x4 x5 x6 x7 x8 x9 x10 1) (cwV 1 hg (gV wd_14 wd_15 wd_16 wd_5 wd_17) rfl rfl rfl (by decide +kernel) ⟨(Nat.le_of_ble_eq_true rfl), (Nat.le_of_ble_eq_true rfl)⟩) ⟨Pr.blind, va_recv hKc hPc (ci := 11) (q0 := 0) rfl rfl, fun U hU hW => ⟨rfl, Pr.at hPc hKc hDc hN hU hW⟩⟩ rfl rfl hl.1 rfl (lv_room (Nat.le_of_ble_eq_true rfl)) dX11_loose_12 ⟨(Nat.le_of_ble_eq_true rfl), (Nat.le_of_ble_eq_true rfl)⟩) hS (fun q _ h => hFc q h) hFc (fun r_4 u t H_3 locs ht hvm hw hB hz1 hk1 hS => ?_)
  obtain ⟨hP1, hK1, hD1⟩ := hB
  rw [ht] at hP1
  have hK1 := va_K.moved hvm.symm hK1
  obtain ⟨hP, hD⟩ := va_join (wr := []) (w1 := [(xa, .inr (11, [.ref x0, .int 0, .ref x2, .int 0, .ref x4, .ref x5, .ref x6, .int x7, .ref x8, .int 1, .int (-1)]))]) hP hD [0] [] rfl rfl (by decide) (by decide) hk1 hFc hP1 hD1
  have hP : va_P D vwCl [(xa, .inr (11, [.ref x0, .int 0, .ref x2, .int 0, .ref x4, .ref x5, .ref x6, .int x7, .ref x8, .int 1, .int (-1)]))] H_3 := hP
  have hD : va_D A [(xa, .inr (11, [.ref x0, .int 0, .ref x2, .int 0, .ref x4, .ref x5, .ref x6, .int x7, .ref x8, .int 1, .int (-1)]))] := hD
  subst hw
  exact W.iret (v := (-1)) hx hb hr (fun t ht hW => ⟨⟨(-1), (), rfl, rfl, trivial⟩, hS.F ht⟩) hS.2.2 dX11_loose_15
set_option maxHeartbeats 4000000 in
set_option maxRecDepth 100000 in
theorem k_move (l : Launch) (D : va_G) (sz : Nat) (xa : Nat) (x0 : Nat) (x2 : Nat) (x4 : Nat) (x5 : Nat) (x6 : Nat) (x7 : Int32) (x8 : Nat) (x9 : Int32) (x10 : Int32) (k1 : Int32) (k2 : Int32) (k3 : Int32) (k4 : Int32) (k5 : Int32) : Met l yX11_move (wsM yX11_move cX11_move 8 (some .int)) ({ frames := 2, cells := 0, slots := 0, locals := 43 }) (va_Pc [.ref xa, .int k1, .int k2, .int k3, .int k4, .int k5] (Pr D [(xa, .inr (11, [.ref x0, .int 0, .ref x2, .int 0, .ref x4, .ref x5, .ref x6, .int x7, .ref x8, .int x9, .int x10]))] [] sz)) (va_Qi (fun (r : Int32) (_ : Unit) => r = (-1)) (fun _ _ => True) (va_A [(xa, .inr (11, [.ref x0, .int 0, .ref x2, .int 0, .ref x4, .ref x5, .ref x6, .int x7, .ref x8, .int x9, .int x10]))] sz)) 0 0 (va_A [(xa, .inr (11, [.ref x0, .int 0, .ref x2, .int 0, .ref x4, .ref x5, .ref x6, .int x7, .ref x8, .int x9, .int x10]))] sz) := by
  refine Met.ofW (cc := cX11_move) (maxL := 8) (ret := (some .int)) (by decide) rfl ?_
  intro p e s m args below meth c s₁ B hml hv
  obtain ⟨rfl, hsz, hP, hK, hD0, hN⟩ := hv
  have hx := B.exec
  have hb := B.bytes
  have hr := B.returns
  have hts := atoms_spec (ws := (wsM yX11_move cX11_move 8 (some .int))) B.pre
  have hg : ∀ w ∈ lw_good, w.before _ s = true := fun w h => hts w (List.mem_cons_of_mem _ h)
  have hown : s.vm.findClass RX11 = some m.cls := findClass_of_methodNamed B.named
  have hlocks := B.notSynchronized
  subst hsz
  have hD := hD0.self (sz := s.heap.size)
  generalize hAe : va_A [(xa, .inr (11, [.ref x0, .int 0, .ref x2, .int 0, .ref x4, .ref x5, .ref x6, .int x7, .ref x8, .int x9, .int x10]))] s.heap.size = A at hD ⊢
  have hA : ∀ q : Nat, s.heap.size ≤ q → A q := fun q h => by rw [← hAe]; exact Or.inr h
  have hS : va_S A s.heap s.heap [] := va_S.rf
  have hP : va_P D vwCl [(xa, .inr (11, [.ref x0, .int 0, .ref x2, .int 0, .ref x4, .ref x5, .ref x6, .int x7, .ref x8, .int x9, .int x10]))] s.heap := hP
  have hl := lv_entry ([.ref xa, .int k1, .int k2, .int k3, .int k4, .int k5]) (n := 8) (Nat.le_of_ble_eq_true rfl)
  rw [lg_entry_eq]
  generalize (lg_sl ([.ref xa, .int k1, .int k2, .int k3, .int k4, .int k5]) ++ List.replicate (8 - (lg_sl ([.ref xa, .int k1, .int k2, .int k3, .int k4, .int k5])).length) Slot.unset).toArray = ls at hl ⊢
  have hl : lv_has ls 8 [(0, .ref xa), (1, .int k1), (2, .int k2), (3, .int k3), (4, .int k4), (5, .int k5)] := hl
  refine lv_aload_n hx hb dX11_move_0 rfl (lv_at hl 0 rfl) ?_
  refine lv_iload_n hx hb dX11_move_1 rfl (lv_at hl 1 rfl) ?_
  have hPc := hP.sub (ws' := [(xa, .inr (11, [.ref x0, .int 0, .ref x2, .int 0, .ref x4, .ref x5, .ref x6, .int x7, .ref x8, .int x9, .int x10]))]) [0] rfl
  have hDc := hD.sub (ws' := [(xa, .inr (11, [.ref x0, .int 0, .ref x2, .int 0, .ref x4, .ref x5, .ref x6, .int x7, .ref x8, .int x9, .int x10]))]) [0] (by decide) rfl
  have hKc := hK.sub (tys' := []) [] rfl
  have hFc := va_free (wc := [(xa, .inr (11, [.ref x0, .int 0, .ref x2, .int 0, .ref x4, .ref x5, .ref x6, .int x7, .ref x8, .int x9, .int x10]))]) hD hS hA [0] rfl
  refine va_callq (va_runV (As := [.int k1]) (rest := []) ⟨hx, hb, hml, hown, hg⟩ (k_houseAt0 l D s.heap.size xa x0 x2 x4 x5 x6 x7 x8 x9 x10 k1) (cwV 1 hg (gV wd_10 wd_11 wd_12 wd_5 wd_13) rfl rfl rfl (by decide +kernel) ⟨(Nat.le_of_ble_eq_true rfl), (Nat.le_of_ble_eq_true rfl)⟩) ⟨Pr.blind, va_recv hKc hPc (ci := 11) (q0 := 0) rfl rfl, fun U hU hW => ⟨rfl, Pr.at hPc hKc hDc hN hU hW⟩⟩ rfl rfl hl.1 rfl (lv_room (Nat.le_of_ble_eq_true rfl)) dX11_move_2 ⟨(Nat.le_of_ble_eq_true rfl), (Nat.le_of_ble_eq_true rfl)⟩) hS (fun q _ h => hFc q h) hFc (fun r_2 u t H_1 locs ht hvm hw hB hz1 hk1 hS => ?_)
  obtain ⟨hP1, hK1, hD1⟩ := hB
  rw [ht] at hP1
  have hK1 := va_K.moved hvm.symm hK1
  obtain ⟨hP, hD⟩ := va_join (wr := []) (w1 := [(xa, .inr (11, [.ref x0, .int 0, .ref x2, .int 0, .ref x4, .ref x5, .ref x6, .int x7, .ref x8, .int x9, .int x10]))]) hP hD [0] [] rfl rfl (by decide) (by decide) hk1 hFc hP1 hD1
  have hP : va_P D vwCl [(xa, .inr (11, [.ref x0, .int 0, .ref x2, .int 0, .ref x4, .ref x5, .ref x6, .int x7, .ref x8, .int x9, .int x10]))] H_1 := hP
  have hD : va_D A [(xa, .inr (11, [.ref x0, .int 0, .ref x2, .int 0, .ref x4, .ref x5, .ref x6, .int x7, .ref x8, .int x9, .int x10]))] := hD
  subst hw
  refine lv_astoreN (lv' := [(6, .null), (0, .ref xa), (1, .int k1), (2, .int k2), (3, .int k3), (4, .int k4), (5, .int k5)]) hx hb dX11_move_5 hl (by decide) rfl (fun ls hl => ?_)
  refine lv_aloadN hx hb dX11_move_7 (lv_at hl 0 rfl) ?_
  refine lv_ifnonnullN hx hb dX11_move_9 ?_
  refine lv_null hx hb dX11_move_12 ?_
  refine lv_goto (tgt := 22) hx hb dX11_move_13 (by decide) ?_
  refine lv_astoreN (lv' := [(7, .null), (6, .null), (0, .ref xa), (1, .int k1), (2, .int k2), (3, .int k3), (4, .int k4), (5, .int k5)]) hx hb dX11_move_22 hl (by decide) rfl (fun ls hl => ?_)
  refine lv_aloadN hx hb dX11_move_24 (lv_at hl 1 rfl) ?_
  refine lv_ifnullN (tgt := 34) hx hb dX11_move_26 (by decide) ?_
  refine lv_aload_n hx hb dX11_move_34 rfl (lv_at hl 2 rfl) ?_
  refine lv_iconst (v := 1) hx hb dX11_move_35 (by decide) ?_
  have hPc := hP.sub (ws' := [(xa, .inr (11, [.ref x0, .int 0, .ref x2, .int 0, .ref x4, .ref x5, .ref x6, .int x7, .ref x8, .int x9, .int x10]))]) [0] rfl
  have hDc := hD.sub (ws' := [(xa, .inr (11, [.ref x0, .int 0, .ref x2, .int 0, .ref x4, .ref x5, .ref x6, .int x7, .ref x8, .int x9, .int x10]))]) [0] (by decide) rfl
  have hKc := hK.sub (tys' := []) [] rfl
  have hFc := va_free (wc := [(xa, .inr (11, [.ref x0, .int 0, .ref x2, .int 0, .ref x4, .ref x5, .ref x6, .int x7, .ref x8, .int x9, .int x10]))]) hD hS hA [0] rfl
  refine va_calli (va_runV (As := [.int 1]) (rest := []) ⟨hx, hb, hml, hown, hg⟩ (k_refuse l D H_1.size xa x0 0 x2 0 x4 x5 x6 x7 x8 x9 x10 1) (cwV 1 hg (gV wd_14 wd_15 wd_16 wd_5 wd_17) rfl rfl rfl (by decide +kernel) ⟨(Nat.le_of_ble_eq_true rfl), (Nat.le_of_ble_eq_true rfl)⟩) ⟨Pr.blind, va_recv hKc hPc (ci := 11) (q0 := 0) rfl rfl, fun U hU hW => ⟨rfl, Pr.at hPc hKc hDc hN hU hW⟩⟩ rfl rfl hl.1 rfl (lv_room (Nat.le_of_ble_eq_true rfl)) dX11_move_36 ⟨(Nat.le_of_ble_eq_true rfl), (Nat.le_of_ble_eq_true rfl)⟩) hS (fun q _ h => hFc q h) hFc (fun r_4 u t H_3 locs ht hvm hw hB hz1 hk1 hS => ?_)
  obtain ⟨hP1, hK1, hD1⟩ := hB
  rw [ht] at hP1
  have hK1 := va_K.moved hvm.symm hK1
  obtain ⟨hP, hD⟩ := va_join (wr := []) (w1 := [(xa, .inr (11, [.ref x0, .int 0, .ref x2, .int 0, .ref x4, .ref x5, .ref x6, .int x7, .ref x8, .int 1, .int (-1)]))]) hP hD [0] [] rfl rfl (by decide) (by decide) hk1 hFc hP1 hD1
  have hP : va_P D vwCl [(xa, .inr (11, [.ref x0, .int 0, .ref x2, .int 0, .ref x4, .ref x5, .ref x6, .int x7, .ref x8, .int 1, .int (-1)]))] H_3 := hP
  have hD : va_D A [(xa, .inr (11, [.ref x0, .int 0, .ref x2, .int 0, .ref x4, .ref x5, .ref x6, .int x7, .ref x8, .int 1, .int (-1)]))] := hD
  subst hw
  exact W.iret (v := (-1)) hx hb hr (fun t ht hW => ⟨⟨(-1), (), rfl, rfl, trivial⟩, hS.F ht⟩) hS.2.2 dX11_move_39
set_option maxHeartbeats 4000000 in
set_option maxRecDepth 100000 in
theorem k_lend (l : Launch) (D : va_G) (sz : Nat) (xa : Nat) (x0 : Nat) (x2 : Nat) (x4 : Nat) (x5 : Nat) (x6 : Nat) (x7 : Int32) (x8 : Nat) (x9 : Int32) (x10 : Int32) (k1 : Int32) (k2 : Int32) (k3 : Int32) (k4 : Int32) : Met l yX11_lend (wsM yX11_lend cX11_lend 9 (some .int)) ({ frames := 2, cells := 0, slots := 0, locals := 43 }) (va_Pc [.ref xa, .int k1, .int k2, .int k3, .int k4] (Pr D [(xa, .inr (11, [.ref x0, .int 0, .ref x2, .int 0, .ref x4, .ref x5, .ref x6, .int x7, .ref x8, .int x9, .int x10]))] [] sz)) (va_Qi (fun (r : Int32) (_ : Unit) => r = (-1)) (fun _ _ => True) (va_A [(xa, .inr (11, [.ref x0, .int 0, .ref x2, .int 0, .ref x4, .ref x5, .ref x6, .int x7, .ref x8, .int x9, .int x10]))] sz)) 0 0 (va_A [(xa, .inr (11, [.ref x0, .int 0, .ref x2, .int 0, .ref x4, .ref x5, .ref x6, .int x7, .ref x8, .int x9, .int x10]))] sz) := by
  refine Met.ofW (cc := cX11_lend) (maxL := 9) (ret := (some .int)) (by decide) rfl ?_
  intro p e s m args below meth c s₁ B hml hv
  obtain ⟨rfl, hsz, hP, hK, hD0, hN⟩ := hv
  have hx := B.exec
  have hb := B.bytes
  have hr := B.returns
  have hts := atoms_spec (ws := (wsM yX11_lend cX11_lend 9 (some .int))) B.pre
  have hg : ∀ w ∈ lw_good, w.before _ s = true := fun w h => hts w (List.mem_cons_of_mem _ h)
  have hown : s.vm.findClass RX11 = some m.cls := findClass_of_methodNamed B.named
  have hlocks := B.notSynchronized
  subst hsz
  have hD := hD0.self (sz := s.heap.size)
  generalize hAe : va_A [(xa, .inr (11, [.ref x0, .int 0, .ref x2, .int 0, .ref x4, .ref x5, .ref x6, .int x7, .ref x8, .int x9, .int x10]))] s.heap.size = A at hD ⊢
  have hA : ∀ q : Nat, s.heap.size ≤ q → A q := fun q h => by rw [← hAe]; exact Or.inr h
  have hS : va_S A s.heap s.heap [] := va_S.rf
  have hP : va_P D vwCl [(xa, .inr (11, [.ref x0, .int 0, .ref x2, .int 0, .ref x4, .ref x5, .ref x6, .int x7, .ref x8, .int x9, .int x10]))] s.heap := hP
  have hl := lv_entry ([.ref xa, .int k1, .int k2, .int k3, .int k4]) (n := 9) (Nat.le_of_ble_eq_true rfl)
  rw [lg_entry_eq]
  generalize (lg_sl ([.ref xa, .int k1, .int k2, .int k3, .int k4]) ++ List.replicate (9 - (lg_sl ([.ref xa, .int k1, .int k2, .int k3, .int k4])).length) Slot.unset).toArray = ls at hl ⊢
  have hl : lv_has ls 9 [(0, .ref xa), (1, .int k1), (2, .int k2), (3, .int k3), (4, .int k4)] := hl
  refine lv_aload_n hx hb dX11_lend_0 rfl (lv_at hl 0 rfl) ?_
  refine lv_iload_n hx hb dX11_lend_1 rfl (lv_at hl 1 rfl) ?_
  have hPc := hP.sub (ws' := [(xa, .inr (11, [.ref x0, .int 0, .ref x2, .int 0, .ref x4, .ref x5, .ref x6, .int x7, .ref x8, .int x9, .int x10]))]) [0] rfl
  have hDc := hD.sub (ws' := [(xa, .inr (11, [.ref x0, .int 0, .ref x2, .int 0, .ref x4, .ref x5, .ref x6, .int x7, .ref x8, .int x9, .int x10]))]) [0] (by decide) rfl
  have hKc := hK.sub (tys' := []) [] rfl
  have hFc := va_free (wc := [(xa, .inr (11, [.ref x0, .int 0, .ref x2, .int 0, .ref x4, .ref x5, .ref x6, .int x7, .ref x8, .int x9, .int x10]))]) hD hS hA [0] rfl
  refine va_callq (va_runV (As := [.int k1]) (rest := []) ⟨hx, hb, hml, hown, hg⟩ (k_houseAt0 l D s.heap.size xa x0 x2 x4 x5 x6 x7 x8 x9 x10 k1) (cwV 1 hg (gV wd_10 wd_11 wd_12 wd_5 wd_13) rfl rfl rfl (by decide +kernel) ⟨(Nat.le_of_ble_eq_true rfl), (Nat.le_of_ble_eq_true rfl)⟩) ⟨Pr.blind, va_recv hKc hPc (ci := 11) (q0 := 0) rfl rfl, fun U hU hW => ⟨rfl, Pr.at hPc hKc hDc hN hU hW⟩⟩ rfl rfl hl.1 rfl (lv_room (Nat.le_of_ble_eq_true rfl)) dX11_lend_2 ⟨(Nat.le_of_ble_eq_true rfl), (Nat.le_of_ble_eq_true rfl)⟩) hS (fun q _ h => hFc q h) hFc (fun r_2 u t H_1 locs ht hvm hw hB hz1 hk1 hS => ?_)
  obtain ⟨hP1, hK1, hD1⟩ := hB
  rw [ht] at hP1
  have hK1 := va_K.moved hvm.symm hK1
  obtain ⟨hP, hD⟩ := va_join (wr := []) (w1 := [(xa, .inr (11, [.ref x0, .int 0, .ref x2, .int 0, .ref x4, .ref x5, .ref x6, .int x7, .ref x8, .int x9, .int x10]))]) hP hD [0] [] rfl rfl (by decide) (by decide) hk1 hFc hP1 hD1
  have hP : va_P D vwCl [(xa, .inr (11, [.ref x0, .int 0, .ref x2, .int 0, .ref x4, .ref x5, .ref x6, .int x7, .ref x8, .int x9, .int x10]))] H_1 := hP
  have hD : va_D A [(xa, .inr (11, [.ref x0, .int 0, .ref x2, .int 0, .ref x4, .ref x5, .ref x6, .int x7, .ref x8, .int x9, .int x10]))] := hD
  subst hw
  refine lv_astoreN (lv' := [(5, .null), (0, .ref xa), (1, .int k1), (2, .int k2), (3, .int k3), (4, .int k4)]) hx hb dX11_lend_5 hl (by decide) rfl (fun ls hl => ?_)
  refine lv_aloadN hx hb dX11_lend_7 (lv_at hl 0 rfl) ?_
  refine lv_ifnonnullN hx hb dX11_lend_9 ?_
  refine lv_null hx hb dX11_lend_12 ?_
  refine lv_goto (tgt := 22) hx hb dX11_lend_13 (by decide) ?_
  refine lv_astoreN (lv' := [(6, .null), (5, .null), (0, .ref xa), (1, .int k1), (2, .int k2), (3, .int k3), (4, .int k4)]) hx hb dX11_lend_22 hl (by decide) rfl (fun ls hl => ?_)
  refine lv_aloadN hx hb dX11_lend_24 (lv_at hl 0 rfl) ?_
  refine lv_ifnonnullN hx hb dX11_lend_26 ?_
  refine lv_aload_n hx hb dX11_lend_29 rfl (lv_at hl 2 rfl) ?_
  refine lv_iconst (v := 1) hx hb dX11_lend_30 (by decide) ?_
  have hPc := hP.sub (ws' := [(xa, .inr (11, [.ref x0, .int 0, .ref x2, .int 0, .ref x4, .ref x5, .ref x6, .int x7, .ref x8, .int x9, .int x10]))]) [0] rfl
  have hDc := hD.sub (ws' := [(xa, .inr (11, [.ref x0, .int 0, .ref x2, .int 0, .ref x4, .ref x5, .ref x6, .int x7, .ref x8, .int x9, .int x10]))]) [0] (by decide) rfl
  have hKc := hK.sub (tys' := []) [] rfl
  have hFc := va_free (wc := [(xa, .inr (11, [.ref x0, .int 0, .ref x2, .int 0, .ref x4, .ref x5, .ref x6, .int x7, .ref x8, .int x9, .int x10]))]) hD hS hA [0] rfl
  refine va_calli (va_runV (As := [.int 1]) (rest := []) ⟨hx, hb, hml, hown, hg⟩ (k_refuse l D H_1.size xa x0 0 x2 0 x4 x5 x6 x7 x8 x9 x10 1) (cwV 1 hg (gV wd_14 wd_15 wd_16 wd_5 wd_17) rfl rfl rfl (by decide +kernel) ⟨(Nat.le_of_ble_eq_true rfl), (Nat.le_of_ble_eq_true rfl)⟩) ⟨Pr.blind, va_recv hKc hPc (ci := 11) (q0 := 0) rfl rfl, fun U hU hW => ⟨rfl, Pr.at hPc hKc hDc hN hU hW⟩⟩ rfl rfl hl.1 rfl (lv_room (Nat.le_of_ble_eq_true rfl)) dX11_lend_31 ⟨(Nat.le_of_ble_eq_true rfl), (Nat.le_of_ble_eq_true rfl)⟩) hS (fun q _ h => hFc q h) hFc (fun r_4 u t H_3 locs ht hvm hw hB hz1 hk1 hS => ?_)
  obtain ⟨hP1, hK1, hD1⟩ := hB
  rw [ht] at hP1
  have hK1 := va_K.moved hvm.symm hK1
  obtain ⟨hP, hD⟩ := va_join (wr := []) (w1 := [(xa, .inr (11, [.ref x0, .int 0, .ref x2, .int 0, .ref x4, .ref x5, .ref x6, .int x7, .ref x8, .int 1, .int (-1)]))]) hP hD [0] [] rfl rfl (by decide) (by decide) hk1 hFc hP1 hD1
  have hP : va_P D vwCl [(xa, .inr (11, [.ref x0, .int 0, .ref x2, .int 0, .ref x4, .ref x5, .ref x6, .int x7, .ref x8, .int 1, .int (-1)]))] H_3 := hP
  have hD : va_D A [(xa, .inr (11, [.ref x0, .int 0, .ref x2, .int 0, .ref x4, .ref x5, .ref x6, .int x7, .ref x8, .int 1, .int (-1)]))] := hD
  subst hw
  exact W.iret (v := (-1)) hx hb hr (fun t ht hW => ⟨⟨(-1), (), rfl, rfl, trivial⟩, hS.F ht⟩) hS.2.2 dX11_lend_34
set_option maxHeartbeats 4000000 in
set_option maxRecDepth 100000 in
theorem k_undo (l : Launch) (D : va_G) (sz : Nat) (xa : Nat) (x0 : Nat) (x2 : Nat) (x4 : Nat) (x5 : Nat) (x6 : Nat) (x7 : Int32) (x8 : Nat) (x9 : Int32) (x10 : Int32) (k1 : Int32) : Met l yX11_undo (wsM yX11_undo cX11_undo 4 (some .int)) ({ frames := 2, cells := 0, slots := 0, locals := 43 }) (va_Pc [.ref xa, .int k1] (Pr D [(xa, .inr (11, [.ref x0, .int 0, .ref x2, .int 0, .ref x4, .ref x5, .ref x6, .int x7, .ref x8, .int x9, .int x10]))] [] sz)) (va_Qi (fun (r : Int32) (_ : Unit) => r = (-1)) (fun _ _ => True) (va_A [(xa, .inr (11, [.ref x0, .int 0, .ref x2, .int 0, .ref x4, .ref x5, .ref x6, .int x7, .ref x8, .int x9, .int x10]))] sz)) 0 0 (va_A [(xa, .inr (11, [.ref x0, .int 0, .ref x2, .int 0, .ref x4, .ref x5, .ref x6, .int x7, .ref x8, .int x9, .int x10]))] sz) := by
  refine Met.ofW (cc := cX11_undo) (maxL := 4) (ret := (some .int)) (by decide) rfl ?_
  intro p e s m args below meth c s₁ B hml hv
  obtain ⟨rfl, hsz, hP, hK, hD0, hN⟩ := hv
  have hx := B.exec
  have hb := B.bytes
  have hr := B.returns
  have hts := atoms_spec (ws := (wsM yX11_undo cX11_undo 4 (some .int))) B.pre
  have hg : ∀ w ∈ lw_good, w.before _ s = true := fun w h => hts w (List.mem_cons_of_mem _ h)
  have hown : s.vm.findClass RX11 = some m.cls := findClass_of_methodNamed B.named
  have hlocks := B.notSynchronized
  subst hsz
  have hD := hD0.self (sz := s.heap.size)
  generalize hAe : va_A [(xa, .inr (11, [.ref x0, .int 0, .ref x2, .int 0, .ref x4, .ref x5, .ref x6, .int x7, .ref x8, .int x9, .int x10]))] s.heap.size = A at hD ⊢
  have hA : ∀ q : Nat, s.heap.size ≤ q → A q := fun q h => by rw [← hAe]; exact Or.inr h
  have hS : va_S A s.heap s.heap [] := va_S.rf
  have hP : va_P D vwCl [(xa, .inr (11, [.ref x0, .int 0, .ref x2, .int 0, .ref x4, .ref x5, .ref x6, .int x7, .ref x8, .int x9, .int x10]))] s.heap := hP
  have hl := lv_entry ([.ref xa, .int k1]) (n := 4) (Nat.le_of_ble_eq_true rfl)
  rw [lg_entry_eq]
  generalize (lg_sl ([.ref xa, .int k1]) ++ List.replicate (4 - (lg_sl ([.ref xa, .int k1])).length) Slot.unset).toArray = ls at hl ⊢
  have hl : lv_has ls 4 [(0, .ref xa), (1, .int k1)] := hl
  refine lv_aload_n hx hb dX11_undo_0 rfl (lv_at hl 0 rfl) ?_
  refine lv_iload_n hx hb dX11_undo_1 rfl (lv_at hl 1 rfl) ?_
  have hPc := hP.sub (ws' := [(xa, .inr (11, [.ref x0, .int 0, .ref x2, .int 0, .ref x4, .ref x5, .ref x6, .int x7, .ref x8, .int x9, .int x10]))]) [0] rfl
  have hDc := hD.sub (ws' := [(xa, .inr (11, [.ref x0, .int 0, .ref x2, .int 0, .ref x4, .ref x5, .ref x6, .int x7, .ref x8, .int x9, .int x10]))]) [0] (by decide) rfl
  have hKc := hK.sub (tys' := []) [] rfl
  have hFc := va_free (wc := [(xa, .inr (11, [.ref x0, .int 0, .ref x2, .int 0, .ref x4, .ref x5, .ref x6, .int x7, .ref x8, .int x9, .int x10]))]) hD hS hA [0] rfl
  refine va_callq (va_runV (As := [.int k1]) (rest := []) ⟨hx, hb, hml, hown, hg⟩ (k_houseAt0 l D s.heap.size xa x0 x2 x4 x5 x6 x7 x8 x9 x10 k1) (cwV 1 hg (gV wd_10 wd_11 wd_12 wd_5 wd_13) rfl rfl rfl (by decide +kernel) ⟨(Nat.le_of_ble_eq_true rfl), (Nat.le_of_ble_eq_true rfl)⟩) ⟨Pr.blind, va_recv hKc hPc (ci := 11) (q0 := 0) rfl rfl, fun U hU hW => ⟨rfl, Pr.at hPc hKc hDc hN hU hW⟩⟩ rfl rfl hl.1 rfl (lv_room (Nat.le_of_ble_eq_true rfl)) dX11_undo_2 ⟨(Nat.le_of_ble_eq_true rfl), (Nat.le_of_ble_eq_true rfl)⟩) hS (fun q _ h => hFc q h) hFc (fun r_2 u t H_1 locs ht hvm hw hB hz1 hk1 hS => ?_)
  obtain ⟨hP1, hK1, hD1⟩ := hB
  rw [ht] at hP1
  have hK1 := va_K.moved hvm.symm hK1
  obtain ⟨hP, hD⟩ := va_join (wr := []) (w1 := [(xa, .inr (11, [.ref x0, .int 0, .ref x2, .int 0, .ref x4, .ref x5, .ref x6, .int x7, .ref x8, .int x9, .int x10]))]) hP hD [0] [] rfl rfl (by decide) (by decide) hk1 hFc hP1 hD1
  have hP : va_P D vwCl [(xa, .inr (11, [.ref x0, .int 0, .ref x2, .int 0, .ref x4, .ref x5, .ref x6, .int x7, .ref x8, .int x9, .int x10]))] H_1 := hP
  have hD : va_D A [(xa, .inr (11, [.ref x0, .int 0, .ref x2, .int 0, .ref x4, .ref x5, .ref x6, .int x7, .ref x8, .int x9, .int x10]))] := hD
  subst hw
  refine lv_astore_nN (lv' := [(2, .null), (0, .ref xa), (1, .int k1)]) hx hb dX11_undo_5 rfl hl (by decide) rfl (fun ls hl => ?_)
  refine lv_aload_nN hx hb dX11_undo_6 rfl (lv_at hl 0 rfl) ?_
  refine lv_ifnonnullN hx hb dX11_undo_7 ?_
  refine lv_aload_n hx hb dX11_undo_10 rfl (lv_at hl 1 rfl) ?_
  refine lv_iconst (v := 1) hx hb dX11_undo_11 (by decide) ?_
  have hPc := hP.sub (ws' := [(xa, .inr (11, [.ref x0, .int 0, .ref x2, .int 0, .ref x4, .ref x5, .ref x6, .int x7, .ref x8, .int x9, .int x10]))]) [0] rfl
  have hDc := hD.sub (ws' := [(xa, .inr (11, [.ref x0, .int 0, .ref x2, .int 0, .ref x4, .ref x5, .ref x6, .int x7, .ref x8, .int x9, .int x10]))]) [0] (by decide) rfl
  have hKc := hK.sub (tys' := []) [] rfl
  have hFc := va_free (wc := [(xa, .inr (11, [.ref x0, .int 0, .ref x2, .int 0, .ref x4, .ref x5, .ref x6, .int x7, .ref x8, .int x9, .int x10]))]) hD hS hA [0] rfl
  refine va_calli (va_runV (As := [.int 1]) (rest := []) ⟨hx, hb, hml, hown, hg⟩ (k_refuse l D H_1.size xa x0 0 x2 0 x4 x5 x6 x7 x8 x9 x10 1) (cwV 1 hg (gV wd_14 wd_15 wd_16 wd_5 wd_17) rfl rfl rfl (by decide +kernel) ⟨(Nat.le_of_ble_eq_true rfl), (Nat.le_of_ble_eq_true rfl)⟩) ⟨Pr.blind, va_recv hKc hPc (ci := 11) (q0 := 0) rfl rfl, fun U hU hW => ⟨rfl, Pr.at hPc hKc hDc hN hU hW⟩⟩ rfl rfl hl.1 rfl (lv_room (Nat.le_of_ble_eq_true rfl)) dX11_undo_12 ⟨(Nat.le_of_ble_eq_true rfl), (Nat.le_of_ble_eq_true rfl)⟩) hS (fun q _ h => hFc q h) hFc (fun r_4 u t H_3 locs ht hvm hw hB hz1 hk1 hS => ?_)
  obtain ⟨hP1, hK1, hD1⟩ := hB
  rw [ht] at hP1
  have hK1 := va_K.moved hvm.symm hK1
  obtain ⟨hP, hD⟩ := va_join (wr := []) (w1 := [(xa, .inr (11, [.ref x0, .int 0, .ref x2, .int 0, .ref x4, .ref x5, .ref x6, .int x7, .ref x8, .int 1, .int (-1)]))]) hP hD [0] [] rfl rfl (by decide) (by decide) hk1 hFc hP1 hD1
  have hP : va_P D vwCl [(xa, .inr (11, [.ref x0, .int 0, .ref x2, .int 0, .ref x4, .ref x5, .ref x6, .int x7, .ref x8, .int 1, .int (-1)]))] H_3 := hP
  have hD : va_D A [(xa, .inr (11, [.ref x0, .int 0, .ref x2, .int 0, .ref x4, .ref x5, .ref x6, .int x7, .ref x8, .int 1, .int (-1)]))] := hD
  subst hw
  exact W.iret (v := (-1)) hx hb hr (fun t ht hW => ⟨⟨(-1), (), rfl, rfl, trivial⟩, hS.F ht⟩) hS.2.2 dX11_undo_15
set_option maxHeartbeats 4000000 in
set_option maxRecDepth 100000 in
theorem k_end (l : Launch) (D : va_G) (sz : Nat) (xa : Nat) (x0 : Nat) (x2 : Nat) (x4 : Nat) (x5 : Nat) (x6 : Nat) (x7 : Int32) (x8 : Nat) (x9 : Int32) (x10 : Int32) (k1 : Int32) (k2 : Int32) : Met l yX11_end (wsM yX11_end cX11_end 5 (some .int)) ({ frames := 2, cells := 0, slots := 0, locals := 43 }) (va_Pc [.ref xa, .int k1, .int k2] (Pr D [(xa, .inr (11, [.ref x0, .int 0, .ref x2, .int 0, .ref x4, .ref x5, .ref x6, .int x7, .ref x8, .int x9, .int x10]))] [] sz)) (va_Qi (fun (r : Int32) (_ : Unit) => r = (-1)) (fun _ _ => True) (va_A [(xa, .inr (11, [.ref x0, .int 0, .ref x2, .int 0, .ref x4, .ref x5, .ref x6, .int x7, .ref x8, .int x9, .int x10]))] sz)) 0 0 (va_A [(xa, .inr (11, [.ref x0, .int 0, .ref x2, .int 0, .ref x4, .ref x5, .ref x6, .int x7, .ref x8, .int x9, .int x10]))] sz) := by
  refine Met.ofW (cc := cX11_end) (maxL := 5) (ret := (some .int)) (by decide) rfl ?_
  intro p e s m args below meth c s₁ B hml hv
  obtain ⟨rfl, hsz, hP, hK, hD0, hN⟩ := hv
  have hx := B.exec
  have hb := B.bytes
  have hr := B.returns
  have hts := atoms_spec (ws := (wsM yX11_end cX11_end 5 (some .int))) B.pre
  have hg : ∀ w ∈ lw_good, w.before _ s = true := fun w h => hts w (List.mem_cons_of_mem _ h)
  have hown : s.vm.findClass RX11 = some m.cls := findClass_of_methodNamed B.named
  have hlocks := B.notSynchronized
  subst hsz
  have hD := hD0.self (sz := s.heap.size)
  generalize hAe : va_A [(xa, .inr (11, [.ref x0, .int 0, .ref x2, .int 0, .ref x4, .ref x5, .ref x6, .int x7, .ref x8, .int x9, .int x10]))] s.heap.size = A at hD ⊢
  have hA : ∀ q : Nat, s.heap.size ≤ q → A q := fun q h => by rw [← hAe]; exact Or.inr h
  have hS : va_S A s.heap s.heap [] := va_S.rf
  have hP : va_P D vwCl [(xa, .inr (11, [.ref x0, .int 0, .ref x2, .int 0, .ref x4, .ref x5, .ref x6, .int x7, .ref x8, .int x9, .int x10]))] s.heap := hP
  have hl := lv_entry ([.ref xa, .int k1, .int k2]) (n := 5) (Nat.le_of_ble_eq_true rfl)
  rw [lg_entry_eq]
  generalize (lg_sl ([.ref xa, .int k1, .int k2]) ++ List.replicate (5 - (lg_sl ([.ref xa, .int k1, .int k2])).length) Slot.unset).toArray = ls at hl ⊢
  have hl : lv_has ls 5 [(0, .ref xa), (1, .int k1), (2, .int k2)] := hl
  refine lv_aload_n hx hb dX11_end_0 rfl (lv_at hl 0 rfl) ?_
  refine lv_iload_n hx hb dX11_end_1 rfl (lv_at hl 1 rfl) ?_
  have hPc := hP.sub (ws' := [(xa, .inr (11, [.ref x0, .int 0, .ref x2, .int 0, .ref x4, .ref x5, .ref x6, .int x7, .ref x8, .int x9, .int x10]))]) [0] rfl
  have hDc := hD.sub (ws' := [(xa, .inr (11, [.ref x0, .int 0, .ref x2, .int 0, .ref x4, .ref x5, .ref x6, .int x7, .ref x8, .int x9, .int x10]))]) [0] (by decide) rfl
  have hKc := hK.sub (tys' := []) [] rfl
  have hFc := va_free (wc := [(xa, .inr (11, [.ref x0, .int 0, .ref x2, .int 0, .ref x4, .ref x5, .ref x6, .int x7, .ref x8, .int x9, .int x10]))]) hD hS hA [0] rfl
  refine va_callq (va_runV (As := [.int k1]) (rest := []) ⟨hx, hb, hml, hown, hg⟩ (k_houseAt0 l D s.heap.size xa x0 x2 x4 x5 x6 x7 x8 x9 x10 k1) (cwV 1 hg (gV wd_10 wd_11 wd_12 wd_5 wd_13) rfl rfl rfl (by decide +kernel) ⟨(Nat.le_of_ble_eq_true rfl), (Nat.le_of_ble_eq_true rfl)⟩) ⟨Pr.blind, va_recv hKc hPc (ci := 11) (q0 := 0) rfl rfl, fun U hU hW => ⟨rfl, Pr.at hPc hKc hDc hN hU hW⟩⟩ rfl rfl hl.1 rfl (lv_room (Nat.le_of_ble_eq_true rfl)) dX11_end_2 ⟨(Nat.le_of_ble_eq_true rfl), (Nat.le_of_ble_eq_true rfl)⟩) hS (fun q _ h => hFc q h) hFc (fun r_2 u t H_1 locs ht hvm hw hB hz1 hk1 hS => ?_)
  obtain ⟨hP1, hK1, hD1⟩ := hB
  rw [ht] at hP1
  have hK1 := va_K.moved hvm.symm hK1
  obtain ⟨hP, hD⟩ := va_join (wr := []) (w1 := [(xa, .inr (11, [.ref x0, .int 0, .ref x2, .int 0, .ref x4, .ref x5, .ref x6, .int x7, .ref x8, .int x9, .int x10]))]) hP hD [0] [] rfl rfl (by decide) (by decide) hk1 hFc hP1 hD1
  have hP : va_P D vwCl [(xa, .inr (11, [.ref x0, .int 0, .ref x2, .int 0, .ref x4, .ref x5, .ref x6, .int x7, .ref x8, .int x9, .int x10]))] H_1 := hP
  have hD : va_D A [(xa, .inr (11, [.ref x0, .int 0, .ref x2, .int 0, .ref x4, .ref x5, .ref x6, .int x7, .ref x8, .int x9, .int x10]))] := hD
  subst hw
  refine lv_astore_nN (lv' := [(3, .null), (0, .ref xa), (1, .int k1), (2, .int k2)]) hx hb dX11_end_5 rfl hl (by decide) rfl (fun ls hl => ?_)
  refine lv_aload_nN hx hb dX11_end_6 rfl (lv_at hl 0 rfl) ?_
  refine lv_ifnonnullN hx hb dX11_end_7 ?_
  refine lv_aload_n hx hb dX11_end_10 rfl (lv_at hl 1 rfl) ?_
  refine lv_iconst (v := 1) hx hb dX11_end_11 (by decide) ?_
  have hPc := hP.sub (ws' := [(xa, .inr (11, [.ref x0, .int 0, .ref x2, .int 0, .ref x4, .ref x5, .ref x6, .int x7, .ref x8, .int x9, .int x10]))]) [0] rfl
  have hDc := hD.sub (ws' := [(xa, .inr (11, [.ref x0, .int 0, .ref x2, .int 0, .ref x4, .ref x5, .ref x6, .int x7, .ref x8, .int x9, .int x10]))]) [0] (by decide) rfl
  have hKc := hK.sub (tys' := []) [] rfl
  have hFc := va_free (wc := [(xa, .inr (11, [.ref x0, .int 0, .ref x2, .int 0, .ref x4, .ref x5, .ref x6, .int x7, .ref x8, .int x9, .int x10]))]) hD hS hA [0] rfl
  refine va_calli (va_runV (As := [.int 1]) (rest := []) ⟨hx, hb, hml, hown, hg⟩ (k_refuse l D H_1.size xa x0 0 x2 0 x4 x5 x6 x7 x8 x9 x10 1) (cwV 1 hg (gV wd_14 wd_15 wd_16 wd_5 wd_17) rfl rfl rfl (by decide +kernel) ⟨(Nat.le_of_ble_eq_true rfl), (Nat.le_of_ble_eq_true rfl)⟩) ⟨Pr.blind, va_recv hKc hPc (ci := 11) (q0 := 0) rfl rfl, fun U hU hW => ⟨rfl, Pr.at hPc hKc hDc hN hU hW⟩⟩ rfl rfl hl.1 rfl (lv_room (Nat.le_of_ble_eq_true rfl)) dX11_end_12 ⟨(Nat.le_of_ble_eq_true rfl), (Nat.le_of_ble_eq_true rfl)⟩) hS (fun q _ h => hFc q h) hFc (fun r_4 u t H_3 locs ht hvm hw hB hz1 hk1 hS => ?_)
  obtain ⟨hP1, hK1, hD1⟩ := hB
  rw [ht] at hP1
  have hK1 := va_K.moved hvm.symm hK1
  obtain ⟨hP, hD⟩ := va_join (wr := []) (w1 := [(xa, .inr (11, [.ref x0, .int 0, .ref x2, .int 0, .ref x4, .ref x5, .ref x6, .int x7, .ref x8, .int 1, .int (-1)]))]) hP hD [0] [] rfl rfl (by decide) (by decide) hk1 hFc hP1 hD1
  have hP : va_P D vwCl [(xa, .inr (11, [.ref x0, .int 0, .ref x2, .int 0, .ref x4, .ref x5, .ref x6, .int x7, .ref x8, .int 1, .int (-1)]))] H_3 := hP
  have hD : va_D A [(xa, .inr (11, [.ref x0, .int 0, .ref x2, .int 0, .ref x4, .ref x5, .ref x6, .int x7, .ref x8, .int 1, .int (-1)]))] := hD
  subst hw
  exact W.iret (v := (-1)) hx hb hr (fun t ht hW => ⟨⟨(-1), (), rfl, rfl, trivial⟩, hS.F ht⟩) hS.2.2 dX11_end_15
set_option maxHeartbeats 4000000 in
set_option maxRecDepth 100000 in
theorem k_close (l : Launch) (D : va_G) (sz : Nat) (xa : Nat) (x0 : Nat) (x2 : Nat) (x4 : Nat) (x5 : Nat) (x6 : Nat) (x7 : Int32) (x8 : Nat) (x9 : Int32) (x10 : Int32) (k1 : Int32) : Met l yX11_close (wsM yX11_close cX11_close 6 (some .int)) ({ frames := 2, cells := 0, slots := 0, locals := 43 }) (va_Pc [.ref xa, .int k1] (Pr D [(xa, .inr (11, [.ref x0, .int 0, .ref x2, .int 0, .ref x4, .ref x5, .ref x6, .int x7, .ref x8, .int x9, .int x10]))] [] sz)) (va_Qi (fun (r : Int32) (_ : Unit) => r = (-1)) (fun _ _ => True) (va_A [(xa, .inr (11, [.ref x0, .int 0, .ref x2, .int 0, .ref x4, .ref x5, .ref x6, .int x7, .ref x8, .int x9, .int x10]))] sz)) 0 0 (va_A [(xa, .inr (11, [.ref x0, .int 0, .ref x2, .int 0, .ref x4, .ref x5, .ref x6, .int x7, .ref x8, .int x9, .int x10]))] sz) := by
  refine Met.ofW (cc := cX11_close) (maxL := 6) (ret := (some .int)) (by decide) rfl ?_
  intro p e s m args below meth c s₁ B hml hv
  obtain ⟨rfl, hsz, hP, hK, hD0, hN⟩ := hv
  have hx := B.exec
  have hb := B.bytes
  have hr := B.returns
  have hts := atoms_spec (ws := (wsM yX11_close cX11_close 6 (some .int))) B.pre
  have hg : ∀ w ∈ lw_good, w.before _ s = true := fun w h => hts w (List.mem_cons_of_mem _ h)
  have hown : s.vm.findClass RX11 = some m.cls := findClass_of_methodNamed B.named
  have hlocks := B.notSynchronized
  subst hsz
  have hD := hD0.self (sz := s.heap.size)
  generalize hAe : va_A [(xa, .inr (11, [.ref x0, .int 0, .ref x2, .int 0, .ref x4, .ref x5, .ref x6, .int x7, .ref x8, .int x9, .int x10]))] s.heap.size = A at hD ⊢
  have hA : ∀ q : Nat, s.heap.size ≤ q → A q := fun q h => by rw [← hAe]; exact Or.inr h
  have hS : va_S A s.heap s.heap [] := va_S.rf
  have hP : va_P D vwCl [(xa, .inr (11, [.ref x0, .int 0, .ref x2, .int 0, .ref x4, .ref x5, .ref x6, .int x7, .ref x8, .int x9, .int x10]))] s.heap := hP
  have hl := lv_entry ([.ref xa, .int k1]) (n := 6) (Nat.le_of_ble_eq_true rfl)
  rw [lg_entry_eq]
  generalize (lg_sl ([.ref xa, .int k1]) ++ List.replicate (6 - (lg_sl ([.ref xa, .int k1])).length) Slot.unset).toArray = ls at hl ⊢
  have hl : lv_has ls 6 [(0, .ref xa), (1, .int k1)] := hl
  refine lv_aload_n hx hb dX11_close_0 rfl (lv_at hl 0 rfl) ?_
  refine lv_iload_n hx hb dX11_close_1 rfl (lv_at hl 1 rfl) ?_
  have hPc := hP.sub (ws' := [(xa, .inr (11, [.ref x0, .int 0, .ref x2, .int 0, .ref x4, .ref x5, .ref x6, .int x7, .ref x8, .int x9, .int x10]))]) [0] rfl
  have hDc := hD.sub (ws' := [(xa, .inr (11, [.ref x0, .int 0, .ref x2, .int 0, .ref x4, .ref x5, .ref x6, .int x7, .ref x8, .int x9, .int x10]))]) [0] (by decide) rfl
  have hKc := hK.sub (tys' := []) [] rfl
  have hFc := va_free (wc := [(xa, .inr (11, [.ref x0, .int 0, .ref x2, .int 0, .ref x4, .ref x5, .ref x6, .int x7, .ref x8, .int x9, .int x10]))]) hD hS hA [0] rfl
  refine va_callq (va_runV (As := [.int k1]) (rest := []) ⟨hx, hb, hml, hown, hg⟩ (k_houseAt0 l D s.heap.size xa x0 x2 x4 x5 x6 x7 x8 x9 x10 k1) (cwV 1 hg (gV wd_10 wd_11 wd_12 wd_5 wd_13) rfl rfl rfl (by decide +kernel) ⟨(Nat.le_of_ble_eq_true rfl), (Nat.le_of_ble_eq_true rfl)⟩) ⟨Pr.blind, va_recv hKc hPc (ci := 11) (q0 := 0) rfl rfl, fun U hU hW => ⟨rfl, Pr.at hPc hKc hDc hN hU hW⟩⟩ rfl rfl hl.1 rfl (lv_room (Nat.le_of_ble_eq_true rfl)) dX11_close_2 ⟨(Nat.le_of_ble_eq_true rfl), (Nat.le_of_ble_eq_true rfl)⟩) hS (fun q _ h => hFc q h) hFc (fun r_2 u t H_1 locs ht hvm hw hB hz1 hk1 hS => ?_)
  obtain ⟨hP1, hK1, hD1⟩ := hB
  rw [ht] at hP1
  have hK1 := va_K.moved hvm.symm hK1
  obtain ⟨hP, hD⟩ := va_join (wr := []) (w1 := [(xa, .inr (11, [.ref x0, .int 0, .ref x2, .int 0, .ref x4, .ref x5, .ref x6, .int x7, .ref x8, .int x9, .int x10]))]) hP hD [0] [] rfl rfl (by decide) (by decide) hk1 hFc hP1 hD1
  have hP : va_P D vwCl [(xa, .inr (11, [.ref x0, .int 0, .ref x2, .int 0, .ref x4, .ref x5, .ref x6, .int x7, .ref x8, .int x9, .int x10]))] H_1 := hP
  have hD : va_D A [(xa, .inr (11, [.ref x0, .int 0, .ref x2, .int 0, .ref x4, .ref x5, .ref x6, .int x7, .ref x8, .int x9, .int x10]))] := hD
  subst hw
  refine lv_astore_nN (lv' := [(2, .null), (0, .ref xa), (1, .int k1)]) hx hb dX11_close_5 rfl hl (by decide) rfl (fun ls hl => ?_)
  refine lv_aload_nN hx hb dX11_close_6 rfl (lv_at hl 0 rfl) ?_
  refine lv_ifnonnullN hx hb dX11_close_7 ?_
  refine lv_aload_n hx hb dX11_close_10 rfl (lv_at hl 1 rfl) ?_
  refine lv_iconst (v := 1) hx hb dX11_close_11 (by decide) ?_
  have hPc := hP.sub (ws' := [(xa, .inr (11, [.ref x0, .int 0, .ref x2, .int 0, .ref x4, .ref x5, .ref x6, .int x7, .ref x8, .int x9, .int x10]))]) [0] rfl
  have hDc := hD.sub (ws' := [(xa, .inr (11, [.ref x0, .int 0, .ref x2, .int 0, .ref x4, .ref x5, .ref x6, .int x7, .ref x8, .int x9, .int x10]))]) [0] (by decide) rfl
  have hKc := hK.sub (tys' := []) [] rfl
  have hFc := va_free (wc := [(xa, .inr (11, [.ref x0, .int 0, .ref x2, .int 0, .ref x4, .ref x5, .ref x6, .int x7, .ref x8, .int x9, .int x10]))]) hD hS hA [0] rfl
  refine va_calli (va_runV (As := [.int 1]) (rest := []) ⟨hx, hb, hml, hown, hg⟩ (k_refuse l D H_1.size xa x0 0 x2 0 x4 x5 x6 x7 x8 x9 x10 1) (cwV 1 hg (gV wd_14 wd_15 wd_16 wd_5 wd_17) rfl rfl rfl (by decide +kernel) ⟨(Nat.le_of_ble_eq_true rfl), (Nat.le_of_ble_eq_true rfl)⟩) ⟨Pr.blind, va_recv hKc hPc (ci := 11) (q0 := 0) rfl rfl, fun U hU hW => ⟨rfl, Pr.at hPc hKc hDc hN hU hW⟩⟩ rfl rfl hl.1 rfl (lv_room (Nat.le_of_ble_eq_true rfl)) dX11_close_12 ⟨(Nat.le_of_ble_eq_true rfl), (Nat.le_of_ble_eq_true rfl)⟩) hS (fun q _ h => hFc q h) hFc (fun r_4 u t H_3 locs ht hvm hw hB hz1 hk1 hS => ?_)
  obtain ⟨hP1, hK1, hD1⟩ := hB
  rw [ht] at hP1
  have hK1 := va_K.moved hvm.symm hK1
  obtain ⟨hP, hD⟩ := va_join (wr := []) (w1 := [(xa, .inr (11, [.ref x0, .int 0, .ref x2, .int 0, .ref x4, .ref x5, .ref x6, .int x7, .ref x8, .int 1, .int (-1)]))]) hP hD [0] [] rfl rfl (by decide) (by decide) hk1 hFc hP1 hD1
  have hP : va_P D vwCl [(xa, .inr (11, [.ref x0, .int 0, .ref x2, .int 0, .ref x4, .ref x5, .ref x6, .int x7, .ref x8, .int 1, .int (-1)]))] H_3 := hP
  have hD : va_D A [(xa, .inr (11, [.ref x0, .int 0, .ref x2, .int 0, .ref x4, .ref x5, .ref x6, .int x7, .ref x8, .int 1, .int (-1)]))] := hD
  subst hw
  exact W.iret (v := (-1)) hx hb hr (fun t ht hW => ⟨⟨(-1), (), rfl, rfl, trivial⟩, hS.F ht⟩) hS.2.2 dX11_close_15
set_option maxHeartbeats 4000000 in
set_option maxRecDepth 100000 in
theorem k_mend (l : Launch) (D : va_G) (sz : Nat) (xa : Nat) (x0 : Nat) (x2 : Nat) (x4 : Nat) (x5 : Nat) (x6 : Nat) (x7 : Int32) (x8 : Nat) (x9 : Int32) (x10 : Int32) (k1 : Int32) (k2 : Int32) (k3 : Int32) : Met l yX11_mend (wsM yX11_mend cX11_mend 5 (some .int)) ({ frames := 2, cells := 0, slots := 0, locals := 43 }) (va_Pc [.ref xa, .int k1, .int k2, .int k3] (Pr D [(xa, .inr (11, [.ref x0, .int 0, .ref x2, .int 0, .ref x4, .ref x5, .ref x6, .int x7, .ref x8, .int x9, .int x10]))] [] sz)) (va_Qi (fun (r : Int32) (_ : Unit) => r = (-1)) (fun _ _ => True) (va_A [(xa, .inr (11, [.ref x0, .int 0, .ref x2, .int 0, .ref x4, .ref x5, .ref x6, .int x7, .ref x8, .int x9, .int x10]))] sz)) 0 0 (va_A [(xa, .inr (11, [.ref x0, .int 0, .ref x2, .int 0, .ref x4, .ref x5, .ref x6, .int x7, .ref x8, .int x9, .int x10]))] sz) := by
  refine Met.ofW (cc := cX11_mend) (maxL := 5) (ret := (some .int)) (by decide) rfl ?_
  intro p e s m args below meth c s₁ B hml hv
  obtain ⟨rfl, hsz, hP, hK, hD0, hN⟩ := hv
  have hx := B.exec
  have hb := B.bytes
  have hr := B.returns
  have hts := atoms_spec (ws := (wsM yX11_mend cX11_mend 5 (some .int))) B.pre
  have hg : ∀ w ∈ lw_good, w.before _ s = true := fun w h => hts w (List.mem_cons_of_mem _ h)
  have hown : s.vm.findClass RX11 = some m.cls := findClass_of_methodNamed B.named
  have hlocks := B.notSynchronized
  subst hsz
  have hD := hD0.self (sz := s.heap.size)
  generalize hAe : va_A [(xa, .inr (11, [.ref x0, .int 0, .ref x2, .int 0, .ref x4, .ref x5, .ref x6, .int x7, .ref x8, .int x9, .int x10]))] s.heap.size = A at hD ⊢
  have hA : ∀ q : Nat, s.heap.size ≤ q → A q := fun q h => by rw [← hAe]; exact Or.inr h
  have hS : va_S A s.heap s.heap [] := va_S.rf
  have hP : va_P D vwCl [(xa, .inr (11, [.ref x0, .int 0, .ref x2, .int 0, .ref x4, .ref x5, .ref x6, .int x7, .ref x8, .int x9, .int x10]))] s.heap := hP
  have hl := lv_entry ([.ref xa, .int k1, .int k2, .int k3]) (n := 5) (Nat.le_of_ble_eq_true rfl)
  rw [lg_entry_eq]
  generalize (lg_sl ([.ref xa, .int k1, .int k2, .int k3]) ++ List.replicate (5 - (lg_sl ([.ref xa, .int k1, .int k2, .int k3])).length) Slot.unset).toArray = ls at hl ⊢
  have hl : lv_has ls 5 [(0, .ref xa), (1, .int k1), (2, .int k2), (3, .int k3)] := hl
  refine lv_aload_n hx hb dX11_mend_0 rfl (lv_at hl 0 rfl) ?_
  refine lv_iload_n hx hb dX11_mend_1 rfl (lv_at hl 1 rfl) ?_
  have hPc := hP.sub (ws' := [(xa, .inr (11, [.ref x0, .int 0, .ref x2, .int 0, .ref x4, .ref x5, .ref x6, .int x7, .ref x8, .int x9, .int x10]))]) [0] rfl
  have hDc := hD.sub (ws' := [(xa, .inr (11, [.ref x0, .int 0, .ref x2, .int 0, .ref x4, .ref x5, .ref x6, .int x7, .ref x8, .int x9, .int x10]))]) [0] (by decide) rfl
  have hKc := hK.sub (tys' := []) [] rfl
  have hFc := va_free (wc := [(xa, .inr (11, [.ref x0, .int 0, .ref x2, .int 0, .ref x4, .ref x5, .ref x6, .int x7, .ref x8, .int x9, .int x10]))]) hD hS hA [0] rfl
  refine va_callq (va_runV (As := [.int k1]) (rest := []) ⟨hx, hb, hml, hown, hg⟩ (k_houseAt0 l D s.heap.size xa x0 x2 x4 x5 x6 x7 x8 x9 x10 k1) (cwV 1 hg (gV wd_10 wd_11 wd_12 wd_5 wd_13) rfl rfl rfl (by decide +kernel) ⟨(Nat.le_of_ble_eq_true rfl), (Nat.le_of_ble_eq_true rfl)⟩) ⟨Pr.blind, va_recv hKc hPc (ci := 11) (q0 := 0) rfl rfl, fun U hU hW => ⟨rfl, Pr.at hPc hKc hDc hN hU hW⟩⟩ rfl rfl hl.1 rfl (lv_room (Nat.le_of_ble_eq_true rfl)) dX11_mend_2 ⟨(Nat.le_of_ble_eq_true rfl), (Nat.le_of_ble_eq_true rfl)⟩) hS (fun q _ h => hFc q h) hFc (fun r_2 u t H_1 locs ht hvm hw hB hz1 hk1 hS => ?_)
  obtain ⟨hP1, hK1, hD1⟩ := hB
  rw [ht] at hP1
  have hK1 := va_K.moved hvm.symm hK1
  obtain ⟨hP, hD⟩ := va_join (wr := []) (w1 := [(xa, .inr (11, [.ref x0, .int 0, .ref x2, .int 0, .ref x4, .ref x5, .ref x6, .int x7, .ref x8, .int x9, .int x10]))]) hP hD [0] [] rfl rfl (by decide) (by decide) hk1 hFc hP1 hD1
  have hP : va_P D vwCl [(xa, .inr (11, [.ref x0, .int 0, .ref x2, .int 0, .ref x4, .ref x5, .ref x6, .int x7, .ref x8, .int x9, .int x10]))] H_1 := hP
  have hD : va_D A [(xa, .inr (11, [.ref x0, .int 0, .ref x2, .int 0, .ref x4, .ref x5, .ref x6, .int x7, .ref x8, .int x9, .int x10]))] := hD
  subst hw
  refine lv_astoreN (lv' := [(4, .null), (0, .ref xa), (1, .int k1), (2, .int k2), (3, .int k3)]) hx hb dX11_mend_5 hl (by decide) rfl (fun ls hl => ?_)
  refine lv_aloadN hx hb dX11_mend_7 (lv_at hl 0 rfl) ?_
  refine lv_ifnonnullN hx hb dX11_mend_9 ?_
  refine lv_aload_n hx hb dX11_mend_12 rfl (lv_at hl 1 rfl) ?_
  refine lv_iconst (v := 1) hx hb dX11_mend_13 (by decide) ?_
  have hPc := hP.sub (ws' := [(xa, .inr (11, [.ref x0, .int 0, .ref x2, .int 0, .ref x4, .ref x5, .ref x6, .int x7, .ref x8, .int x9, .int x10]))]) [0] rfl
  have hDc := hD.sub (ws' := [(xa, .inr (11, [.ref x0, .int 0, .ref x2, .int 0, .ref x4, .ref x5, .ref x6, .int x7, .ref x8, .int x9, .int x10]))]) [0] (by decide) rfl
  have hKc := hK.sub (tys' := []) [] rfl
  have hFc := va_free (wc := [(xa, .inr (11, [.ref x0, .int 0, .ref x2, .int 0, .ref x4, .ref x5, .ref x6, .int x7, .ref x8, .int x9, .int x10]))]) hD hS hA [0] rfl
  refine va_calli (va_runV (As := [.int 1]) (rest := []) ⟨hx, hb, hml, hown, hg⟩ (k_refuse l D H_1.size xa x0 0 x2 0 x4 x5 x6 x7 x8 x9 x10 1) (cwV 1 hg (gV wd_14 wd_15 wd_16 wd_5 wd_17) rfl rfl rfl (by decide +kernel) ⟨(Nat.le_of_ble_eq_true rfl), (Nat.le_of_ble_eq_true rfl)⟩) ⟨Pr.blind, va_recv hKc hPc (ci := 11) (q0 := 0) rfl rfl, fun U hU hW => ⟨rfl, Pr.at hPc hKc hDc hN hU hW⟩⟩ rfl rfl hl.1 rfl (lv_room (Nat.le_of_ble_eq_true rfl)) dX11_mend_14 ⟨(Nat.le_of_ble_eq_true rfl), (Nat.le_of_ble_eq_true rfl)⟩) hS (fun q _ h => hFc q h) hFc (fun r_4 u t H_3 locs ht hvm hw hB hz1 hk1 hS => ?_)
  obtain ⟨hP1, hK1, hD1⟩ := hB
  rw [ht] at hP1
  have hK1 := va_K.moved hvm.symm hK1
  obtain ⟨hP, hD⟩ := va_join (wr := []) (w1 := [(xa, .inr (11, [.ref x0, .int 0, .ref x2, .int 0, .ref x4, .ref x5, .ref x6, .int x7, .ref x8, .int 1, .int (-1)]))]) hP hD [0] [] rfl rfl (by decide) (by decide) hk1 hFc hP1 hD1
  have hP : va_P D vwCl [(xa, .inr (11, [.ref x0, .int 0, .ref x2, .int 0, .ref x4, .ref x5, .ref x6, .int x7, .ref x8, .int 1, .int (-1)]))] H_3 := hP
  have hD : va_D A [(xa, .inr (11, [.ref x0, .int 0, .ref x2, .int 0, .ref x4, .ref x5, .ref x6, .int x7, .ref x8, .int 1, .int (-1)]))] := hD
  subst hw
  exact W.iret (v := (-1)) hx hb hr (fun t ht hW => ⟨⟨(-1), (), rfl, rfl, trivial⟩, hS.F ht⟩) hS.2.2 dX11_mend_17
set_option maxHeartbeats 4000000 in
set_option maxRecDepth 100000 in
theorem k_hidden (l : Launch) (D : va_G) (sz : Nat) (xa : Nat) (x0 : Nat) (x2 : Nat) (x4 : Nat) (x5 : Nat) (x6 : Nat) (x7 : Int32) (x8 : Nat) (x9 : Int32) (x10 : Int32) (k1 : Int32) (k2 : Int32) (k3 : Int32) : Met l yX11_hidden (wsM yX11_hidden cX11_hidden 9 (some .int)) ({ frames := 2, cells := 0, slots := 0, locals := 43 }) (va_Pc [.ref xa, .int k1, .int k2, .int k3] (Pr D [(xa, .inr (11, [.ref x0, .int 0, .ref x2, .int 0, .ref x4, .ref x5, .ref x6, .int x7, .ref x8, .int x9, .int x10]))] [] sz)) (va_Qi (fun (r : Int32) (_ : Unit) => r = (-1)) (fun _ _ => True) (va_A [(xa, .inr (11, [.ref x0, .int 0, .ref x2, .int 0, .ref x4, .ref x5, .ref x6, .int x7, .ref x8, .int x9, .int x10]))] sz)) 0 0 (va_A [(xa, .inr (11, [.ref x0, .int 0, .ref x2, .int 0, .ref x4, .ref x5, .ref x6, .int x7, .ref x8, .int x9, .int x10]))] sz) := by
  refine Met.ofW (cc := cX11_hidden) (maxL := 9) (ret := (some .int)) (by decide) rfl ?_
  intro p e s m args below meth c s₁ B hml hv
  obtain ⟨rfl, hsz, hP, hK, hD0, hN⟩ := hv
  have hx := B.exec
  have hb := B.bytes
  have hr := B.returns
  have hts := atoms_spec (ws := (wsM yX11_hidden cX11_hidden 9 (some .int))) B.pre
  have hg : ∀ w ∈ lw_good, w.before _ s = true := fun w h => hts w (List.mem_cons_of_mem _ h)
  have hown : s.vm.findClass RX11 = some m.cls := findClass_of_methodNamed B.named
  have hlocks := B.notSynchronized
  subst hsz
  have hD := hD0.self (sz := s.heap.size)
  generalize hAe : va_A [(xa, .inr (11, [.ref x0, .int 0, .ref x2, .int 0, .ref x4, .ref x5, .ref x6, .int x7, .ref x8, .int x9, .int x10]))] s.heap.size = A at hD ⊢
  have hA : ∀ q : Nat, s.heap.size ≤ q → A q := fun q h => by rw [← hAe]; exact Or.inr h
  have hS : va_S A s.heap s.heap [] := va_S.rf
  have hP : va_P D vwCl [(xa, .inr (11, [.ref x0, .int 0, .ref x2, .int 0, .ref x4, .ref x5, .ref x6, .int x7, .ref x8, .int x9, .int x10]))] s.heap := hP
  have hl := lv_entry ([.ref xa, .int k1, .int k2, .int k3]) (n := 9) (Nat.le_of_ble_eq_true rfl)
  rw [lg_entry_eq]
  generalize (lg_sl ([.ref xa, .int k1, .int k2, .int k3]) ++ List.replicate (9 - (lg_sl ([.ref xa, .int k1, .int k2, .int k3])).length) Slot.unset).toArray = ls at hl ⊢
  have hl : lv_has ls 9 [(0, .ref xa), (1, .int k1), (2, .int k2), (3, .int k3)] := hl
  refine lv_aload_n hx hb dX11_hidden_0 rfl (lv_at hl 0 rfl) ?_
  refine lv_iload_n hx hb dX11_hidden_1 rfl (lv_at hl 1 rfl) ?_
  have hPc := hP.sub (ws' := [(xa, .inr (11, [.ref x0, .int 0, .ref x2, .int 0, .ref x4, .ref x5, .ref x6, .int x7, .ref x8, .int x9, .int x10]))]) [0] rfl
  have hDc := hD.sub (ws' := [(xa, .inr (11, [.ref x0, .int 0, .ref x2, .int 0, .ref x4, .ref x5, .ref x6, .int x7, .ref x8, .int x9, .int x10]))]) [0] (by decide) rfl
  have hKc := hK.sub (tys' := []) [] rfl
  have hFc := va_free (wc := [(xa, .inr (11, [.ref x0, .int 0, .ref x2, .int 0, .ref x4, .ref x5, .ref x6, .int x7, .ref x8, .int x9, .int x10]))]) hD hS hA [0] rfl
  refine va_callq (va_runV (As := [.int k1]) (rest := []) ⟨hx, hb, hml, hown, hg⟩ (k_houseAt0 l D s.heap.size xa x0 x2 x4 x5 x6 x7 x8 x9 x10 k1) (cwV 1 hg (gV wd_10 wd_11 wd_12 wd_5 wd_13) rfl rfl rfl (by decide +kernel) ⟨(Nat.le_of_ble_eq_true rfl), (Nat.le_of_ble_eq_true rfl)⟩) ⟨Pr.blind, va_recv hKc hPc (ci := 11) (q0 := 0) rfl rfl, fun U hU hW => ⟨rfl, Pr.at hPc hKc hDc hN hU hW⟩⟩ rfl rfl hl.1 rfl (lv_room (Nat.le_of_ble_eq_true rfl)) dX11_hidden_2 ⟨(Nat.le_of_ble_eq_true rfl), (Nat.le_of_ble_eq_true rfl)⟩) hS (fun q _ h => hFc q h) hFc (fun r_2 u t H_1 locs ht hvm hw hB hz1 hk1 hS => ?_)
  obtain ⟨hP1, hK1, hD1⟩ := hB
  rw [ht] at hP1
  have hK1 := va_K.moved hvm.symm hK1
  obtain ⟨hP, hD⟩ := va_join (wr := []) (w1 := [(xa, .inr (11, [.ref x0, .int 0, .ref x2, .int 0, .ref x4, .ref x5, .ref x6, .int x7, .ref x8, .int x9, .int x10]))]) hP hD [0] [] rfl rfl (by decide) (by decide) hk1 hFc hP1 hD1
  have hP : va_P D vwCl [(xa, .inr (11, [.ref x0, .int 0, .ref x2, .int 0, .ref x4, .ref x5, .ref x6, .int x7, .ref x8, .int x9, .int x10]))] H_1 := hP
  have hD : va_D A [(xa, .inr (11, [.ref x0, .int 0, .ref x2, .int 0, .ref x4, .ref x5, .ref x6, .int x7, .ref x8, .int x9, .int x10]))] := hD
  subst hw
  refine lv_astoreN (lv' := [(4, .null), (0, .ref xa), (1, .int k1), (2, .int k2), (3, .int k3)]) hx hb dX11_hidden_5 hl (by decide) rfl (fun ls hl => ?_)
  refine lv_aloadN hx hb dX11_hidden_7 (lv_at hl 0 rfl) ?_
  refine lv_ifnullN (tgt := 20) hx hb dX11_hidden_9 (by decide) ?_
  refine lv_aload_n hx hb dX11_hidden_20 rfl (lv_at hl 1 rfl) ?_
  refine lv_iconst (v := 1) hx hb dX11_hidden_21 (by decide) ?_
  have hPc := hP.sub (ws' := [(xa, .inr (11, [.ref x0, .int 0, .ref x2, .int 0, .ref x4, .ref x5, .ref x6, .int x7, .ref x8, .int x9, .int x10]))]) [0] rfl
  have hDc := hD.sub (ws' := [(xa, .inr (11, [.ref x0, .int 0, .ref x2, .int 0, .ref x4, .ref x5, .ref x6, .int x7, .ref x8, .int x9, .int x10]))]) [0] (by decide) rfl
  have hKc := hK.sub (tys' := []) [] rfl
  have hFc := va_free (wc := [(xa, .inr (11, [.ref x0, .int 0, .ref x2, .int 0, .ref x4, .ref x5, .ref x6, .int x7, .ref x8, .int x9, .int x10]))]) hD hS hA [0] rfl
  refine va_calli (va_runV (As := [.int 1]) (rest := []) ⟨hx, hb, hml, hown, hg⟩ (k_refuse l D H_1.size xa x0 0 x2 0 x4 x5 x6 x7 x8 x9 x10 1) (cwV 1 hg (gV wd_14 wd_15 wd_16 wd_5 wd_17) rfl rfl rfl (by decide +kernel) ⟨(Nat.le_of_ble_eq_true rfl), (Nat.le_of_ble_eq_true rfl)⟩) ⟨Pr.blind, va_recv hKc hPc (ci := 11) (q0 := 0) rfl rfl, fun U hU hW => ⟨rfl, Pr.at hPc hKc hDc hN hU hW⟩⟩ rfl rfl hl.1 rfl (lv_room (Nat.le_of_ble_eq_true rfl)) dX11_hidden_22 ⟨(Nat.le_of_ble_eq_true rfl), (Nat.le_of_ble_eq_true rfl)⟩) hS (fun q _ h => hFc q h) hFc (fun r_4 u t H_3 locs ht hvm hw hB hz1 hk1 hS => ?_)
  obtain ⟨hP1, hK1, hD1⟩ := hB
  rw [ht] at hP1
  have hK1 := va_K.moved hvm.symm hK1
  obtain ⟨hP, hD⟩ := va_join (wr := []) (w1 := [(xa, .inr (11, [.ref x0, .int 0, .ref x2, .int 0, .ref x4, .ref x5, .ref x6, .int x7, .ref x8, .int 1, .int (-1)]))]) hP hD [0] [] rfl rfl (by decide) (by decide) hk1 hFc hP1 hD1
  have hP : va_P D vwCl [(xa, .inr (11, [.ref x0, .int 0, .ref x2, .int 0, .ref x4, .ref x5, .ref x6, .int x7, .ref x8, .int 1, .int (-1)]))] H_3 := hP
  have hD : va_D A [(xa, .inr (11, [.ref x0, .int 0, .ref x2, .int 0, .ref x4, .ref x5, .ref x6, .int x7, .ref x8, .int 1, .int (-1)]))] := hD
  subst hw
  exact W.iret (v := (-1)) hx hb hr (fun t ht hW => ⟨⟨(-1), (), rfl, rfl, trivial⟩, hS.F ht⟩) hS.2.2 dX11_hidden_25
set_option maxHeartbeats 4000000 in
set_option maxRecDepth 100000 in
theorem k_bear (l : Launch) (D : va_G) (sz : Nat) (xa : Nat) (x0 : Nat) (x2 : Nat) (x4 : Nat) (x5 : Nat) (x6 : Nat) (x7 : Int32) (x8 : Nat) (x9 : Int32) (x10 : Int32) (k1 : Int32) (k2 : Int32) (k3 : Int32) : Met l yX11_bear (wsM yX11_bear cX11_bear 5 (some .int)) ({ frames := 2, cells := 0, slots := 0, locals := 43 }) (va_Pc [.ref xa, .int k1, .int k2, .int k3] (Pr D [(xa, .inr (11, [.ref x0, .int 0, .ref x2, .int 0, .ref x4, .ref x5, .ref x6, .int x7, .ref x8, .int x9, .int x10]))] [] sz)) (va_Qi (fun (r : Int32) (_ : Unit) => r = (-1)) (fun _ _ => True) (va_A [(xa, .inr (11, [.ref x0, .int 0, .ref x2, .int 0, .ref x4, .ref x5, .ref x6, .int x7, .ref x8, .int x9, .int x10]))] sz)) 0 0 (va_A [(xa, .inr (11, [.ref x0, .int 0, .ref x2, .int 0, .ref x4, .ref x5, .ref x6, .int x7, .ref x8, .int x9, .int x10]))] sz) := by
  refine Met.ofW (cc := cX11_bear) (maxL := 5) (ret := (some .int)) (by decide) rfl ?_
  intro p e s m args below meth c s₁ B hml hv
  obtain ⟨rfl, hsz, hP, hK, hD0, hN⟩ := hv
  have hx := B.exec
  have hb := B.bytes
  have hr := B.returns
  have hts := atoms_spec (ws := (wsM yX11_bear cX11_bear 5 (some .int))) B.pre
  have hg : ∀ w ∈ lw_good, w.before _ s = true := fun w h => hts w (List.mem_cons_of_mem _ h)
  have hown : s.vm.findClass RX11 = some m.cls := findClass_of_methodNamed B.named
  have hlocks := B.notSynchronized
  subst hsz
  have hD := hD0.self (sz := s.heap.size)
  generalize hAe : va_A [(xa, .inr (11, [.ref x0, .int 0, .ref x2, .int 0, .ref x4, .ref x5, .ref x6, .int x7, .ref x8, .int x9, .int x10]))] s.heap.size = A at hD ⊢
  have hA : ∀ q : Nat, s.heap.size ≤ q → A q := fun q h => by rw [← hAe]; exact Or.inr h
  have hS : va_S A s.heap s.heap [] := va_S.rf
  have hP : va_P D vwCl [(xa, .inr (11, [.ref x0, .int 0, .ref x2, .int 0, .ref x4, .ref x5, .ref x6, .int x7, .ref x8, .int x9, .int x10]))] s.heap := hP
  have hl := lv_entry ([.ref xa, .int k1, .int k2, .int k3]) (n := 5) (Nat.le_of_ble_eq_true rfl)
  rw [lg_entry_eq]
  generalize (lg_sl ([.ref xa, .int k1, .int k2, .int k3]) ++ List.replicate (5 - (lg_sl ([.ref xa, .int k1, .int k2, .int k3])).length) Slot.unset).toArray = ls at hl ⊢
  have hl : lv_has ls 5 [(0, .ref xa), (1, .int k1), (2, .int k2), (3, .int k3)] := hl
  refine lv_aload_n hx hb dX11_bear_0 rfl (lv_at hl 0 rfl) ?_
  refine lv_iload_n hx hb dX11_bear_1 rfl (lv_at hl 1 rfl) ?_
  have hPc := hP.sub (ws' := [(xa, .inr (11, [.ref x0, .int 0, .ref x2, .int 0, .ref x4, .ref x5, .ref x6, .int x7, .ref x8, .int x9, .int x10]))]) [0] rfl
  have hDc := hD.sub (ws' := [(xa, .inr (11, [.ref x0, .int 0, .ref x2, .int 0, .ref x4, .ref x5, .ref x6, .int x7, .ref x8, .int x9, .int x10]))]) [0] (by decide) rfl
  have hKc := hK.sub (tys' := []) [] rfl
  have hFc := va_free (wc := [(xa, .inr (11, [.ref x0, .int 0, .ref x2, .int 0, .ref x4, .ref x5, .ref x6, .int x7, .ref x8, .int x9, .int x10]))]) hD hS hA [0] rfl
  refine va_callq (va_runV (As := [.int k1]) (rest := []) ⟨hx, hb, hml, hown, hg⟩ (k_houseAt0 l D s.heap.size xa x0 x2 x4 x5 x6 x7 x8 x9 x10 k1) (cwV 1 hg (gV wd_10 wd_11 wd_12 wd_5 wd_13) rfl rfl rfl (by decide +kernel) ⟨(Nat.le_of_ble_eq_true rfl), (Nat.le_of_ble_eq_true rfl)⟩) ⟨Pr.blind, va_recv hKc hPc (ci := 11) (q0 := 0) rfl rfl, fun U hU hW => ⟨rfl, Pr.at hPc hKc hDc hN hU hW⟩⟩ rfl rfl hl.1 rfl (lv_room (Nat.le_of_ble_eq_true rfl)) dX11_bear_2 ⟨(Nat.le_of_ble_eq_true rfl), (Nat.le_of_ble_eq_true rfl)⟩) hS (fun q _ h => hFc q h) hFc (fun r_2 u t H_1 locs ht hvm hw hB hz1 hk1 hS => ?_)
  obtain ⟨hP1, hK1, hD1⟩ := hB
  rw [ht] at hP1
  have hK1 := va_K.moved hvm.symm hK1
  obtain ⟨hP, hD⟩ := va_join (wr := []) (w1 := [(xa, .inr (11, [.ref x0, .int 0, .ref x2, .int 0, .ref x4, .ref x5, .ref x6, .int x7, .ref x8, .int x9, .int x10]))]) hP hD [0] [] rfl rfl (by decide) (by decide) hk1 hFc hP1 hD1
  have hP : va_P D vwCl [(xa, .inr (11, [.ref x0, .int 0, .ref x2, .int 0, .ref x4, .ref x5, .ref x6, .int x7, .ref x8, .int x9, .int x10]))] H_1 := hP
  have hD : va_D A [(xa, .inr (11, [.ref x0, .int 0, .ref x2, .int 0, .ref x4, .ref x5, .ref x6, .int x7, .ref x8, .int x9, .int x10]))] := hD
  subst hw
  refine lv_astoreN (lv' := [(4, .null), (0, .ref xa), (1, .int k1), (2, .int k2), (3, .int k3)]) hx hb dX11_bear_5 hl (by decide) rfl (fun ls hl => ?_)
  refine lv_aloadN hx hb dX11_bear_7 (lv_at hl 0 rfl) ?_
  refine lv_ifnullN (tgt := 20) hx hb dX11_bear_9 (by decide) ?_
  refine lv_aload_n hx hb dX11_bear_20 rfl (lv_at hl 1 rfl) ?_
  refine lv_iconst (v := 1) hx hb dX11_bear_21 (by decide) ?_
  have hPc := hP.sub (ws' := [(xa, .inr (11, [.ref x0, .int 0, .ref x2, .int 0, .ref x4, .ref x5, .ref x6, .int x7, .ref x8, .int x9, .int x10]))]) [0] rfl
  have hDc := hD.sub (ws' := [(xa, .inr (11, [.ref x0, .int 0, .ref x2, .int 0, .ref x4, .ref x5, .ref x6, .int x7, .ref x8, .int x9, .int x10]))]) [0] (by decide) rfl
  have hKc := hK.sub (tys' := []) [] rfl
  have hFc := va_free (wc := [(xa, .inr (11, [.ref x0, .int 0, .ref x2, .int 0, .ref x4, .ref x5, .ref x6, .int x7, .ref x8, .int x9, .int x10]))]) hD hS hA [0] rfl
  refine va_calli (va_runV (As := [.int 1]) (rest := []) ⟨hx, hb, hml, hown, hg⟩ (k_refuse l D H_1.size xa x0 0 x2 0 x4 x5 x6 x7 x8 x9 x10 1) (cwV 1 hg (gV wd_14 wd_15 wd_16 wd_5 wd_17) rfl rfl rfl (by decide +kernel) ⟨(Nat.le_of_ble_eq_true rfl), (Nat.le_of_ble_eq_true rfl)⟩) ⟨Pr.blind, va_recv hKc hPc (ci := 11) (q0 := 0) rfl rfl, fun U hU hW => ⟨rfl, Pr.at hPc hKc hDc hN hU hW⟩⟩ rfl rfl hl.1 rfl (lv_room (Nat.le_of_ble_eq_true rfl)) dX11_bear_22 ⟨(Nat.le_of_ble_eq_true rfl), (Nat.le_of_ble_eq_true rfl)⟩) hS (fun q _ h => hFc q h) hFc (fun r_4 u t H_3 locs ht hvm hw hB hz1 hk1 hS => ?_)
  obtain ⟨hP1, hK1, hD1⟩ := hB
  rw [ht] at hP1
  have hK1 := va_K.moved hvm.symm hK1
  obtain ⟨hP, hD⟩ := va_join (wr := []) (w1 := [(xa, .inr (11, [.ref x0, .int 0, .ref x2, .int 0, .ref x4, .ref x5, .ref x6, .int x7, .ref x8, .int 1, .int (-1)]))]) hP hD [0] [] rfl rfl (by decide) (by decide) hk1 hFc hP1 hD1
  have hP : va_P D vwCl [(xa, .inr (11, [.ref x0, .int 0, .ref x2, .int 0, .ref x4, .ref x5, .ref x6, .int x7, .ref x8, .int 1, .int (-1)]))] H_3 := hP
  have hD : va_D A [(xa, .inr (11, [.ref x0, .int 0, .ref x2, .int 0, .ref x4, .ref x5, .ref x6, .int x7, .ref x8, .int 1, .int (-1)]))] := hD
  subst hw
  exact W.iret (v := (-1)) hx hb hr (fun t ht hW => ⟨⟨(-1), (), rfl, rfl, trivial⟩, hS.F ht⟩) hS.2.2 dX11_bear_25
set_option maxHeartbeats 4000000 in
set_option maxRecDepth 100000 in
theorem k_check (l : Launch) (D : va_G) (sz : Nat) (xa : Nat) (x0 : Nat) (x2 : Nat) (x4 : Nat) (x5 : Nat) (x6 : Nat) (x7 : Int32) (x8 : Nat) (x9 : Int32) (x10 : Int32) (k1 : Int32) : Met l yX11_check (wsM yX11_check cX11_check 5 (some .int)) ({ frames := 2, cells := 0, slots := 0, locals := 43 }) (va_Pc [.ref xa, .int k1] (Pr D [(xa, .inr (11, [.ref x0, .int 0, .ref x2, .int 0, .ref x4, .ref x5, .ref x6, .int x7, .ref x8, .int x9, .int x10]))] [] sz)) (va_Qi (fun (r : Int32) (_ : Unit) => r = (-1)) (fun _ _ => True) (va_A [(xa, .inr (11, [.ref x0, .int 0, .ref x2, .int 0, .ref x4, .ref x5, .ref x6, .int x7, .ref x8, .int x9, .int x10]))] sz)) 0 0 (va_A [(xa, .inr (11, [.ref x0, .int 0, .ref x2, .int 0, .ref x4, .ref x5, .ref x6, .int x7, .ref x8, .int x9, .int x10]))] sz) := by
  refine Met.ofW (cc := cX11_check) (maxL := 5) (ret := (some .int)) (by decide) rfl ?_
  intro p e s m args below meth c s₁ B hml hv
  obtain ⟨rfl, hsz, hP, hK, hD0, hN⟩ := hv
  have hx := B.exec
  have hb := B.bytes
  have hr := B.returns
  have hts := atoms_spec (ws := (wsM yX11_check cX11_check 5 (some .int))) B.pre
  have hg : ∀ w ∈ lw_good, w.before _ s = true := fun w h => hts w (List.mem_cons_of_mem _ h)
  have hown : s.vm.findClass RX11 = some m.cls := findClass_of_methodNamed B.named
  have hlocks := B.notSynchronized
  subst hsz
  have hD := hD0.self (sz := s.heap.size)
  generalize hAe : va_A [(xa, .inr (11, [.ref x0, .int 0, .ref x2, .int 0, .ref x4, .ref x5, .ref x6, .int x7, .ref x8, .int x9, .int x10]))] s.heap.size = A at hD ⊢
  have hA : ∀ q : Nat, s.heap.size ≤ q → A q := fun q h => by rw [← hAe]; exact Or.inr h
  have hS : va_S A s.heap s.heap [] := va_S.rf
  have hP : va_P D vwCl [(xa, .inr (11, [.ref x0, .int 0, .ref x2, .int 0, .ref x4, .ref x5, .ref x6, .int x7, .ref x8, .int x9, .int x10]))] s.heap := hP
  have hl := lv_entry ([.ref xa, .int k1]) (n := 5) (Nat.le_of_ble_eq_true rfl)
  rw [lg_entry_eq]
  generalize (lg_sl ([.ref xa, .int k1]) ++ List.replicate (5 - (lg_sl ([.ref xa, .int k1])).length) Slot.unset).toArray = ls at hl ⊢
  have hl : lv_has ls 5 [(0, .ref xa), (1, .int k1)] := hl
  refine lv_aload_n hx hb dX11_check_0 rfl (lv_at hl 0 rfl) ?_
  refine lv_iload_n hx hb dX11_check_1 rfl (lv_at hl 1 rfl) ?_
  have hPc := hP.sub (ws' := [(xa, .inr (11, [.ref x0, .int 0, .ref x2, .int 0, .ref x4, .ref x5, .ref x6, .int x7, .ref x8, .int x9, .int x10]))]) [0] rfl
  have hDc := hD.sub (ws' := [(xa, .inr (11, [.ref x0, .int 0, .ref x2, .int 0, .ref x4, .ref x5, .ref x6, .int x7, .ref x8, .int x9, .int x10]))]) [0] (by decide) rfl
  have hKc := hK.sub (tys' := []) [] rfl
  have hFc := va_free (wc := [(xa, .inr (11, [.ref x0, .int 0, .ref x2, .int 0, .ref x4, .ref x5, .ref x6, .int x7, .ref x8, .int x9, .int x10]))]) hD hS hA [0] rfl
  refine va_callq (va_runV (As := [.int k1]) (rest := []) ⟨hx, hb, hml, hown, hg⟩ (k_houseAt0 l D s.heap.size xa x0 x2 x4 x5 x6 x7 x8 x9 x10 k1) (cwV 1 hg (gV wd_10 wd_11 wd_12 wd_5 wd_13) rfl rfl rfl (by decide +kernel) ⟨(Nat.le_of_ble_eq_true rfl), (Nat.le_of_ble_eq_true rfl)⟩) ⟨Pr.blind, va_recv hKc hPc (ci := 11) (q0 := 0) rfl rfl, fun U hU hW => ⟨rfl, Pr.at hPc hKc hDc hN hU hW⟩⟩ rfl rfl hl.1 rfl (lv_room (Nat.le_of_ble_eq_true rfl)) dX11_check_2 ⟨(Nat.le_of_ble_eq_true rfl), (Nat.le_of_ble_eq_true rfl)⟩) hS (fun q _ h => hFc q h) hFc (fun r_2 u t H_1 locs ht hvm hw hB hz1 hk1 hS => ?_)
  obtain ⟨hP1, hK1, hD1⟩ := hB
  rw [ht] at hP1
  have hK1 := va_K.moved hvm.symm hK1
  obtain ⟨hP, hD⟩ := va_join (wr := []) (w1 := [(xa, .inr (11, [.ref x0, .int 0, .ref x2, .int 0, .ref x4, .ref x5, .ref x6, .int x7, .ref x8, .int x9, .int x10]))]) hP hD [0] [] rfl rfl (by decide) (by decide) hk1 hFc hP1 hD1
  have hP : va_P D vwCl [(xa, .inr (11, [.ref x0, .int 0, .ref x2, .int 0, .ref x4, .ref x5, .ref x6, .int x7, .ref x8, .int x9, .int x10]))] H_1 := hP
  have hD : va_D A [(xa, .inr (11, [.ref x0, .int 0, .ref x2, .int 0, .ref x4, .ref x5, .ref x6, .int x7, .ref x8, .int x9, .int x10]))] := hD
  subst hw
  refine lv_astore_nN (lv' := [(2, .null), (0, .ref xa), (1, .int k1)]) hx hb dX11_check_5 rfl hl (by decide) rfl (fun ls hl => ?_)
  refine lv_aload_nN hx hb dX11_check_6 rfl (lv_at hl 0 rfl) ?_
  refine lv_ifnullN (tgt := 17) hx hb dX11_check_7 (by decide) ?_
  refine lv_aload_n hx hb dX11_check_17 rfl (lv_at hl 1 rfl) ?_
  refine lv_iconst (v := 1) hx hb dX11_check_18 (by decide) ?_
  have hPc := hP.sub (ws' := [(xa, .inr (11, [.ref x0, .int 0, .ref x2, .int 0, .ref x4, .ref x5, .ref x6, .int x7, .ref x8, .int x9, .int x10]))]) [0] rfl
  have hDc := hD.sub (ws' := [(xa, .inr (11, [.ref x0, .int 0, .ref x2, .int 0, .ref x4, .ref x5, .ref x6, .int x7, .ref x8, .int x9, .int x10]))]) [0] (by decide) rfl
  have hKc := hK.sub (tys' := []) [] rfl
  have hFc := va_free (wc := [(xa, .inr (11, [.ref x0, .int 0, .ref x2, .int 0, .ref x4, .ref x5, .ref x6, .int x7, .ref x8, .int x9, .int x10]))]) hD hS hA [0] rfl
  refine va_calli (va_runV (As := [.int 1]) (rest := []) ⟨hx, hb, hml, hown, hg⟩ (k_refuse l D H_1.size xa x0 0 x2 0 x4 x5 x6 x7 x8 x9 x10 1) (cwV 1 hg (gV wd_14 wd_15 wd_16 wd_5 wd_17) rfl rfl rfl (by decide +kernel) ⟨(Nat.le_of_ble_eq_true rfl), (Nat.le_of_ble_eq_true rfl)⟩) ⟨Pr.blind, va_recv hKc hPc (ci := 11) (q0 := 0) rfl rfl, fun U hU hW => ⟨rfl, Pr.at hPc hKc hDc hN hU hW⟩⟩ rfl rfl hl.1 rfl (lv_room (Nat.le_of_ble_eq_true rfl)) dX11_check_19 ⟨(Nat.le_of_ble_eq_true rfl), (Nat.le_of_ble_eq_true rfl)⟩) hS (fun q _ h => hFc q h) hFc (fun r_4 u t H_3 locs ht hvm hw hB hz1 hk1 hS => ?_)
  obtain ⟨hP1, hK1, hD1⟩ := hB
  rw [ht] at hP1
  have hK1 := va_K.moved hvm.symm hK1
  obtain ⟨hP, hD⟩ := va_join (wr := []) (w1 := [(xa, .inr (11, [.ref x0, .int 0, .ref x2, .int 0, .ref x4, .ref x5, .ref x6, .int x7, .ref x8, .int 1, .int (-1)]))]) hP hD [0] [] rfl rfl (by decide) (by decide) hk1 hFc hP1 hD1
  have hP : va_P D vwCl [(xa, .inr (11, [.ref x0, .int 0, .ref x2, .int 0, .ref x4, .ref x5, .ref x6, .int x7, .ref x8, .int 1, .int (-1)]))] H_3 := hP
  have hD : va_D A [(xa, .inr (11, [.ref x0, .int 0, .ref x2, .int 0, .ref x4, .ref x5, .ref x6, .int x7, .ref x8, .int 1, .int (-1)]))] := hD
  subst hw
  exact W.iret (v := (-1)) hx hb hr (fun t ht hW => ⟨⟨(-1), (), rfl, rfl, trivial⟩, hS.F ht⟩) hS.2.2 dX11_check_22
set_option maxHeartbeats 4000000 in
set_option maxRecDepth 100000 in
theorem k_join (l : Launch) (D : va_G) (sz : Nat) (xa : Nat) (x0 : Nat) (x2 : Nat) (x4 : Nat) (x6 : Nat) (x7 : Int32) (x8 : Nat) (x9 : Int32) (x10 : Int32) (ga : Nat) (g0 : Nat) (g1 : Nat) (g2 : Int32) (k1 : Int32) (k2 : Int32) (k3 : Int32) (k4 : Int32) (k5 : Int32) : Met l yX11_join (wsM yX11_join cX11_join 8 (some .int)) ({ frames := 2, cells := 0, slots := 0, locals := 43 }) (va_Pc [.ref xa, .int k1, .int k2, .int k3, .int k4, .int k5] (Pr D [(xa, .inr (11, [.ref x0, .int 0, .ref x2, .int 0, .ref x4, .ref ga, .ref x6, .int x7, .ref x8, .int x9, .int x10])), (ga, .inr (5, [.ref g0, .ref g1, .int g2]))] [] sz)) (va_Qi (fun (r : Int32) (_ : Unit) => r = (-1)) (fun _ _ => True) (va_A [(xa, .inr (11, [.ref x0, .int 0, .ref x2, .int 0, .ref x4, .ref ga, .ref x6, .int x7, .ref x8, .int x9, .int x10])), (ga, .inr (5, [.ref g0, .ref g1, .int g2]))] sz)) 0 0 (va_A [(xa, .inr (11, [.ref x0, .int 0, .ref x2, .int 0, .ref x4, .ref ga, .ref x6, .int x7, .ref x8, .int x9, .int x10])), (ga, .inr (5, [.ref g0, .ref g1, .int g2]))] sz) := by
  refine Met.ofW (cc := cX11_join) (maxL := 8) (ret := (some .int)) (by decide) rfl ?_
  intro p e s m args below meth c s₁ B hml hv
  obtain ⟨rfl, hsz, hP, hK, hD0, hN⟩ := hv
  have hx := B.exec
  have hb := B.bytes
  have hr := B.returns
  have hts := atoms_spec (ws := (wsM yX11_join cX11_join 8 (some .int))) B.pre
  have hg : ∀ w ∈ lw_good, w.before _ s = true := fun w h => hts w (List.mem_cons_of_mem _ h)
  have hown : s.vm.findClass RX11 = some m.cls := findClass_of_methodNamed B.named
  have hlocks := B.notSynchronized
  subst hsz
  have hD := hD0.self (sz := s.heap.size)
  generalize hAe : va_A [(xa, .inr (11, [.ref x0, .int 0, .ref x2, .int 0, .ref x4, .ref ga, .ref x6, .int x7, .ref x8, .int x9, .int x10])), (ga, .inr (5, [.ref g0, .ref g1, .int g2]))] s.heap.size = A at hD ⊢
  have hA : ∀ q : Nat, s.heap.size ≤ q → A q := fun q h => by rw [← hAe]; exact Or.inr h
  have hS : va_S A s.heap s.heap [] := va_S.rf
  have hP : va_P D vwCl [(xa, .inr (11, [.ref x0, .int 0, .ref x2, .int 0, .ref x4, .ref ga, .ref x6, .int x7, .ref x8, .int x9, .int x10])), (ga, .inr (5, [.ref g0, .ref g1, .int g2]))] s.heap := hP
  have hl := lv_entry ([.ref xa, .int k1, .int k2, .int k3, .int k4, .int k5]) (n := 8) (Nat.le_of_ble_eq_true rfl)
  rw [lg_entry_eq]
  generalize (lg_sl ([.ref xa, .int k1, .int k2, .int k3, .int k4, .int k5]) ++ List.replicate (8 - (lg_sl ([.ref xa, .int k1, .int k2, .int k3, .int k4, .int k5])).length) Slot.unset).toArray = ls at hl ⊢
  have hl : lv_has ls 8 [(0, .ref xa), (1, .int k1), (2, .int k2), (3, .int k3), (4, .int k4), (5, .int k5)] := hl
  refine lv_aload_n hx hb dX11_join_0 rfl (lv_at hl 0 rfl) ?_
  refine va_get (D := D) (ci := 11) (v := .ref ga) (C := RX11) (T := TX11) (N := 11) hx hb hg inG11 hown hK hP 0 rfl rfl 5 (by decide) (hg _ wd_26) (fun _ h9 => h9) rfl dX11_join_1 ?_
  have hPc := hP.sub (ws' := [(ga, .inr (5, [.ref g0, .ref g1, .int g2]))]) [1] rfl
  have hDc := hD.sub (ws' := [(ga, .inr (5, [.ref g0, .ref g1, .int g2]))]) [1] (by decide) rfl
  have hKc := hK.sub (tys' := []) [] rfl
  have hFc := va_free (wc := [(ga, .inr (5, [.ref g0, .ref g1, .int g2]))]) hD hS hA [1] rfl
  refine va_callv (va_runV (As := []) (rest := []) ⟨hx, hb, hml, hown, hg⟩ (k_forget l D s.heap.size ga g0 g1 g2) (cwV 0 hg (gV wd_27 wd_28 wd_29 wd_30 wd_31) rfl rfl rfl (by decide +kernel) ⟨(Nat.le_of_ble_eq_true rfl), (Nat.le_of_ble_eq_true rfl)⟩) ⟨Pr.blind, va_recv hKc hPc (ci := 5) (q0 := 0) rfl rfl, fun U hU hW => ⟨rfl, Pr.at hPc hKc hDc hN hU hW⟩⟩ rfl rfl hl.1 rfl (lv_room (Nat.le_of_ble_eq_true rfl)) dX11_join_4 ⟨(Nat.le_of_ble_eq_true rfl), (Nat.le_of_ble_eq_true rfl)⟩) hS (fun q _ h => hFc q h) hFc (fun u t H_1 locs ht hvm hw hB hz1 hk1 hS => ?_)
  obtain ⟨hP1, hK1, hD1⟩ := hB
  rw [ht] at hP1
  have hK1 := va_K.moved hvm.symm hK1
  obtain ⟨hP, hD⟩ := va_join (wr := [(xa, .inr (11, [.ref x0, .int 0, .ref x2, .int 0, .ref x4, .ref ga, .ref x6, .int x7, .ref x8, .int x9, .int x10]))]) (w1 := [(ga, .inr (5, [.ref g0, .ref g1, .int 0]))]) hP hD [1] [0] rfl rfl (by decide) (by decide) hk1 hFc hP1 hD1
  have hP : va_P D vwCl [(xa, .inr (11, [.ref x0, .int 0, .ref x2, .int 0, .ref x4, .ref ga, .ref x6, .int x7, .ref x8, .int x9, .int x10])), (ga, .inr (5, [.ref g0, .ref g1, .int 0]))] H_1 := hP
  have hD : va_D A [(xa, .inr (11, [.ref x0, .int 0, .ref x2, .int 0, .ref x4, .ref ga, .ref x6, .int x7, .ref x8, .int x9, .int x10])), (ga, .inr (5, [.ref g0, .ref g1, .int 0]))] := hD
  refine lv_aload_n hx hb dX11_join_7 rfl (lv_at hl 0 rfl) ?_
  refine lv_iload_n hx hb dX11_join_8 rfl (lv_at hl 1 rfl) ?_
  have hPc := hP.sub (ws' := [(xa, .inr (11, [.ref x0, .int 0, .ref x2, .int 0, .ref x4, .ref ga, .ref x6, .int x7, .ref x8, .int x9, .int x10]))]) [0] rfl
  have hDc := hD.sub (ws' := [(xa, .inr (11, [.ref x0, .int 0, .ref x2, .int 0, .ref x4, .ref ga, .ref x6, .int x7, .ref x8, .int x9, .int x10]))]) [0] (by decide) rfl
  have hKc := hK.sub (tys' := []) [] rfl
  have hFc := va_free (wc := [(xa, .inr (11, [.ref x0, .int 0, .ref x2, .int 0, .ref x4, .ref ga, .ref x6, .int x7, .ref x8, .int x9, .int x10]))]) hD hS hA [0] rfl
  refine va_callq (va_runV (As := [.int k1]) (rest := []) ⟨hx, hb, hml, hown, hg⟩ (k_houseAt0 l D H_1.size xa x0 x2 x4 ga x6 x7 x8 x9 x10 k1) (cwV 1 hg (gV wd_10 wd_11 wd_12 wd_5 wd_13) rfl rfl rfl (by decide +kernel) ⟨(Nat.le_of_ble_eq_true rfl), (Nat.le_of_ble_eq_true rfl)⟩) ⟨Pr.blind, va_recv hKc hPc (ci := 11) (q0 := 0) rfl rfl, fun U hU hW => ⟨rfl, Pr.at hPc hKc hDc hN hU hW⟩⟩ rfl rfl hl.1 rfl (lv_room (Nat.le_of_ble_eq_true rfl)) dX11_join_9 ⟨(Nat.le_of_ble_eq_true rfl), (Nat.le_of_ble_eq_true rfl)⟩) hS (fun q _ h => hFc q h) hFc (fun r_4 u t H_3 locs ht hvm hw hB hz1 hk1 hS => ?_)
  obtain ⟨hP1, hK1, hD1⟩ := hB
  rw [ht] at hP1
  have hK1 := va_K.moved hvm.symm hK1
  obtain ⟨hP, hD⟩ := va_join (wr := [(ga, .inr (5, [.ref g0, .ref g1, .int 0]))]) (w1 := [(xa, .inr (11, [.ref x0, .int 0, .ref x2, .int 0, .ref x4, .ref ga, .ref x6, .int x7, .ref x8, .int x9, .int x10]))]) hP hD [0] [1] rfl rfl (by decide) (by decide) hk1 hFc hP1 hD1
  have hP : va_P D vwCl [(ga, .inr (5, [.ref g0, .ref g1, .int 0])), (xa, .inr (11, [.ref x0, .int 0, .ref x2, .int 0, .ref x4, .ref ga, .ref x6, .int x7, .ref x8, .int x9, .int x10]))] H_3 := hP
  have hD : va_D A [(ga, .inr (5, [.ref g0, .ref g1, .int 0])), (xa, .inr (11, [.ref x0, .int 0, .ref x2, .int 0, .ref x4, .ref ga, .ref x6, .int x7, .ref x8, .int x9, .int x10]))] := hD
  subst hw
  refine lv_astoreN (lv' := [(6, .null), (0, .ref xa), (1, .int k1), (2, .int k2), (3, .int k3), (4, .int k4), (5, .int k5)]) hx hb dX11_join_12 hl (by decide) rfl (fun ls hl => ?_)
  refine lv_aload_n hx hb dX11_join_14 rfl (lv_at hl 1 rfl) ?_
  refine lv_iload_n hx hb dX11_join_15 rfl (lv_at hl 4 rfl) ?_
  have hPc := hP.sub (ws' := [(xa, .inr (11, [.ref x0, .int 0, .ref x2, .int 0, .ref x4, .ref ga, .ref x6, .int x7, .ref x8, .int x9, .int x10]))]) [1] rfl
  have hDc := hD.sub (ws' := [(xa, .inr (11, [.ref x0, .int 0, .ref x2, .int 0, .ref x4, .ref ga, .ref x6, .int x7, .ref x8, .int x9, .int x10]))]) [1] (by decide) rfl
  have hKc := hK.sub (tys' := []) [] rfl
  have hFc := va_free (wc := [(xa, .inr (11, [.ref x0, .int 0, .ref x2, .int 0, .ref x4, .ref ga, .ref x6, .int x7, .ref x8, .int x9, .int x10]))]) hD hS hA [1] rfl
  refine va_callq (va_runV (As := [.int k3]) (rest := []) ⟨hx, hb, hml, hown, hg⟩ (k_partnerAt0 l D H_3.size xa x0 x2 x4 ga x6 x7 x8 x9 x10 k3) (cwV 1 hg (gV wd_18 wd_19 wd_20 wd_5 wd_21) rfl rfl rfl (by decide +kernel) ⟨(Nat.le_of_ble_eq_true rfl), (Nat.le_of_ble_eq_true rfl)⟩) ⟨Pr.blind, va_recv hKc hPc (ci := 11) (q0 := 0) rfl rfl, fun U hU hW => ⟨rfl, Pr.at hPc hKc hDc hN hU hW⟩⟩ rfl rfl hl.1 rfl (lv_room (Nat.le_of_ble_eq_true rfl)) dX11_join_16 ⟨(Nat.le_of_ble_eq_true rfl), (Nat.le_of_ble_eq_true rfl)⟩) hS (fun q _ h => hFc q h) hFc (fun r_6 u t H_5 locs ht hvm hw hB hz1 hk1 hS => ?_)
  obtain ⟨hP1, hK1, hD1⟩ := hB
  rw [ht] at hP1
  have hK1 := va_K.moved hvm.symm hK1
  obtain ⟨hP, hD⟩ := va_join (wr := [(ga, .inr (5, [.ref g0, .ref g1, .int 0]))]) (w1 := [(xa, .inr (11, [.ref x0, .int 0, .ref x2, .int 0, .ref x4, .ref ga, .ref x6, .int x7, .ref x8, .int x9, .int x10]))]) hP hD [1] [0] rfl rfl (by decide) (by decide) hk1 hFc hP1 hD1
  have hP : va_P D vwCl [(ga, .inr (5, [.ref g0, .ref g1, .int 0])), (xa, .inr (11, [.ref x0, .int 0, .ref x2, .int 0, .ref x4, .ref ga, .ref x6, .int x7, .ref x8, .int x9, .int x10]))] H_5 := hP
  have hD : va_D A [(ga, .inr (5, [.ref g0, .ref g1, .int 0])), (xa, .inr (11, [.ref x0, .int 0, .ref x2, .int 0, .ref x4, .ref ga, .ref x6, .int x7, .ref x8, .int x9, .int x10]))] := hD
  subst hw
  refine lv_astoreN (lv' := [(7, .null), (6, .null), (0, .ref xa), (1, .int k1), (2, .int k2), (3, .int k3), (4, .int k4), (5, .int k5)]) hx hb dX11_join_19 hl (by decide) rfl (fun ls hl => ?_)
  refine lv_aloadN hx hb dX11_join_21 (lv_at hl 1 rfl) ?_
  refine lv_ifnullN (tgt := 38) hx hb dX11_join_23 (by decide) ?_
  refine lv_aload_n hx hb dX11_join_38 rfl (lv_at hl 2 rfl) ?_
  refine lv_iconst (v := 1) hx hb dX11_join_39 (by decide) ?_
  have hPc := hP.sub (ws' := [(xa, .inr (11, [.ref x0, .int 0, .ref x2, .int 0, .ref x4, .ref ga, .ref x6, .int x7, .ref x8, .int x9, .int x10]))]) [1] rfl
  have hDc := hD.sub (ws' := [(xa, .inr (11, [.ref x0, .int 0, .ref x2, .int 0, .ref x4, .ref ga, .ref x6, .int x7, .ref x8, .int x9, .int x10]))]) [1] (by decide) rfl
  have hKc := hK.sub (tys' := []) [] rfl
  have hFc := va_free (wc := [(xa, .inr (11, [.ref x0, .int 0, .ref x2, .int 0, .ref x4, .ref ga, .ref x6, .int x7, .ref x8, .int x9, .int x10]))]) hD hS hA [1] rfl
  refine va_calli (va_runV (As := [.int 1]) (rest := []) ⟨hx, hb, hml, hown, hg⟩ (k_refuse l D H_5.size xa x0 0 x2 0 x4 ga x6 x7 x8 x9 x10 1) (cwV 1 hg (gV wd_14 wd_15 wd_16 wd_5 wd_17) rfl rfl rfl (by decide +kernel) ⟨(Nat.le_of_ble_eq_true rfl), (Nat.le_of_ble_eq_true rfl)⟩) ⟨Pr.blind, va_recv hKc hPc (ci := 11) (q0 := 0) rfl rfl, fun U hU hW => ⟨rfl, Pr.at hPc hKc hDc hN hU hW⟩⟩ rfl rfl hl.1 rfl (lv_room (Nat.le_of_ble_eq_true rfl)) dX11_join_40 ⟨(Nat.le_of_ble_eq_true rfl), (Nat.le_of_ble_eq_true rfl)⟩) hS (fun q _ h => hFc q h) hFc (fun r_8 u t H_7 locs ht hvm hw hB hz1 hk1 hS => ?_)
  obtain ⟨hP1, hK1, hD1⟩ := hB
  rw [ht] at hP1
  have hK1 := va_K.moved hvm.symm hK1
  obtain ⟨hP, hD⟩ := va_join (wr := [(ga, .inr (5, [.ref g0, .ref g1, .int 0]))]) (w1 := [(xa, .inr (11, [.ref x0, .int 0, .ref x2, .int 0, .ref x4, .ref ga, .ref x6, .int x7, .ref x8, .int 1, .int (-1)]))]) hP hD [1] [0] rfl rfl (by decide) (by decide) hk1 hFc hP1 hD1
  have hP : va_P D vwCl [(ga, .inr (5, [.ref g0, .ref g1, .int 0])), (xa, .inr (11, [.ref x0, .int 0, .ref x2, .int 0, .ref x4, .ref ga, .ref x6, .int x7, .ref x8, .int 1, .int (-1)]))] H_7 := hP
  have hD : va_D A [(ga, .inr (5, [.ref g0, .ref g1, .int 0])), (xa, .inr (11, [.ref x0, .int 0, .ref x2, .int 0, .ref x4, .ref ga, .ref x6, .int x7, .ref x8, .int 1, .int (-1)]))] := hD
  subst hw
  exact W.iret (v := (-1)) hx hb hr (fun t ht hW => ⟨⟨(-1), (), rfl, rfl, trivial⟩, hS.F ht⟩) hS.2.2 dX11_join_43
set_option maxHeartbeats 4000000 in
set_option maxRecDepth 100000 in
theorem k_circle (l : Launch) (D : va_G) (sz : Nat) (xa : Nat) (x0 : Nat) (x1 : Int32) (x2 : Nat) (x3 : Int32) (x4 : Nat) (x6 : Nat) (x7 : Int32) (x8 : Nat) (x9 : Int32) (x10 : Int32) (ga : Nat) (g0 : Nat) (g1 : Nat) (k1 : Int32) : Met l yX11_circle (wsM yX11_circle cX11_circle 2 (some .int)) ({ frames := 1, cells := 0, slots := 0, locals := 21 }) (va_Pc [.ref xa, .int k1] (Pr D [(xa, .inr (11, [.ref x0, .int x1, .ref x2, .int x3, .ref x4, .ref ga, .ref x6, .int x7, .ref x8, .int x9, .int x10])), (ga, .inr (5, [.ref g0, .ref g1, .int 0]))] [] sz)) (va_Qi (fun (r : Int32) (_ : Unit) => r = (-1)) (fun _ _ => True) (va_A [(xa, .inr (11, [.ref x0, .int x1, .ref x2, .int x3, .ref x4, .ref ga, .ref x6, .int x7, .ref x8, .int x9, .int x10])), (ga, .inr (5, [.ref g0, .ref g1, .int 0]))] sz)) 0 0 (va_A [(xa, .inr (11, [.ref x0, .int x1, .ref x2, .int x3, .ref x4, .ref ga, .ref x6, .int x7, .ref x8, .int x9, .int x10])), (ga, .inr (5, [.ref g0, .ref g1, .int 0]))] sz) := by
  refine Met.ofW (cc := cX11_circle) (maxL := 2) (ret := (some .int)) (by decide) rfl ?_
  intro p e s m args below meth c s₁ B hml hv
  obtain ⟨rfl, hsz, hP, hK, hD0, hN⟩ := hv
  have hx := B.exec
  have hb := B.bytes
  have hr := B.returns
  have hts := atoms_spec (ws := (wsM yX11_circle cX11_circle 2 (some .int))) B.pre
  have hg : ∀ w ∈ lw_good, w.before _ s = true := fun w h => hts w (List.mem_cons_of_mem _ h)
  have hown : s.vm.findClass RX11 = some m.cls := findClass_of_methodNamed B.named
  have hlocks := B.notSynchronized
  subst hsz
  have hD := hD0.self (sz := s.heap.size)
  generalize hAe : va_A [(xa, .inr (11, [.ref x0, .int x1, .ref x2, .int x3, .ref x4, .ref ga, .ref x6, .int x7, .ref x8, .int x9, .int x10])), (ga, .inr (5, [.ref g0, .ref g1, .int 0]))] s.heap.size = A at hD ⊢
  have hA : ∀ q : Nat, s.heap.size ≤ q → A q := fun q h => by rw [← hAe]; exact Or.inr h
  have hS : va_S A s.heap s.heap [] := va_S.rf
  have hP : va_P D vwCl [(xa, .inr (11, [.ref x0, .int x1, .ref x2, .int x3, .ref x4, .ref ga, .ref x6, .int x7, .ref x8, .int x9, .int x10])), (ga, .inr (5, [.ref g0, .ref g1, .int 0]))] s.heap := hP
  have hl := lv_entry ([.ref xa, .int k1]) (n := 2) (Nat.le_of_ble_eq_true rfl)
  rw [lg_entry_eq]
  generalize (lg_sl ([.ref xa, .int k1]) ++ List.replicate (2 - (lg_sl ([.ref xa, .int k1])).length) Slot.unset).toArray = ls at hl ⊢
  have hl : lv_has ls 2 [(0, .ref xa), (1, .int k1)] := hl
  refine lv_aload_n hx hb dX11_circle_0 rfl (lv_at hl 0 rfl) ?_
  refine va_get (D := D) (ci := 11) (v := .ref ga) (C := RX11) (T := TX11) (N := 11) hx hb hg inG11 hown hK hP 0 rfl rfl 5 (by decide) (hg _ wd_26) (fun _ h9 => h9) rfl dX11_circle_1 ?_
  refine lv_iload_n hx hb dX11_circle_4 rfl (lv_at hl 1 rfl) ?_
  have hPc := hP.sub (ws' := [(ga, .inr (5, [.ref g0, .ref g1, .int 0]))]) [1] rfl
  have hDc := hD.sub (ws' := [(ga, .inr (5, [.ref g0, .ref g1, .int 0]))]) [1] (by decide) rfl
  have hKc := hK.sub (tys' := []) [] rfl
  have hFc := va_free (wc := [(ga, .inr (5, [.ref g0, .ref g1, .int 0]))]) hD hS hA [1] rfl
  refine va_calli (va_runV (As := [.int k1]) (rest := []) ⟨hx, hb, hml, hown, hg⟩ (k_houseAtStep0 l D s.heap.size ga g0 g1 k1) (cwV 1 hg (gV wd_32 wd_33 wd_34 wd_30 wd_35) rfl rfl rfl (by decide +kernel) ⟨(Nat.le_of_ble_eq_true rfl), (Nat.le_of_ble_eq_true rfl)⟩) ⟨Pr.blind, va_recv hKc hPc (ci := 5) (q0 := 0) rfl rfl, fun U hU hW => ⟨rfl, Pr.at hPc hKc hDc hN hU hW⟩⟩ rfl rfl hl.1 rfl (lv_room (Nat.le_of_ble_eq_true rfl)) dX11_circle_5 ⟨(Nat.le_of_ble_eq_true rfl), (Nat.le_of_ble_eq_true rfl)⟩) hS (fun q _ h => hFc q h) hFc (fun r_2 u t H_1 locs ht hvm hw hB hz1 hk1 hS => ?_)
  obtain ⟨hP, hD⟩ := forget_join (wr := [(xa, .inr (11, [.ref x0, .int x1, .ref x2, .int x3, .ref x4, .ref ga, .ref x6, .int x7, .ref x8, .int x9, .int x10]))]) hP hD [1] [0] rfl rfl (by decide) (by decide) hk1 hFc
  have hP : va_P D vwCl [(xa, .inr (11, [.ref x0, .int x1, .ref x2, .int x3, .ref x4, .ref ga, .ref x6, .int x7, .ref x8, .int x9, .int x10]))] H_1 := hP
  have hD : va_D A [(xa, .inr (11, [.ref x0, .int x1, .ref x2, .int x3, .ref x4, .ref ga, .ref x6, .int x7, .ref x8, .int x9, .int x10]))] := hD
  subst hw
  exact W.iret (v := (-1)) hx hb hr (fun t ht hW => ⟨⟨(-1), (), rfl, rfl, trivial⟩, hS.F ht⟩) hS.2.2 dX11_circle_8
set_option maxHeartbeats 4000000 in
set_option maxRecDepth 100000 in
theorem k_tenure (l : Launch) (D : va_G) (sz : Nat) (xa : Nat) (x0 : Nat) (x2 : Nat) (x4 : Nat) (x5 : Nat) (x6 : Nat) (x7 : Int32) (x8 : Nat) (x9 : Int32) (x10 : Int32) (k1 : Int32) (k2 : Int32) (k3 : Int32) : Met l yX11_tenure (wsM yX11_tenure cX11_tenure 6 (some .int)) ({ frames := 1, cells := 0, slots := 0, locals := 21 }) (va_Pc [.ref xa, .int k1, .int k2, .int k3] (Pr D [(xa, .inr (11, [.ref x0, .int 0, .ref x2, .int 0, .ref x4, .ref x5, .ref x6, .int x7, .ref x8, .int x9, .int x10]))] [] sz)) (va_Qi (fun (r : Int32) (_ : Unit) => r = (-1)) (fun _ _ => True) (va_A [(xa, .inr (11, [.ref x0, .int 0, .ref x2, .int 0, .ref x4, .ref x5, .ref x6, .int x7, .ref x8, .int x9, .int x10]))] sz)) 0 0 (va_A [(xa, .inr (11, [.ref x0, .int 0, .ref x2, .int 0, .ref x4, .ref x5, .ref x6, .int x7, .ref x8, .int x9, .int x10]))] sz) := by
  refine Met.ofW (cc := cX11_tenure) (maxL := 6) (ret := (some .int)) (by decide) rfl ?_
  intro p e s m args below meth c s₁ B hml hv
  obtain ⟨rfl, hsz, hP, hK, hD0, hN⟩ := hv
  have hx := B.exec
  have hb := B.bytes
  have hr := B.returns
  have hts := atoms_spec (ws := (wsM yX11_tenure cX11_tenure 6 (some .int))) B.pre
  have hg : ∀ w ∈ lw_good, w.before _ s = true := fun w h => hts w (List.mem_cons_of_mem _ h)
  have hown : s.vm.findClass RX11 = some m.cls := findClass_of_methodNamed B.named
  have hlocks := B.notSynchronized
  subst hsz
  have hD := hD0.self (sz := s.heap.size)
  generalize hAe : va_A [(xa, .inr (11, [.ref x0, .int 0, .ref x2, .int 0, .ref x4, .ref x5, .ref x6, .int x7, .ref x8, .int x9, .int x10]))] s.heap.size = A at hD ⊢
  have hA : ∀ q : Nat, s.heap.size ≤ q → A q := fun q h => by rw [← hAe]; exact Or.inr h
  have hS : va_S A s.heap s.heap [] := va_S.rf
  have hP : va_P D vwCl [(xa, .inr (11, [.ref x0, .int 0, .ref x2, .int 0, .ref x4, .ref x5, .ref x6, .int x7, .ref x8, .int x9, .int x10]))] s.heap := hP
  have hl := lv_entry ([.ref xa, .int k1, .int k2, .int k3]) (n := 6) (Nat.le_of_ble_eq_true rfl)
  rw [lg_entry_eq]
  generalize (lg_sl ([.ref xa, .int k1, .int k2, .int k3]) ++ List.replicate (6 - (lg_sl ([.ref xa, .int k1, .int k2, .int k3])).length) Slot.unset).toArray = ls at hl ⊢
  have hl : lv_has ls 6 [(0, .ref xa), (1, .int k1), (2, .int k2), (3, .int k3)] := hl
  refine lv_aload_n hx hb dX11_tenure_0 rfl (lv_at hl 0 rfl) ?_
  refine lv_iload_n hx hb dX11_tenure_1 rfl (lv_at hl 1 rfl) ?_
  have hPc := hP.sub (ws' := [(xa, .inr (11, [.ref x0, .int 0, .ref x2, .int 0, .ref x4, .ref x5, .ref x6, .int x7, .ref x8, .int x9, .int x10]))]) [0] rfl
  have hDc := hD.sub (ws' := [(xa, .inr (11, [.ref x0, .int 0, .ref x2, .int 0, .ref x4, .ref x5, .ref x6, .int x7, .ref x8, .int x9, .int x10]))]) [0] (by decide) rfl
  have hKc := hK.sub (tys' := []) [] rfl
  have hFc := va_free (wc := [(xa, .inr (11, [.ref x0, .int 0, .ref x2, .int 0, .ref x4, .ref x5, .ref x6, .int x7, .ref x8, .int x9, .int x10]))]) hD hS hA [0] rfl
  refine va_callq (va_runV (As := [.int k1]) (rest := []) ⟨hx, hb, hml, hown, hg⟩ (k_houseAt0 l D s.heap.size xa x0 x2 x4 x5 x6 x7 x8 x9 x10 k1) (cwV 1 hg (gV wd_10 wd_11 wd_12 wd_5 wd_13) rfl rfl rfl (by decide +kernel) ⟨(Nat.le_of_ble_eq_true rfl), (Nat.le_of_ble_eq_true rfl)⟩) ⟨Pr.blind, va_recv hKc hPc (ci := 11) (q0 := 0) rfl rfl, fun U hU hW => ⟨rfl, Pr.at hPc hKc hDc hN hU hW⟩⟩ rfl rfl hl.1 rfl (lv_room (Nat.le_of_ble_eq_true rfl)) dX11_tenure_2 ⟨(Nat.le_of_ble_eq_true rfl), (Nat.le_of_ble_eq_true rfl)⟩) hS (fun q _ h => hFc q h) hFc (fun r_2 u t H_1 locs ht hvm hw hB hz1 hk1 hS => ?_)
  obtain ⟨hP1, hK1, hD1⟩ := hB
  rw [ht] at hP1
  have hK1 := va_K.moved hvm.symm hK1
  obtain ⟨hP, hD⟩ := va_join (wr := []) (w1 := [(xa, .inr (11, [.ref x0, .int 0, .ref x2, .int 0, .ref x4, .ref x5, .ref x6, .int x7, .ref x8, .int x9, .int x10]))]) hP hD [0] [] rfl rfl (by decide) (by decide) hk1 hFc hP1 hD1
  have hP : va_P D vwCl [(xa, .inr (11, [.ref x0, .int 0, .ref x2, .int 0, .ref x4, .ref x5, .ref x6, .int x7, .ref x8, .int x9, .int x10]))] H_1 := hP
  have hD : va_D A [(xa, .inr (11, [.ref x0, .int 0, .ref x2, .int 0, .ref x4, .ref x5, .ref x6, .int x7, .ref x8, .int x9, .int x10]))] := hD
  subst hw
  refine lv_astoreN (lv' := [(4, .null), (0, .ref xa), (1, .int k1), (2, .int k2), (3, .int k3)]) hx hb dX11_tenure_5 hl (by decide) rfl (fun ls hl => ?_)
  refine lv_aloadN hx hb dX11_tenure_7 (lv_at hl 0 rfl) ?_
  refine lv_ifnonnullN hx hb dX11_tenure_9 ?_
  refine lv_null hx hb dX11_tenure_12 ?_
  refine lv_goto (tgt := 22) hx hb dX11_tenure_13 (by decide) ?_
  refine lv_astoreN (lv' := [(5, .null), (4, .null), (0, .ref xa), (1, .int k1), (2, .int k2), (3, .int k3)]) hx hb dX11_tenure_22 hl (by decide) rfl (fun ls hl => ?_)
  refine lv_aloadN hx hb dX11_tenure_24 (lv_at hl 0 rfl) ?_
  refine lv_ifnonnullN hx hb dX11_tenure_26 ?_
  refine lv_iconst (v := (-1)) hx hb dX11_tenure_29 (by decide) ?_
  refine lv_goto (tgt := 39) hx hb dX11_tenure_30 (by decide) ?_
  exact W.iret (v := (-1)) hx hb hr (fun t ht hW => ⟨⟨(-1), (), rfl, rfl, trivial⟩, hS.F ht⟩) hS.2.2 dX11_tenure_39
set_option maxHeartbeats 4000000 in
set_option maxRecDepth 100000 in
theorem k_who (l : Launch) (D : va_G) (sz : Nat) (xa : Nat) (x0 : Nat) (x2 : Nat) (x4 : Nat) (x5 : Nat) (x6 : Nat) (x7 : Int32) (x8 : Nat) (x9 : Int32) (x10 : Int32) (k1 : Int32) (k2 : Int32) (k3 : Int32) : Met l yX11_who (wsM yX11_who cX11_who 6 (some .int)) ({ frames := 1, cells := 0, slots := 0, locals := 21 }) (va_Pc [.ref xa, .int k1, .int k2, .int k3] (Pr D [(xa, .inr (11, [.ref x0, .int 0, .ref x2, .int 0, .ref x4, .ref x5, .ref x6, .int x7, .ref x8, .int x9, .int x10]))] [] sz)) (va_Qi (fun (r : Int32) (_ : Unit) => r = (-1)) (fun _ _ => True) (va_A [(xa, .inr (11, [.ref x0, .int 0, .ref x2, .int 0, .ref x4, .ref x5, .ref x6, .int x7, .ref x8, .int x9, .int x10]))] sz)) 0 0 (va_A [(xa, .inr (11, [.ref x0, .int 0, .ref x2, .int 0, .ref x4, .ref x5, .ref x6, .int x7, .ref x8, .int x9, .int x10]))] sz) := by
  refine Met.ofW (cc := cX11_who) (maxL := 6) (ret := (some .int)) (by decide) rfl ?_
  intro p e s m args below meth c s₁ B hml hv
  obtain ⟨rfl, hsz, hP, hK, hD0, hN⟩ := hv
  have hx := B.exec
  have hb := B.bytes
  have hr := B.returns
  have hts := atoms_spec (ws := (wsM yX11_who cX11_who 6 (some .int))) B.pre
  have hg : ∀ w ∈ lw_good, w.before _ s = true := fun w h => hts w (List.mem_cons_of_mem _ h)
  have hown : s.vm.findClass RX11 = some m.cls := findClass_of_methodNamed B.named
  have hlocks := B.notSynchronized
  subst hsz
  have hD := hD0.self (sz := s.heap.size)
  generalize hAe : va_A [(xa, .inr (11, [.ref x0, .int 0, .ref x2, .int 0, .ref x4, .ref x5, .ref x6, .int x7, .ref x8, .int x9, .int x10]))] s.heap.size = A at hD ⊢
  have hA : ∀ q : Nat, s.heap.size ≤ q → A q := fun q h => by rw [← hAe]; exact Or.inr h
  have hS : va_S A s.heap s.heap [] := va_S.rf
  have hP : va_P D vwCl [(xa, .inr (11, [.ref x0, .int 0, .ref x2, .int 0, .ref x4, .ref x5, .ref x6, .int x7, .ref x8, .int x9, .int x10]))] s.heap := hP
  have hl := lv_entry ([.ref xa, .int k1, .int k2, .int k3]) (n := 6) (Nat.le_of_ble_eq_true rfl)
  rw [lg_entry_eq]
  generalize (lg_sl ([.ref xa, .int k1, .int k2, .int k3]) ++ List.replicate (6 - (lg_sl ([.ref xa, .int k1, .int k2, .int k3])).length) Slot.unset).toArray = ls at hl ⊢
  have hl : lv_has ls 6 [(0, .ref xa), (1, .int k1), (2, .int k2), (3, .int k3)] := hl
  refine lv_aload_n hx hb dX11_who_0 rfl (lv_at hl 0 rfl) ?_
  refine lv_iload_n hx hb dX11_who_1 rfl (lv_at hl 1 rfl) ?_
  have hPc := hP.sub (ws' := [(xa, .inr (11, [.ref x0, .int 0, .ref x2, .int 0, .ref x4, .ref x5, .ref x6, .int x7, .ref x8, .int x9, .int x10]))]) [0] rfl
  have hDc := hD.sub (ws' := [(xa, .inr (11, [.ref x0, .int 0, .ref x2, .int 0, .ref x4, .ref x5, .ref x6, .int x7, .ref x8, .int x9, .int x10]))]) [0] (by decide) rfl
  have hKc := hK.sub (tys' := []) [] rfl
  have hFc := va_free (wc := [(xa, .inr (11, [.ref x0, .int 0, .ref x2, .int 0, .ref x4, .ref x5, .ref x6, .int x7, .ref x8, .int x9, .int x10]))]) hD hS hA [0] rfl
  refine va_callq (va_runV (As := [.int k1]) (rest := []) ⟨hx, hb, hml, hown, hg⟩ (k_houseAt0 l D s.heap.size xa x0 x2 x4 x5 x6 x7 x8 x9 x10 k1) (cwV 1 hg (gV wd_10 wd_11 wd_12 wd_5 wd_13) rfl rfl rfl (by decide +kernel) ⟨(Nat.le_of_ble_eq_true rfl), (Nat.le_of_ble_eq_true rfl)⟩) ⟨Pr.blind, va_recv hKc hPc (ci := 11) (q0 := 0) rfl rfl, fun U hU hW => ⟨rfl, Pr.at hPc hKc hDc hN hU hW⟩⟩ rfl rfl hl.1 rfl (lv_room (Nat.le_of_ble_eq_true rfl)) dX11_who_2 ⟨(Nat.le_of_ble_eq_true rfl), (Nat.le_of_ble_eq_true rfl)⟩) hS (fun q _ h => hFc q h) hFc (fun r_2 u t H_1 locs ht hvm hw hB hz1 hk1 hS => ?_)
  obtain ⟨hP1, hK1, hD1⟩ := hB
  rw [ht] at hP1
  have hK1 := va_K.moved hvm.symm hK1
  obtain ⟨hP, hD⟩ := va_join (wr := []) (w1 := [(xa, .inr (11, [.ref x0, .int 0, .ref x2, .int 0, .ref x4, .ref x5, .ref x6, .int x7, .ref x8, .int x9, .int x10]))]) hP hD [0] [] rfl rfl (by decide) (by decide) hk1 hFc hP1 hD1
  have hP : va_P D vwCl [(xa, .inr (11, [.ref x0, .int 0, .ref x2, .int 0, .ref x4, .ref x5, .ref x6, .int x7, .ref x8, .int x9, .int x10]))] H_1 := hP
  have hD : va_D A [(xa, .inr (11, [.ref x0, .int 0, .ref x2, .int 0, .ref x4, .ref x5, .ref x6, .int x7, .ref x8, .int x9, .int x10]))] := hD
  subst hw
  refine lv_astoreN (lv' := [(4, .null), (0, .ref xa), (1, .int k1), (2, .int k2), (3, .int k3)]) hx hb dX11_who_5 hl (by decide) rfl (fun ls hl => ?_)
  refine lv_aloadN hx hb dX11_who_7 (lv_at hl 0 rfl) ?_
  refine lv_ifnullN (tgt := 26) hx hb dX11_who_9 (by decide) ?_
  refine lv_iconst (v := (-1)) hx hb dX11_who_26 (by decide) ?_
  exact W.iret (v := (-1)) hx hb hr (fun t ht hW => ⟨⟨(-1), (), rfl, rfl, trivial⟩, hS.F ht⟩) hS.2.2 dX11_who_27
set_option maxHeartbeats 4000000 in
set_option maxRecDepth 100000 in
theorem k_told (l : Launch) (D : va_G) (sz : Nat) (xa : Nat) (x0 : Nat) (x2 : Nat) (x4 : Nat) (x5 : Nat) (x6 : Nat) (x7 : Int32) (x8 : Nat) (x9 : Int32) (x10 : Int32) (k1 : Int32) (k2 : Int32) : Met l yX11_told (wsM yX11_told cX11_told 4 (some .int)) ({ frames := 1, cells := 0, slots := 0, locals := 21 }) (va_Pc [.ref xa, .int k1, .int k2] (Pr D [(xa, .inr (11, [.ref x0, .int 0, .ref x2, .int 0, .ref x4, .ref x5, .ref x6, .int x7, .ref x8, .int x9, .int x10]))] [] sz)) (va_Qi (fun (r : Int32) (_ : Unit) => r = (-1)) (fun _ _ => True) (va_A [(xa, .inr (11, [.ref x0, .int 0, .ref x2, .int 0, .ref x4, .ref x5, .ref x6, .int x7, .ref x8, .int x9, .int x10]))] sz)) 0 0 (va_A [(xa, .inr (11, [.ref x0, .int 0, .ref x2, .int 0, .ref x4, .ref x5, .ref x6, .int x7, .ref x8, .int x9, .int x10]))] sz) := by
  refine Met.ofW (cc := cX11_told) (maxL := 4) (ret := (some .int)) (by decide) rfl ?_
  intro p e s m args below meth c s₁ B hml hv
  obtain ⟨rfl, hsz, hP, hK, hD0, hN⟩ := hv
  have hx := B.exec
  have hb := B.bytes
  have hr := B.returns
  have hts := atoms_spec (ws := (wsM yX11_told cX11_told 4 (some .int))) B.pre
  have hg : ∀ w ∈ lw_good, w.before _ s = true := fun w h => hts w (List.mem_cons_of_mem _ h)
  have hown : s.vm.findClass RX11 = some m.cls := findClass_of_methodNamed B.named
  have hlocks := B.notSynchronized
  subst hsz
  have hD := hD0.self (sz := s.heap.size)
  generalize hAe : va_A [(xa, .inr (11, [.ref x0, .int 0, .ref x2, .int 0, .ref x4, .ref x5, .ref x6, .int x7, .ref x8, .int x9, .int x10]))] s.heap.size = A at hD ⊢
  have hA : ∀ q : Nat, s.heap.size ≤ q → A q := fun q h => by rw [← hAe]; exact Or.inr h
  have hS : va_S A s.heap s.heap [] := va_S.rf
  have hP : va_P D vwCl [(xa, .inr (11, [.ref x0, .int 0, .ref x2, .int 0, .ref x4, .ref x5, .ref x6, .int x7, .ref x8, .int x9, .int x10]))] s.heap := hP
  have hl := lv_entry ([.ref xa, .int k1, .int k2]) (n := 4) (Nat.le_of_ble_eq_true rfl)
  rw [lg_entry_eq]
  generalize (lg_sl ([.ref xa, .int k1, .int k2]) ++ List.replicate (4 - (lg_sl ([.ref xa, .int k1, .int k2])).length) Slot.unset).toArray = ls at hl ⊢
  have hl : lv_has ls 4 [(0, .ref xa), (1, .int k1), (2, .int k2)] := hl
  refine lv_aload_n hx hb dX11_told_0 rfl (lv_at hl 0 rfl) ?_
  refine lv_iload_n hx hb dX11_told_1 rfl (lv_at hl 1 rfl) ?_
  have hPc := hP.sub (ws' := [(xa, .inr (11, [.ref x0, .int 0, .ref x2, .int 0, .ref x4, .ref x5, .ref x6, .int x7, .ref x8, .int x9, .int x10]))]) [0] rfl
  have hDc := hD.sub (ws' := [(xa, .inr (11, [.ref x0, .int 0, .ref x2, .int 0, .ref x4, .ref x5, .ref x6, .int x7, .ref x8, .int x9, .int x10]))]) [0] (by decide) rfl
  have hKc := hK.sub (tys' := []) [] rfl
  have hFc := va_free (wc := [(xa, .inr (11, [.ref x0, .int 0, .ref x2, .int 0, .ref x4, .ref x5, .ref x6, .int x7, .ref x8, .int x9, .int x10]))]) hD hS hA [0] rfl
  refine va_callq (va_runV (As := [.int k1]) (rest := []) ⟨hx, hb, hml, hown, hg⟩ (k_houseAt0 l D s.heap.size xa x0 x2 x4 x5 x6 x7 x8 x9 x10 k1) (cwV 1 hg (gV wd_10 wd_11 wd_12 wd_5 wd_13) rfl rfl rfl (by decide +kernel) ⟨(Nat.le_of_ble_eq_true rfl), (Nat.le_of_ble_eq_true rfl)⟩) ⟨Pr.blind, va_recv hKc hPc (ci := 11) (q0 := 0) rfl rfl, fun U hU hW => ⟨rfl, Pr.at hPc hKc hDc hN hU hW⟩⟩ rfl rfl hl.1 rfl (lv_room (Nat.le_of_ble_eq_true rfl)) dX11_told_2 ⟨(Nat.le_of_ble_eq_true rfl), (Nat.le_of_ble_eq_true rfl)⟩) hS (fun q _ h => hFc q h) hFc (fun r_2 u t H_1 locs ht hvm hw hB hz1 hk1 hS => ?_)
  obtain ⟨hP1, hK1, hD1⟩ := hB
  rw [ht] at hP1
  have hK1 := va_K.moved hvm.symm hK1
  obtain ⟨hP, hD⟩ := va_join (wr := []) (w1 := [(xa, .inr (11, [.ref x0, .int 0, .ref x2, .int 0, .ref x4, .ref x5, .ref x6, .int x7, .ref x8, .int x9, .int x10]))]) hP hD [0] [] rfl rfl (by decide) (by decide) hk1 hFc hP1 hD1
  have hP : va_P D vwCl [(xa, .inr (11, [.ref x0, .int 0, .ref x2, .int 0, .ref x4, .ref x5, .ref x6, .int x7, .ref x8, .int x9, .int x10]))] H_1 := hP
  have hD : va_D A [(xa, .inr (11, [.ref x0, .int 0, .ref x2, .int 0, .ref x4, .ref x5, .ref x6, .int x7, .ref x8, .int x9, .int x10]))] := hD
  subst hw
  refine lv_astore_nN (lv' := [(3, .null), (0, .ref xa), (1, .int k1), (2, .int k2)]) hx hb dX11_told_5 rfl hl (by decide) rfl (fun ls hl => ?_)
  refine lv_aload_nN hx hb dX11_told_6 rfl (lv_at hl 0 rfl) ?_
  refine lv_ifnonnullN hx hb dX11_told_7 ?_
  refine lv_iconst (v := (-1)) hx hb dX11_told_10 (by decide) ?_
  refine lv_goto (tgt := 19) hx hb dX11_told_11 (by decide) ?_
  exact W.iret (v := (-1)) hx hb hr (fun t ht hW => ⟨⟨(-1), (), rfl, rfl, trivial⟩, hS.F ht⟩) hS.2.2 dX11_told_19
set_option maxHeartbeats 4000000 in
set_option maxRecDepth 100000 in
theorem k_account (l : Launch) (D : va_G) (sz : Nat) (xa : Nat) (x0 : Nat) (x2 : Nat) (x4 : Nat) (x5 : Nat) (x6 : Nat) (x7 : Int32) (x8 : Nat) (x9 : Int32) (x10 : Int32) (k1 : Int32) (k2 : Int32) (k3 : Int32) : Met l yX11_account (wsM yX11_account cX11_account 6 (some .long)) ({ frames := 1, cells := 0, slots := 0, locals := 21 }) (va_Pc [.ref xa, .int k1, .int k2, .int k3] (Pr D [(xa, .inr (11, [.ref x0, .int 0, .ref x2, .int 0, .ref x4, .ref x5, .ref x6, .int x7, .ref x8, .int x9, .int x10]))] [] sz)) (va_Ql (fun (r : Int64) (_ : Unit) => r = 0) (fun _ _ => True) (va_A [(xa, .inr (11, [.ref x0, .int 0, .ref x2, .int 0, .ref x4, .ref x5, .ref x6, .int x7, .ref x8, .int x9, .int x10]))] sz)) 0 0 (va_A [(xa, .inr (11, [.ref x0, .int 0, .ref x2, .int 0, .ref x4, .ref x5, .ref x6, .int x7, .ref x8, .int x9, .int x10]))] sz) := by
  refine Met.ofW (cc := cX11_account) (maxL := 6) (ret := (some .long)) (by decide) rfl ?_
  intro p e s m args below meth c s₁ B hml hv
  obtain ⟨rfl, hsz, hP, hK, hD0, hN⟩ := hv
  have hx := B.exec
  have hb := B.bytes
  have hr := B.returns
  have hts := atoms_spec (ws := (wsM yX11_account cX11_account 6 (some .long))) B.pre
  have hg : ∀ w ∈ lw_good, w.before _ s = true := fun w h => hts w (List.mem_cons_of_mem _ h)
  have hown : s.vm.findClass RX11 = some m.cls := findClass_of_methodNamed B.named
  have hlocks := B.notSynchronized
  subst hsz
  have hD := hD0.self (sz := s.heap.size)
  generalize hAe : va_A [(xa, .inr (11, [.ref x0, .int 0, .ref x2, .int 0, .ref x4, .ref x5, .ref x6, .int x7, .ref x8, .int x9, .int x10]))] s.heap.size = A at hD ⊢
  have hA : ∀ q : Nat, s.heap.size ≤ q → A q := fun q h => by rw [← hAe]; exact Or.inr h
  have hS : va_S A s.heap s.heap [] := va_S.rf
  have hP : va_P D vwCl [(xa, .inr (11, [.ref x0, .int 0, .ref x2, .int 0, .ref x4, .ref x5, .ref x6, .int x7, .ref x8, .int x9, .int x10]))] s.heap := hP
  have hl := lv_entry ([.ref xa, .int k1, .int k2, .int k3]) (n := 6) (Nat.le_of_ble_eq_true rfl)
  rw [lg_entry_eq]
  generalize (lg_sl ([.ref xa, .int k1, .int k2, .int k3]) ++ List.replicate (6 - (lg_sl ([.ref xa, .int k1, .int k2, .int k3])).length) Slot.unset).toArray = ls at hl ⊢
  have hl : lv_has ls 6 [(0, .ref xa), (1, .int k1), (2, .int k2), (3, .int k3)] := hl
  refine lv_aload_n hx hb dX11_account_0 rfl (lv_at hl 0 rfl) ?_
  refine lv_iload_n hx hb dX11_account_1 rfl (lv_at hl 1 rfl) ?_
  have hPc := hP.sub (ws' := [(xa, .inr (11, [.ref x0, .int 0, .ref x2, .int 0, .ref x4, .ref x5, .ref x6, .int x7, .ref x8, .int x9, .int x10]))]) [0] rfl
  have hDc := hD.sub (ws' := [(xa, .inr (11, [.ref x0, .int 0, .ref x2, .int 0, .ref x4, .ref x5, .ref x6, .int x7, .ref x8, .int x9, .int x10]))]) [0] (by decide) rfl
  have hKc := hK.sub (tys' := []) [] rfl
  have hFc := va_free (wc := [(xa, .inr (11, [.ref x0, .int 0, .ref x2, .int 0, .ref x4, .ref x5, .ref x6, .int x7, .ref x8, .int x9, .int x10]))]) hD hS hA [0] rfl
  refine va_callq (va_runV (As := [.int k1]) (rest := []) ⟨hx, hb, hml, hown, hg⟩ (k_houseAt0 l D s.heap.size xa x0 x2 x4 x5 x6 x7 x8 x9 x10 k1) (cwV 1 hg (gV wd_10 wd_11 wd_12 wd_5 wd_13) rfl rfl rfl (by decide +kernel) ⟨(Nat.le_of_ble_eq_true rfl), (Nat.le_of_ble_eq_true rfl)⟩) ⟨Pr.blind, va_recv hKc hPc (ci := 11) (q0 := 0) rfl rfl, fun U hU hW => ⟨rfl, Pr.at hPc hKc hDc hN hU hW⟩⟩ rfl rfl hl.1 rfl (lv_room (Nat.le_of_ble_eq_true rfl)) dX11_account_2 ⟨(Nat.le_of_ble_eq_true rfl), (Nat.le_of_ble_eq_true rfl)⟩) hS (fun q _ h => hFc q h) hFc (fun r_2 u t H_1 locs ht hvm hw hB hz1 hk1 hS => ?_)
  obtain ⟨hP1, hK1, hD1⟩ := hB
  rw [ht] at hP1
  have hK1 := va_K.moved hvm.symm hK1
  obtain ⟨hP, hD⟩ := va_join (wr := []) (w1 := [(xa, .inr (11, [.ref x0, .int 0, .ref x2, .int 0, .ref x4, .ref x5, .ref x6, .int x7, .ref x8, .int x9, .int x10]))]) hP hD [0] [] rfl rfl (by decide) (by decide) hk1 hFc hP1 hD1
  have hP : va_P D vwCl [(xa, .inr (11, [.ref x0, .int 0, .ref x2, .int 0, .ref x4, .ref x5, .ref x6, .int x7, .ref x8, .int x9, .int x10]))] H_1 := hP
  have hD : va_D A [(xa, .inr (11, [.ref x0, .int 0, .ref x2, .int 0, .ref x4, .ref x5, .ref x6, .int x7, .ref x8, .int x9, .int x10]))] := hD
  subst hw
  refine lv_astoreN (lv' := [(4, .null), (0, .ref xa), (1, .int k1), (2, .int k2), (3, .int k3)]) hx hb dX11_account_5 hl (by decide) rfl (fun ls hl => ?_)
  refine lv_aloadN hx hb dX11_account_7 (lv_at hl 0 rfl) ?_
  refine lv_ifnonnullN hx hb dX11_account_9 ?_
  refine lv_null hx hb dX11_account_12 ?_
  refine lv_goto (tgt := 22) hx hb dX11_account_13 (by decide) ?_
  refine lv_astoreN (lv' := [(5, .null), (4, .null), (0, .ref xa), (1, .int k1), (2, .int k2), (3, .int k3)]) hx hb dX11_account_22 hl (by decide) rfl (fun ls hl => ?_)
  refine lv_aloadN hx hb dX11_account_24 (lv_at hl 0 rfl) ?_
  refine lv_ifnonnullN hx hb dX11_account_26 ?_
  refine lv_lconst (v := 0) hx hb dX11_account_29 (by decide) ?_
  refine lv_goto (tgt := 39) hx hb dX11_account_30 (by decide) ?_
  exact W.lret (v := 0) hx hb hr (fun t ht hW => ⟨⟨0, (), rfl, rfl, trivial⟩, hS.F ht⟩) hS.2.2 dX11_account_39
set_option maxHeartbeats 4000000 in
set_option maxRecDepth 100000 in
theorem k_stretch (l : Launch) (D : va_G) (sz : Nat) (xa : Nat) (x0 : Nat) (x2 : Nat) (x4 : Nat) (x5 : Nat) (x6 : Nat) (x7 : Int32) (x8 : Nat) (x9 : Int32) (x10 : Int32) (k1 : Int32) (k2 : Int32) (k3 : Int32) : Met l yX11_stretch (wsM yX11_stretch cX11_stretch 6 (some .long)) ({ frames := 1, cells := 0, slots := 0, locals := 21 }) (va_Pc [.ref xa, .int k1, .int k2, .int k3] (Pr D [(xa, .inr (11, [.ref x0, .int 0, .ref x2, .int 0, .ref x4, .ref x5, .ref x6, .int x7, .ref x8, .int x9, .int x10]))] [] sz)) (va_Ql (fun (r : Int64) (_ : Unit) => r = 0) (fun _ _ => True) (va_A [(xa, .inr (11, [.ref x0, .int 0, .ref x2, .int 0, .ref x4, .ref x5, .ref x6, .int x7, .ref x8, .int x9, .int x10]))] sz)) 0 0 (va_A [(xa, .inr (11, [.ref x0, .int 0, .ref x2, .int 0, .ref x4, .ref x5, .ref x6, .int x7, .ref x8, .int x9, .int x10]))] sz) := by
  refine Met.ofW (cc := cX11_stretch) (maxL := 6) (ret := (some .long)) (by decide) rfl ?_
  intro p e s m args below meth c s₁ B hml hv
  obtain ⟨rfl, hsz, hP, hK, hD0, hN⟩ := hv
  have hx := B.exec
  have hb := B.bytes
  have hr := B.returns
  have hts := atoms_spec (ws := (wsM yX11_stretch cX11_stretch 6 (some .long))) B.pre
  have hg : ∀ w ∈ lw_good, w.before _ s = true := fun w h => hts w (List.mem_cons_of_mem _ h)
  have hown : s.vm.findClass RX11 = some m.cls := findClass_of_methodNamed B.named
  have hlocks := B.notSynchronized
  subst hsz
  have hD := hD0.self (sz := s.heap.size)
  generalize hAe : va_A [(xa, .inr (11, [.ref x0, .int 0, .ref x2, .int 0, .ref x4, .ref x5, .ref x6, .int x7, .ref x8, .int x9, .int x10]))] s.heap.size = A at hD ⊢
  have hA : ∀ q : Nat, s.heap.size ≤ q → A q := fun q h => by rw [← hAe]; exact Or.inr h
  have hS : va_S A s.heap s.heap [] := va_S.rf
  have hP : va_P D vwCl [(xa, .inr (11, [.ref x0, .int 0, .ref x2, .int 0, .ref x4, .ref x5, .ref x6, .int x7, .ref x8, .int x9, .int x10]))] s.heap := hP
  have hl := lv_entry ([.ref xa, .int k1, .int k2, .int k3]) (n := 6) (Nat.le_of_ble_eq_true rfl)
  rw [lg_entry_eq]
  generalize (lg_sl ([.ref xa, .int k1, .int k2, .int k3]) ++ List.replicate (6 - (lg_sl ([.ref xa, .int k1, .int k2, .int k3])).length) Slot.unset).toArray = ls at hl ⊢
  have hl : lv_has ls 6 [(0, .ref xa), (1, .int k1), (2, .int k2), (3, .int k3)] := hl
  refine lv_aload_n hx hb dX11_stretch_0 rfl (lv_at hl 0 rfl) ?_
  refine lv_iload_n hx hb dX11_stretch_1 rfl (lv_at hl 1 rfl) ?_
  have hPc := hP.sub (ws' := [(xa, .inr (11, [.ref x0, .int 0, .ref x2, .int 0, .ref x4, .ref x5, .ref x6, .int x7, .ref x8, .int x9, .int x10]))]) [0] rfl
  have hDc := hD.sub (ws' := [(xa, .inr (11, [.ref x0, .int 0, .ref x2, .int 0, .ref x4, .ref x5, .ref x6, .int x7, .ref x8, .int x9, .int x10]))]) [0] (by decide) rfl
  have hKc := hK.sub (tys' := []) [] rfl
  have hFc := va_free (wc := [(xa, .inr (11, [.ref x0, .int 0, .ref x2, .int 0, .ref x4, .ref x5, .ref x6, .int x7, .ref x8, .int x9, .int x10]))]) hD hS hA [0] rfl
  refine va_callq (va_runV (As := [.int k1]) (rest := []) ⟨hx, hb, hml, hown, hg⟩ (k_houseAt0 l D s.heap.size xa x0 x2 x4 x5 x6 x7 x8 x9 x10 k1) (cwV 1 hg (gV wd_10 wd_11 wd_12 wd_5 wd_13) rfl rfl rfl (by decide +kernel) ⟨(Nat.le_of_ble_eq_true rfl), (Nat.le_of_ble_eq_true rfl)⟩) ⟨Pr.blind, va_recv hKc hPc (ci := 11) (q0 := 0) rfl rfl, fun U hU hW => ⟨rfl, Pr.at hPc hKc hDc hN hU hW⟩⟩ rfl rfl hl.1 rfl (lv_room (Nat.le_of_ble_eq_true rfl)) dX11_stretch_2 ⟨(Nat.le_of_ble_eq_true rfl), (Nat.le_of_ble_eq_true rfl)⟩) hS (fun q _ h => hFc q h) hFc (fun r_2 u t H_1 locs ht hvm hw hB hz1 hk1 hS => ?_)
  obtain ⟨hP1, hK1, hD1⟩ := hB
  rw [ht] at hP1
  have hK1 := va_K.moved hvm.symm hK1
  obtain ⟨hP, hD⟩ := va_join (wr := []) (w1 := [(xa, .inr (11, [.ref x0, .int 0, .ref x2, .int 0, .ref x4, .ref x5, .ref x6, .int x7, .ref x8, .int x9, .int x10]))]) hP hD [0] [] rfl rfl (by decide) (by decide) hk1 hFc hP1 hD1
  have hP : va_P D vwCl [(xa, .inr (11, [.ref x0, .int 0, .ref x2, .int 0, .ref x4, .ref x5, .ref x6, .int x7, .ref x8, .int x9, .int x10]))] H_1 := hP
  have hD : va_D A [(xa, .inr (11, [.ref x0, .int 0, .ref x2, .int 0, .ref x4, .ref x5, .ref x6, .int x7, .ref x8, .int x9, .int x10]))] := hD
  subst hw
  refine lv_astoreN (lv' := [(4, .null), (0, .ref xa), (1, .int k1), (2, .int k2), (3, .int k3)]) hx hb dX11_stretch_5 hl (by decide) rfl (fun ls hl => ?_)
  refine lv_aloadN hx hb dX11_stretch_7 (lv_at hl 0 rfl) ?_
  refine lv_ifnonnullN hx hb dX11_stretch_9 ?_
  refine lv_null hx hb dX11_stretch_12 ?_
  refine lv_goto (tgt := 25) hx hb dX11_stretch_13 (by decide) ?_
  refine lv_astoreN (lv' := [(5, .null), (4, .null), (0, .ref xa), (1, .int k1), (2, .int k2), (3, .int k3)]) hx hb dX11_stretch_25 hl (by decide) rfl (fun ls hl => ?_)
  refine lv_aloadN hx hb dX11_stretch_27 (lv_at hl 0 rfl) ?_
  refine lv_ifnonnullN hx hb dX11_stretch_29 ?_
  refine lv_lconst (v := 0) hx hb dX11_stretch_32 (by decide) ?_
  refine lv_goto (tgt := 42) hx hb dX11_stretch_33 (by decide) ?_
  exact W.lret (v := 0) hx hb hr (fun t ht hW => ⟨⟨0, (), rfl, rfl, trivial⟩, hS.F ht⟩) hS.2.2 dX11_stretch_42
set_option maxHeartbeats 4000000 in
set_option maxRecDepth 100000 in
theorem k_due (l : Launch) (D : va_G) (sz : Nat) (xa : Nat) (x0 : Nat) (x2 : Nat) (x4 : Nat) (x5 : Nat) (x6 : Nat) (x7 : Int32) (x8 : Nat) (x9 : Int32) (x10 : Int32) (k1 : Int32) (k2 : Int32) (k3 : Int32) : Met l yX11_due (wsM yX11_due cX11_due 7 (some .long)) ({ frames := 1, cells := 0, slots := 0, locals := 21 }) (va_Pc [.ref xa, .int k1, .int k2, .int k3] (Pr D [(xa, .inr (11, [.ref x0, .int 0, .ref x2, .int 0, .ref x4, .ref x5, .ref x6, .int x7, .ref x8, .int x9, .int x10]))] [] sz)) (va_Ql (fun (r : Int64) (_ : Unit) => r = 0) (fun _ _ => True) (va_A [(xa, .inr (11, [.ref x0, .int 0, .ref x2, .int 0, .ref x4, .ref x5, .ref x6, .int x7, .ref x8, .int x9, .int x10]))] sz)) 0 0 (va_A [(xa, .inr (11, [.ref x0, .int 0, .ref x2, .int 0, .ref x4, .ref x5, .ref x6, .int x7, .ref x8, .int x9, .int x10]))] sz) := by
  refine Met.ofW (cc := cX11_due) (maxL := 7) (ret := (some .long)) (by decide) rfl ?_
  intro p e s m args below meth c s₁ B hml hv
  obtain ⟨rfl, hsz, hP, hK, hD0, hN⟩ := hv
  have hx := B.exec
  have hb := B.bytes
  have hr := B.returns
  have hts := atoms_spec (ws := (wsM yX11_due cX11_due 7 (some .long))) B.pre
  have hg : ∀ w ∈ lw_good, w.before _ s = true := fun w h => hts w (List.mem_cons_of_mem _ h)
  have hown : s.vm.findClass RX11 = some m.cls := findClass_of_methodNamed B.named
  have hlocks := B.notSynchronized
  subst hsz
  have hD := hD0.self (sz := s.heap.size)
  generalize hAe : va_A [(xa, .inr (11, [.ref x0, .int 0, .ref x2, .int 0, .ref x4, .ref x5, .ref x6, .int x7, .ref x8, .int x9, .int x10]))] s.heap.size = A at hD ⊢
  have hA : ∀ q : Nat, s.heap.size ≤ q → A q := fun q h => by rw [← hAe]; exact Or.inr h
  have hS : va_S A s.heap s.heap [] := va_S.rf
  have hP : va_P D vwCl [(xa, .inr (11, [.ref x0, .int 0, .ref x2, .int 0, .ref x4, .ref x5, .ref x6, .int x7, .ref x8, .int x9, .int x10]))] s.heap := hP
  have hl := lv_entry ([.ref xa, .int k1, .int k2, .int k3]) (n := 7) (Nat.le_of_ble_eq_true rfl)
  rw [lg_entry_eq]
  generalize (lg_sl ([.ref xa, .int k1, .int k2, .int k3]) ++ List.replicate (7 - (lg_sl ([.ref xa, .int k1, .int k2, .int k3])).length) Slot.unset).toArray = ls at hl ⊢
  have hl : lv_has ls 7 [(0, .ref xa), (1, .int k1), (2, .int k2), (3, .int k3)] := hl
  refine lv_aload_n hx hb dX11_due_0 rfl (lv_at hl 0 rfl) ?_
  refine lv_iload_n hx hb dX11_due_1 rfl (lv_at hl 1 rfl) ?_
  have hPc := hP.sub (ws' := [(xa, .inr (11, [.ref x0, .int 0, .ref x2, .int 0, .ref x4, .ref x5, .ref x6, .int x7, .ref x8, .int x9, .int x10]))]) [0] rfl
  have hDc := hD.sub (ws' := [(xa, .inr (11, [.ref x0, .int 0, .ref x2, .int 0, .ref x4, .ref x5, .ref x6, .int x7, .ref x8, .int x9, .int x10]))]) [0] (by decide) rfl
  have hKc := hK.sub (tys' := []) [] rfl
  have hFc := va_free (wc := [(xa, .inr (11, [.ref x0, .int 0, .ref x2, .int 0, .ref x4, .ref x5, .ref x6, .int x7, .ref x8, .int x9, .int x10]))]) hD hS hA [0] rfl
  refine va_callq (va_runV (As := [.int k1]) (rest := []) ⟨hx, hb, hml, hown, hg⟩ (k_houseAt0 l D s.heap.size xa x0 x2 x4 x5 x6 x7 x8 x9 x10 k1) (cwV 1 hg (gV wd_10 wd_11 wd_12 wd_5 wd_13) rfl rfl rfl (by decide +kernel) ⟨(Nat.le_of_ble_eq_true rfl), (Nat.le_of_ble_eq_true rfl)⟩) ⟨Pr.blind, va_recv hKc hPc (ci := 11) (q0 := 0) rfl rfl, fun U hU hW => ⟨rfl, Pr.at hPc hKc hDc hN hU hW⟩⟩ rfl rfl hl.1 rfl (lv_room (Nat.le_of_ble_eq_true rfl)) dX11_due_2 ⟨(Nat.le_of_ble_eq_true rfl), (Nat.le_of_ble_eq_true rfl)⟩) hS (fun q _ h => hFc q h) hFc (fun r_2 u t H_1 locs ht hvm hw hB hz1 hk1 hS => ?_)
  obtain ⟨hP1, hK1, hD1⟩ := hB
  rw [ht] at hP1
  have hK1 := va_K.moved hvm.symm hK1
  obtain ⟨hP, hD⟩ := va_join (wr := []) (w1 := [(xa, .inr (11, [.ref x0, .int 0, .ref x2, .int 0, .ref x4, .ref x5, .ref x6, .int x7, .ref x8, .int x9, .int x10]))]) hP hD [0] [] rfl rfl (by decide) (by decide) hk1 hFc hP1 hD1
  have hP : va_P D vwCl [(xa, .inr (11, [.ref x0, .int 0, .ref x2, .int 0, .ref x4, .ref x5, .ref x6, .int x7, .ref x8, .int x9, .int x10]))] H_1 := hP
  have hD : va_D A [(xa, .inr (11, [.ref x0, .int 0, .ref x2, .int 0, .ref x4, .ref x5, .ref x6, .int x7, .ref x8, .int x9, .int x10]))] := hD
  subst hw
  refine lv_astoreN (lv' := [(4, .null), (0, .ref xa), (1, .int k1), (2, .int k2), (3, .int k3)]) hx hb dX11_due_5 hl (by decide) rfl (fun ls hl => ?_)
  refine lv_aloadN hx hb dX11_due_7 (lv_at hl 0 rfl) ?_
  refine lv_ifnonnullN hx hb dX11_due_9 ?_
  refine lv_null hx hb dX11_due_12 ?_
  refine lv_goto (tgt := 25) hx hb dX11_due_13 (by decide) ?_
  refine lv_astoreN (lv' := [(5, .null), (4, .null), (0, .ref xa), (1, .int k1), (2, .int k2), (3, .int k3)]) hx hb dX11_due_25 hl (by decide) rfl (fun ls hl => ?_)
  refine lv_aloadN hx hb dX11_due_27 (lv_at hl 1 rfl) ?_
  refine lv_ifnonnullN hx hb dX11_due_29 ?_
  refine lv_null hx hb dX11_due_32 ?_
  refine lv_goto (tgt := 42) hx hb dX11_due_33 (by decide) ?_
  refine lv_astoreN (lv' := [(6, .null), (5, .null), (4, .null), (0, .ref xa), (1, .int k1), (2, .int k2), (3, .int k3)]) hx hb dX11_due_42 hl (by decide) rfl (fun ls hl => ?_)
  refine lv_aloadN hx hb dX11_due_44 (lv_at hl 1 rfl) ?_
  refine lv_ifnullN (tgt := 54) hx hb dX11_due_46 (by decide) ?_
  refine lv_lconst (v := 0) hx hb dX11_due_54 (by decide) ?_
  refine lv_goto (tgt := 65) hx hb dX11_due_55 (by decide) ?_
  exact W.lret (v := 0) hx hb hr (fun t ht hW => ⟨⟨0, (), rfl, rfl, trivial⟩, hS.F ht⟩) hS.2.2 dX11_due_65
set_option maxHeartbeats 4000000 in
set_option maxRecDepth 100000 in
theorem k_sum (l : Launch) (D : va_G) (sz : Nat) (xa : Nat) (x0 : Nat) (x2 : Nat) (x4 : Nat) (x5 : Nat) (x6 : Nat) (x7 : Int32) (x8 : Nat) (x9 : Int32) (x10 : Int32) (k1 : Int32) (k2 : Int32) (k3 : Int32) : Met l yX11_sum (wsM yX11_sum cX11_sum 5 (some .long)) ({ frames := 1, cells := 0, slots := 0, locals := 21 }) (va_Pc [.ref xa, .int k1, .int k2, .int k3] (Pr D [(xa, .inr (11, [.ref x0, .int 0, .ref x2, .int 0, .ref x4, .ref x5, .ref x6, .int x7, .ref x8, .int x9, .int x10]))] [] sz)) (va_Ql (fun (r : Int64) (_ : Unit) => r = 0) (fun _ _ => True) (va_A [(xa, .inr (11, [.ref x0, .int 0, .ref x2, .int 0, .ref x4, .ref x5, .ref x6, .int x7, .ref x8, .int x9, .int x10]))] sz)) 0 0 (va_A [(xa, .inr (11, [.ref x0, .int 0, .ref x2, .int 0, .ref x4, .ref x5, .ref x6, .int x7, .ref x8, .int x9, .int x10]))] sz) := by
  refine Met.ofW (cc := cX11_sum) (maxL := 5) (ret := (some .long)) (by decide) rfl ?_
  intro p e s m args below meth c s₁ B hml hv
  obtain ⟨rfl, hsz, hP, hK, hD0, hN⟩ := hv
  have hx := B.exec
  have hb := B.bytes
  have hr := B.returns
  have hts := atoms_spec (ws := (wsM yX11_sum cX11_sum 5 (some .long))) B.pre
  have hg : ∀ w ∈ lw_good, w.before _ s = true := fun w h => hts w (List.mem_cons_of_mem _ h)
  have hown : s.vm.findClass RX11 = some m.cls := findClass_of_methodNamed B.named
  have hlocks := B.notSynchronized
  subst hsz
  have hD := hD0.self (sz := s.heap.size)
  generalize hAe : va_A [(xa, .inr (11, [.ref x0, .int 0, .ref x2, .int 0, .ref x4, .ref x5, .ref x6, .int x7, .ref x8, .int x9, .int x10]))] s.heap.size = A at hD ⊢
  have hA : ∀ q : Nat, s.heap.size ≤ q → A q := fun q h => by rw [← hAe]; exact Or.inr h
  have hS : va_S A s.heap s.heap [] := va_S.rf
  have hP : va_P D vwCl [(xa, .inr (11, [.ref x0, .int 0, .ref x2, .int 0, .ref x4, .ref x5, .ref x6, .int x7, .ref x8, .int x9, .int x10]))] s.heap := hP
  have hl := lv_entry ([.ref xa, .int k1, .int k2, .int k3]) (n := 5) (Nat.le_of_ble_eq_true rfl)
  rw [lg_entry_eq]
  generalize (lg_sl ([.ref xa, .int k1, .int k2, .int k3]) ++ List.replicate (5 - (lg_sl ([.ref xa, .int k1, .int k2, .int k3])).length) Slot.unset).toArray = ls at hl ⊢
  have hl : lv_has ls 5 [(0, .ref xa), (1, .int k1), (2, .int k2), (3, .int k3)] := hl
  refine lv_aload_n hx hb dX11_sum_0 rfl (lv_at hl 0 rfl) ?_
  refine lv_iload_n hx hb dX11_sum_1 rfl (lv_at hl 1 rfl) ?_
  have hPc := hP.sub (ws' := [(xa, .inr (11, [.ref x0, .int 0, .ref x2, .int 0, .ref x4, .ref x5, .ref x6, .int x7, .ref x8, .int x9, .int x10]))]) [0] rfl
  have hDc := hD.sub (ws' := [(xa, .inr (11, [.ref x0, .int 0, .ref x2, .int 0, .ref x4, .ref x5, .ref x6, .int x7, .ref x8, .int x9, .int x10]))]) [0] (by decide) rfl
  have hKc := hK.sub (tys' := []) [] rfl
  have hFc := va_free (wc := [(xa, .inr (11, [.ref x0, .int 0, .ref x2, .int 0, .ref x4, .ref x5, .ref x6, .int x7, .ref x8, .int x9, .int x10]))]) hD hS hA [0] rfl
  refine va_callq (va_runV (As := [.int k1]) (rest := []) ⟨hx, hb, hml, hown, hg⟩ (k_houseAt0 l D s.heap.size xa x0 x2 x4 x5 x6 x7 x8 x9 x10 k1) (cwV 1 hg (gV wd_10 wd_11 wd_12 wd_5 wd_13) rfl rfl rfl (by decide +kernel) ⟨(Nat.le_of_ble_eq_true rfl), (Nat.le_of_ble_eq_true rfl)⟩) ⟨Pr.blind, va_recv hKc hPc (ci := 11) (q0 := 0) rfl rfl, fun U hU hW => ⟨rfl, Pr.at hPc hKc hDc hN hU hW⟩⟩ rfl rfl hl.1 rfl (lv_room (Nat.le_of_ble_eq_true rfl)) dX11_sum_2 ⟨(Nat.le_of_ble_eq_true rfl), (Nat.le_of_ble_eq_true rfl)⟩) hS (fun q _ h => hFc q h) hFc (fun r_2 u t H_1 locs ht hvm hw hB hz1 hk1 hS => ?_)
  obtain ⟨hP1, hK1, hD1⟩ := hB
  rw [ht] at hP1
  have hK1 := va_K.moved hvm.symm hK1
  obtain ⟨hP, hD⟩ := va_join (wr := []) (w1 := [(xa, .inr (11, [.ref x0, .int 0, .ref x2, .int 0, .ref x4, .ref x5, .ref x6, .int x7, .ref x8, .int x9, .int x10]))]) hP hD [0] [] rfl rfl (by decide) (by decide) hk1 hFc hP1 hD1
  have hP : va_P D vwCl [(xa, .inr (11, [.ref x0, .int 0, .ref x2, .int 0, .ref x4, .ref x5, .ref x6, .int x7, .ref x8, .int x9, .int x10]))] H_1 := hP
  have hD : va_D A [(xa, .inr (11, [.ref x0, .int 0, .ref x2, .int 0, .ref x4, .ref x5, .ref x6, .int x7, .ref x8, .int x9, .int x10]))] := hD
  subst hw
  refine lv_astoreN (lv' := [(4, .null), (0, .ref xa), (1, .int k1), (2, .int k2), (3, .int k3)]) hx hb dX11_sum_5 hl (by decide) rfl (fun ls hl => ?_)
  refine lv_aloadN hx hb dX11_sum_7 (lv_at hl 0 rfl) ?_
  refine lv_ifnonnullN hx hb dX11_sum_9 ?_
  refine lv_lconst (v := 0) hx hb dX11_sum_12 (by decide) ?_
  exact W.lret (v := 0) hx hb hr (fun t ht hW => ⟨⟨0, (), rfl, rfl, trivial⟩, hS.F ht⟩) hS.2.2 dX11_sum_13
set_option maxHeartbeats 4000000 in
set_option maxRecDepth 100000 in
theorem k_entry (l : Launch) (D : va_G) (sz : Nat) (xa : Nat) (x0 : Nat) (x2 : Nat) (x4 : Nat) (x5 : Nat) (x6 : Nat) (x7 : Int32) (x8 : Nat) (x9 : Int32) (x10 : Int32) (k1 : Int32) (k2 : Int32) (k3 : Int32) : Met l yX11_entry (wsM yX11_entry cX11_entry 6 (some .long)) ({ frames := 1, cells := 0, slots := 0, locals := 21 }) (va_Pc [.ref xa, .int k1, .int k2, .int k3] (Pr D [(xa, .inr (11, [.ref x0, .int 0, .ref x2, .int 0, .ref x4, .ref x5, .ref x6, .int x7, .ref x8, .int x9, .int x10]))] [] sz)) (va_Ql (fun (r : Int64) (_ : Unit) => r = 0) (fun _ _ => True) (va_A [(xa, .inr (11, [.ref x0, .int 0, .ref x2, .int 0, .ref x4, .ref x5, .ref x6, .int x7, .ref x8, .int x9, .int x10]))] sz)) 0 0 (va_A [(xa, .inr (11, [.ref x0, .int 0, .ref x2, .int 0, .ref x4, .ref x5, .ref x6, .int x7, .ref x8, .int x9, .int x10]))] sz) := by
  refine Met.ofW (cc := cX11_entry) (maxL := 6) (ret := (some .long)) (by decide) rfl ?_
  intro p e s m args below meth c s₁ B hml hv
  obtain ⟨rfl, hsz, hP, hK, hD0, hN⟩ := hv
  have hx := B.exec
  have hb := B.bytes
  have hr := B.returns
  have hts := atoms_spec (ws := (wsM yX11_entry cX11_entry 6 (some .long))) B.pre
  have hg : ∀ w ∈ lw_good, w.before _ s = true := fun w h => hts w (List.mem_cons_of_mem _ h)
  have hown : s.vm.findClass RX11 = some m.cls := findClass_of_methodNamed B.named
  have hlocks := B.notSynchronized
  subst hsz
  have hD := hD0.self (sz := s.heap.size)
  generalize hAe : va_A [(xa, .inr (11, [.ref x0, .int 0, .ref x2, .int 0, .ref x4, .ref x5, .ref x6, .int x7, .ref x8, .int x9, .int x10]))] s.heap.size = A at hD ⊢
  have hA : ∀ q : Nat, s.heap.size ≤ q → A q := fun q h => by rw [← hAe]; exact Or.inr h
  have hS : va_S A s.heap s.heap [] := va_S.rf
  have hP : va_P D vwCl [(xa, .inr (11, [.ref x0, .int 0, .ref x2, .int 0, .ref x4, .ref x5, .ref x6, .int x7, .ref x8, .int x9, .int x10]))] s.heap := hP
  have hl := lv_entry ([.ref xa, .int k1, .int k2, .int k3]) (n := 6) (Nat.le_of_ble_eq_true rfl)
  rw [lg_entry_eq]
  generalize (lg_sl ([.ref xa, .int k1, .int k2, .int k3]) ++ List.replicate (6 - (lg_sl ([.ref xa, .int k1, .int k2, .int k3])).length) Slot.unset).toArray = ls at hl ⊢
  have hl : lv_has ls 6 [(0, .ref xa), (1, .int k1), (2, .int k2), (3, .int k3)] := hl
  refine lv_aload_n hx hb dX11_entry_0 rfl (lv_at hl 0 rfl) ?_
  refine lv_iload_n hx hb dX11_entry_1 rfl (lv_at hl 1 rfl) ?_
  have hPc := hP.sub (ws' := [(xa, .inr (11, [.ref x0, .int 0, .ref x2, .int 0, .ref x4, .ref x5, .ref x6, .int x7, .ref x8, .int x9, .int x10]))]) [0] rfl
  have hDc := hD.sub (ws' := [(xa, .inr (11, [.ref x0, .int 0, .ref x2, .int 0, .ref x4, .ref x5, .ref x6, .int x7, .ref x8, .int x9, .int x10]))]) [0] (by decide) rfl
  have hKc := hK.sub (tys' := []) [] rfl
  have hFc := va_free (wc := [(xa, .inr (11, [.ref x0, .int 0, .ref x2, .int 0, .ref x4, .ref x5, .ref x6, .int x7, .ref x8, .int x9, .int x10]))]) hD hS hA [0] rfl
  refine va_callq (va_runV (As := [.int k1]) (rest := []) ⟨hx, hb, hml, hown, hg⟩ (k_houseAt0 l D s.heap.size xa x0 x2 x4 x5 x6 x7 x8 x9 x10 k1) (cwV 1 hg (gV wd_10 wd_11 wd_12 wd_5 wd_13) rfl rfl rfl (by decide +kernel) ⟨(Nat.le_of_ble_eq_true rfl), (Nat.le_of_ble_eq_true rfl)⟩) ⟨Pr.blind, va_recv hKc hPc (ci := 11) (q0 := 0) rfl rfl, fun U hU hW => ⟨rfl, Pr.at hPc hKc hDc hN hU hW⟩⟩ rfl rfl hl.1 rfl (lv_room (Nat.le_of_ble_eq_true rfl)) dX11_entry_2 ⟨(Nat.le_of_ble_eq_true rfl), (Nat.le_of_ble_eq_true rfl)⟩) hS (fun q _ h => hFc q h) hFc (fun r_2 u t H_1 locs ht hvm hw hB hz1 hk1 hS => ?_)
  obtain ⟨hP1, hK1, hD1⟩ := hB
  rw [ht] at hP1
  have hK1 := va_K.moved hvm.symm hK1
  obtain ⟨hP, hD⟩ := va_join (wr := []) (w1 := [(xa, .inr (11, [.ref x0, .int 0, .ref x2, .int 0, .ref x4, .ref x5, .ref x6, .int x7, .ref x8, .int x9, .int x10]))]) hP hD [0] [] rfl rfl (by decide) (by decide) hk1 hFc hP1 hD1
  have hP : va_P D vwCl [(xa, .inr (11, [.ref x0, .int 0, .ref x2, .int 0, .ref x4, .ref x5, .ref x6, .int x7, .ref x8, .int x9, .int x10]))] H_1 := hP
  have hD : va_D A [(xa, .inr (11, [.ref x0, .int 0, .ref x2, .int 0, .ref x4, .ref x5, .ref x6, .int x7, .ref x8, .int x9, .int x10]))] := hD
  subst hw
  refine lv_astoreN (lv' := [(4, .null), (0, .ref xa), (1, .int k1), (2, .int k2), (3, .int k3)]) hx hb dX11_entry_5 hl (by decide) rfl (fun ls hl => ?_)
  refine lv_aloadN hx hb dX11_entry_7 (lv_at hl 0 rfl) ?_
  refine lv_ifnonnullN hx hb dX11_entry_9 ?_
  refine lv_null hx hb dX11_entry_12 ?_
  refine lv_goto (tgt := 22) hx hb dX11_entry_13 (by decide) ?_
  refine lv_astoreN (lv' := [(5, .null), (4, .null), (0, .ref xa), (1, .int k1), (2, .int k2), (3, .int k3)]) hx hb dX11_entry_22 hl (by decide) rfl (fun ls hl => ?_)
  refine lv_aloadN hx hb dX11_entry_24 (lv_at hl 0 rfl) ?_
  refine lv_ifnonnullN hx hb dX11_entry_26 ?_
  refine lv_lconst (v := 0) hx hb dX11_entry_29 (by decide) ?_
  refine lv_goto (tgt := 39) hx hb dX11_entry_30 (by decide) ?_
  exact W.lret (v := 0) hx hb hr (fun t ht hW => ⟨⟨0, (), rfl, rfl, trivial⟩, hS.F ht⟩) hS.2.2 dX11_entry_39
set_option maxHeartbeats 4000000 in
set_option maxRecDepth 100000 in
theorem k_status (l : Launch) (D : va_G) (sz : Nat) (xa : Nat) (x0 : Nat) (x1 : Int32) (x2 : Nat) (x3 : Int32) (x4 : Nat) (x5 : Nat) (x6 : Nat) (x7 : Int32) (x8 : Nat) (x10 : Int32) : Met l yX11_status (wsM yX11_status cX11_status 1 (some .int)) ({ frames := 0, cells := 0, slots := 0, locals := 0 }) (va_Pc [.ref xa] (Pr D [(xa, .inr (11, [.ref x0, .int x1, .ref x2, .int x3, .ref x4, .ref x5, .ref x6, .int x7, .ref x8, .int 0, .int x10]))] [] sz)) (va_Qi (fun (r : Int32) (_ : Unit) => r = 0) (fun _ _ => True) (va_A [(xa, .inr (11, [.ref x0, .int x1, .ref x2, .int x3, .ref x4, .ref x5, .ref x6, .int x7, .ref x8, .int 0, .int x10]))] sz)) 0 0 (va_A [(xa, .inr (11, [.ref x0, .int x1, .ref x2, .int x3, .ref x4, .ref x5, .ref x6, .int x7, .ref x8, .int 0, .int x10]))] sz) := by
  refine Met.ofW (cc := cX11_status) (maxL := 1) (ret := (some .int)) (by decide) rfl ?_
  intro p e s m args below meth c s₁ B hml hv
  obtain ⟨rfl, hsz, hP, hK, hD0, hN⟩ := hv
  have hx := B.exec
  have hb := B.bytes
  have hr := B.returns
  have hts := atoms_spec (ws := (wsM yX11_status cX11_status 1 (some .int))) B.pre
  have hg : ∀ w ∈ lw_good, w.before _ s = true := fun w h => hts w (List.mem_cons_of_mem _ h)
  have hown : s.vm.findClass RX11 = some m.cls := findClass_of_methodNamed B.named
  have hlocks := B.notSynchronized
  subst hsz
  have hD := hD0.self (sz := s.heap.size)
  generalize hAe : va_A [(xa, .inr (11, [.ref x0, .int x1, .ref x2, .int x3, .ref x4, .ref x5, .ref x6, .int x7, .ref x8, .int 0, .int x10]))] s.heap.size = A at hD ⊢
  have hA : ∀ q : Nat, s.heap.size ≤ q → A q := fun q h => by rw [← hAe]; exact Or.inr h
  have hS : va_S A s.heap s.heap [] := va_S.rf
  have hP : va_P D vwCl [(xa, .inr (11, [.ref x0, .int x1, .ref x2, .int x3, .ref x4, .ref x5, .ref x6, .int x7, .ref x8, .int 0, .int x10]))] s.heap := hP
  have hl := lv_entry ([.ref xa]) (n := 1) (Nat.le_of_ble_eq_true rfl)
  rw [lg_entry_eq]
  generalize (lg_sl ([.ref xa]) ++ List.replicate (1 - (lg_sl ([.ref xa])).length) Slot.unset).toArray = ls at hl ⊢
  have hl : lv_has ls 1 [(0, .ref xa)] := hl
  refine lv_aload_n hx hb dX11_status_0 rfl (lv_at hl 0 rfl) ?_
  refine va_get (D := D) (ci := 11) (v := .int 0) (C := RX11) (T := TX11) (N := 11) hx hb hg inG11 hown hK hP 0 rfl rfl 9 (by decide) (hg _ wd_0) (fun _ h9 => h9) rfl dX11_status_1 ?_
  exact W.iret (v := 0) hx hb hr (fun t ht hW => ⟨⟨0, (), rfl, rfl, trivial⟩, hS.F ht⟩) hS.2.2 dX11_status_4
set_option maxHeartbeats 4000000 in
set_option maxRecDepth 100000 in
theorem k_where (l : Launch) (D : va_G) (sz : Nat) (xa : Nat) (x0 : Nat) (x1 : Int32) (x2 : Nat) (x3 : Int32) (x4 : Nat) (x5 : Nat) (x6 : Nat) (x7 : Int32) (x8 : Nat) (x9 : Int32) : Met l yX11_where (wsM yX11_where cX11_where 1 (some .int)) ({ frames := 0, cells := 0, slots := 0, locals := 0 }) (va_Pc [.ref xa] (Pr D [(xa, .inr (11, [.ref x0, .int x1, .ref x2, .int x3, .ref x4, .ref x5, .ref x6, .int x7, .ref x8, .int x9, .int (-1)]))] [] sz)) (va_Qi (fun (r : Int32) (_ : Unit) => r = (-1)) (fun _ _ => True) (va_A [(xa, .inr (11, [.ref x0, .int x1, .ref x2, .int x3, .ref x4, .ref x5, .ref x6, .int x7, .ref x8, .int x9, .int (-1)]))] sz)) 0 0 (va_A [(xa, .inr (11, [.ref x0, .int x1, .ref x2, .int x3, .ref x4, .ref x5, .ref x6, .int x7, .ref x8, .int x9, .int (-1)]))] sz) := by
  refine Met.ofW (cc := cX11_where) (maxL := 1) (ret := (some .int)) (by decide) rfl ?_
  intro p e s m args below meth c s₁ B hml hv
  obtain ⟨rfl, hsz, hP, hK, hD0, hN⟩ := hv
  have hx := B.exec
  have hb := B.bytes
  have hr := B.returns
  have hts := atoms_spec (ws := (wsM yX11_where cX11_where 1 (some .int))) B.pre
  have hg : ∀ w ∈ lw_good, w.before _ s = true := fun w h => hts w (List.mem_cons_of_mem _ h)
  have hown : s.vm.findClass RX11 = some m.cls := findClass_of_methodNamed B.named
  have hlocks := B.notSynchronized
  subst hsz
  have hD := hD0.self (sz := s.heap.size)
  generalize hAe : va_A [(xa, .inr (11, [.ref x0, .int x1, .ref x2, .int x3, .ref x4, .ref x5, .ref x6, .int x7, .ref x8, .int x9, .int (-1)]))] s.heap.size = A at hD ⊢
  have hA : ∀ q : Nat, s.heap.size ≤ q → A q := fun q h => by rw [← hAe]; exact Or.inr h
  have hS : va_S A s.heap s.heap [] := va_S.rf
  have hP : va_P D vwCl [(xa, .inr (11, [.ref x0, .int x1, .ref x2, .int x3, .ref x4, .ref x5, .ref x6, .int x7, .ref x8, .int x9, .int (-1)]))] s.heap := hP
  have hl := lv_entry ([.ref xa]) (n := 1) (Nat.le_of_ble_eq_true rfl)
  rw [lg_entry_eq]
  generalize (lg_sl ([.ref xa]) ++ List.replicate (1 - (lg_sl ([.ref xa])).length) Slot.unset).toArray = ls at hl ⊢
  have hl : lv_has ls 1 [(0, .ref xa)] := hl
  refine lv_aload_n hx hb dX11_where_0 rfl (lv_at hl 0 rfl) ?_
  refine va_get (D := D) (ci := 11) (v := .int (-1)) (C := RX11) (T := TX11) (N := 11) hx hb hg inG11 hown hK hP 0 rfl rfl 10 (by decide) (hg _ wd_1) (fun _ h9 => h9) rfl dX11_where_1 ?_
  exact W.iret (v := (-1)) hx hb hr (fun t ht hW => ⟨⟨(-1), (), rfl, rfl, trivial⟩, hS.F ht⟩) hS.2.2 dX11_where_4
set_option maxHeartbeats 4000000 in
set_option maxRecDepth 100000 in
theorem k_borne (l : Launch) (D : va_G) (sz : Nat) (xa : Nat) (x0 : Nat) (x1 : Int32) (x2 : Nat) (x3 : Int32) (x4 : Nat) (x5 : Nat) (x6 : Nat) (x8 : Nat) (x9 : Int32) (x10 : Int32) (k1 : Int32) (ca : ClassId) : Met l yX11_borne (wsM yX11_borne cX11_borne 2 (some .int)) ({ frames := 0, cells := 0, slots := 0, locals := 0 }) (va_Pc [.ref xa, .int k1] (Pr D [(xa, .inr (11, [.ref x0, .int x1, .ref x2, .int x3, .ref x4, .ref x5, .ref x6, .int 0, .ref x8, .int x9, .int x10])), (x6, .inl (ca, 24, .inl (fun _ => 0)))] [(ca, .int)] sz)) (va_Qi (fun (r : Int32) (_ : Unit) => r = 0) (fun _ _ => True) (va_A [(xa, .inr (11, [.ref x0, .int x1, .ref x2, .int x3, .ref x4, .ref x5, .ref x6, .int 0, .ref x8, .int x9, .int x10])), (x6, .inl (ca, 24, .inl (fun _ => 0)))] sz)) 0 0 (va_A [(xa, .inr (11, [.ref x0, .int x1, .ref x2, .int x3, .ref x4, .ref x5, .ref x6, .int 0, .ref x8, .int x9, .int x10])), (x6, .inl (ca, 24, .inl (fun _ => 0)))] sz) := by
  refine Met.ofW (cc := cX11_borne) (maxL := 2) (ret := (some .int)) (by decide) rfl ?_
  intro p e s m args below meth c s₁ B hml hv
  obtain ⟨rfl, hsz, hP, hK, hD0, hN⟩ := hv
  have hx := B.exec
  have hb := B.bytes
  have hr := B.returns
  have hts := atoms_spec (ws := (wsM yX11_borne cX11_borne 2 (some .int))) B.pre
  have hg : ∀ w ∈ lw_good, w.before _ s = true := fun w h => hts w (List.mem_cons_of_mem _ h)
  have hown : s.vm.findClass RX11 = some m.cls := findClass_of_methodNamed B.named
  have hlocks := B.notSynchronized
  subst hsz
  have hD := hD0.self (sz := s.heap.size)
  generalize hAe : va_A [(xa, .inr (11, [.ref x0, .int x1, .ref x2, .int x3, .ref x4, .ref x5, .ref x6, .int 0, .ref x8, .int x9, .int x10])), (x6, .inl (ca, 24, .inl (fun _ => 0)))] s.heap.size = A at hD ⊢
  have hA : ∀ q : Nat, s.heap.size ≤ q → A q := fun q h => by rw [← hAe]; exact Or.inr h
  have hS : va_S A s.heap s.heap [] := va_S.rf
  have hP : va_P D vwCl [(xa, .inr (11, [.ref x0, .int x1, .ref x2, .int x3, .ref x4, .ref x5, .ref x6, .int 0, .ref x8, .int x9, .int x10])), (x6, .inl (ca, 24, .inl (fun _ => 0)))] s.heap := hP
  have hl := lv_entry ([.ref xa, .int k1]) (n := 2) (Nat.le_of_ble_eq_true rfl)
  rw [lg_entry_eq]
  generalize (lg_sl ([.ref xa, .int k1]) ++ List.replicate (2 - (lg_sl ([.ref xa, .int k1])).length) Slot.unset).toArray = ls at hl ⊢
  have hl : lv_has ls 2 [(0, .ref xa), (1, .int k1)] := hl
  refine lv_iload_n hx hb dX11_borne_0 rfl (lv_at hl 1 rfl) ?_
  refine lv_iconst (v := (-1)) hx hb dX11_borne_1 (by decide) ?_
  refine lv_icmp_ne (tgt := 10) hx hb dX11_borne_2 (by decide) (fun c_1 => ?_) (fun c_1 => ?_)
  · refine lv_iload_n hx hb dX11_borne_10 rfl (lv_at hl 1 rfl) ?_
    refine lv_if_lt (tgt := 29) hx hb dX11_borne_11 (by decide) (fun c_2 => ?_) (fun c_2 => ?_)
    · refine lv_iconst (v := 0) hx hb dX11_borne_29 (by decide) ?_
      exact W.iret (v := 0) hx hb hr (fun t ht hW => ⟨⟨0, (), rfl, rfl, trivial⟩, hS.F ht⟩) hS.2.2 dX11_borne_30
    · refine lv_iload_n hx hb dX11_borne_14 rfl (lv_at hl 1 rfl) ?_
      refine lv_bipush (v := 24) hx hb dX11_borne_15 (by decide) ?_
      refine lv_icmp_ge (tgt := 29) hx hb dX11_borne_17 (by decide) (fun c_3 => ?_) (fun c_3 => ?_)
      · refine lv_iconst (v := 0) hx hb dX11_borne_29 (by decide) ?_
        exact W.iret (v := 0) hx hb hr (fun t ht hW => ⟨⟨0, (), rfl, rfl, trivial⟩, hS.F ht⟩) hS.2.2 dX11_borne_30
      · refine lv_aload_n hx hb dX11_borne_20 rfl (lv_at hl 0 rfl) ?_
        refine va_get (D := D) (ci := 11) (v := .ref x6) (C := RX11) (T := TX11) (N := 11) hx hb hg inG11 hown hK hP 0 rfl rfl 6 (by decide) (hg _ wd_36) (fun _ h9 => h9) rfl dX11_borne_21 ?_
        refine lv_iload_n hx hb dX11_borne_24 rfl (lv_at hl 1 rfl) ?_
        refine va_iald hx hb hK hP 1 0 rfl rfl (inb k1 24 (by decide) c_2 c_3) dX11_borne_25 ?_
        refine lv_goto (tgt := 30) hx hb dX11_borne_26 (by decide) ?_
        exact W.iret (v := ((fun _ => 0) (k1 : Int32).toNatClampNeg)) hx hb hr (fun t ht hW => ⟨⟨((fun _ => 0) (k1 : Int32).toNatClampNeg), (), rfl, rfl, trivial⟩, hS.F ht⟩) hS.2.2 dX11_borne_30
  · refine lv_aload_n hx hb dX11_borne_5 rfl (lv_at hl 0 rfl) ?_
    refine va_get (D := D) (ci := 11) (v := .int 0) (C := RX11) (T := TX11) (N := 11) hx hb hg inG11 hown hK hP 0 rfl rfl 7 (by decide) (hg _ wd_37) (fun _ h9 => h9) rfl dX11_borne_6 ?_
    exact W.iret (v := 0) hx hb hr (fun t ht hW => ⟨⟨0, (), rfl, rfl, trivial⟩, hS.F ht⟩) hS.2.2 dX11_borne_9
set_option maxHeartbeats 4000000 in
set_option maxRecDepth 100000 in
theorem k_sheet (l : Launch) (D : va_G) (sz : Nat) (xa : Nat) (x0 : Nat) (x1 : Int32) (x2 : Nat) (x3 : Int32) (x4 : Nat) (x5 : Nat) (x6 : Nat) (x7 : Int32) (x8 : Nat) (x9 : Int32) (x10 : Int32) (k1 : Int32) (k2 : Int64) (ca : ClassId) : Met l yX11_sheet (wsM yX11_sheet cX11_sheet 4 (some .int)) ({ frames := 2, cells := 0, slots := 0, locals := 43 }) (va_Pc [.ref xa, .int k1, .long k2] (Pr D [(xa, .inr (11, [.ref x0, .int x1, .ref x2, .int x3, .ref x4, .ref x5, .ref x6, .int x7, .ref x8, .int x9, .int x10])), (x8, .inl (ca, 25, .inr (.inl (fun _ => 0))))] [(ca, .long)] sz)) (va_Qi (fun (r : Int32) (_ : Unit) => r = ansSheet k1) (fun _ _ => True) (va_A [(xa, .inr (11, [.ref x0, .int x1, .ref x2, .int x3, .ref x4, .ref x5, .ref x6, .int x7, .ref x8, .int x9, .int x10])), (x8, .inl (ca, 25, .inr (.inl (fun _ => 0))))] sz)) 0 0 (va_A [(xa, .inr (11, [.ref x0, .int x1, .ref x2, .int x3, .ref x4, .ref x5, .ref x6, .int x7, .ref x8, .int x9, .int x10])), (x8, .inl (ca, 25, .inr (.inl (fun _ => 0))))] sz) := by
  refine Met.ofW (cc := cX11_sheet) (maxL := 4) (ret := (some .int)) (by decide) rfl ?_
  intro p e s m args below meth c s₁ B hml hv
  obtain ⟨rfl, hsz, hP, hK, hD0, hN⟩ := hv
  have hx := B.exec
  have hb := B.bytes
  have hr := B.returns
  have hts := atoms_spec (ws := (wsM yX11_sheet cX11_sheet 4 (some .int))) B.pre
  have hg : ∀ w ∈ lw_good, w.before _ s = true := fun w h => hts w (List.mem_cons_of_mem _ h)
  have hown : s.vm.findClass RX11 = some m.cls := findClass_of_methodNamed B.named
  have hlocks := B.notSynchronized
  subst hsz
  have hD := hD0.self (sz := s.heap.size)
  generalize hAe : va_A [(xa, .inr (11, [.ref x0, .int x1, .ref x2, .int x3, .ref x4, .ref x5, .ref x6, .int x7, .ref x8, .int x9, .int x10])), (x8, .inl (ca, 25, .inr (.inl (fun _ => 0))))] s.heap.size = A at hD ⊢
  have hA : ∀ q : Nat, s.heap.size ≤ q → A q := fun q h => by rw [← hAe]; exact Or.inr h
  have hS : va_S A s.heap s.heap [] := va_S.rf
  have hP : va_P D vwCl [(xa, .inr (11, [.ref x0, .int x1, .ref x2, .int x3, .ref x4, .ref x5, .ref x6, .int x7, .ref x8, .int x9, .int x10])), (x8, .inl (ca, 25, .inr (.inl (fun _ => 0))))] s.heap := hP
  have hl := lv_entry ([.ref xa, .int k1, .long k2]) (n := 4) (Nat.le_of_ble_eq_true rfl)
  rw [lg_entry_eq]
  generalize (lg_sl ([.ref xa, .int k1, .long k2]) ++ List.replicate (4 - (lg_sl ([.ref xa, .int k1, .long k2])).length) Slot.unset).toArray = ls at hl ⊢
  have hl : lv_has ls 4 [(0, .ref xa), (1, .int k1), (2, .long k2)] := hl
  refine lv_iload_n hx hb dX11_sheet_0 rfl (lv_at hl 1 rfl) ?_
  refine lv_if_lt (tgt := 13) hx hb dX11_sheet_1 (by decide) (fun c_1 => ?_) (fun c_1 => ?_)
  · refine lv_aload_n hx hb dX11_sheet_13 rfl (lv_at hl 0 rfl) ?_
    refine lv_iconst (v := 2) hx hb dX11_sheet_14 (by decide) ?_
    have hPc := hP.sub (ws' := [(xa, .inr (11, [.ref x0, .int x1, .ref x2, .int x3, .ref x4, .ref x5, .ref x6, .int x7, .ref x8, .int x9, .int x10]))]) [0] rfl
    have hDc := hD.sub (ws' := [(xa, .inr (11, [.ref x0, .int x1, .ref x2, .int x3, .ref x4, .ref x5, .ref x6, .int x7, .ref x8, .int x9, .int x10]))]) [0] (by decide) rfl
    have hKc := hK.sub (tys' := []) [] rfl
    have hFc := va_free (wc := [(xa, .inr (11, [.ref x0, .int x1, .ref x2, .int x3, .ref x4, .ref x5, .ref x6, .int x7, .ref x8, .int x9, .int x10]))]) hD hS hA [0] rfl
    refine va_calli (va_runV (As := [.int 2]) (rest := []) ⟨hx, hb, hml, hown, hg⟩ (k_refuse l D s.heap.size xa x0 x1 x2 x3 x4 x5 x6 x7 x8 x9 x10 2) (cwV 1 hg (gV wd_14 wd_15 wd_16 wd_5 wd_17) rfl rfl rfl (by decide +kernel) ⟨(Nat.le_of_ble_eq_true rfl), (Nat.le_of_ble_eq_true rfl)⟩) ⟨Pr.blind, va_recv hKc hPc (ci := 11) (q0 := 0) rfl rfl, fun U hU hW => ⟨rfl, Pr.at hPc hKc hDc hN hU hW⟩⟩ rfl rfl hl.1 rfl (lv_room (Nat.le_of_ble_eq_true rfl)) dX11_sheet_15 ⟨(Nat.le_of_ble_eq_true rfl), (Nat.le_of_ble_eq_true rfl)⟩) hS (fun q _ h => hFc q h) hFc (fun r_3 u t H_2 locs ht hvm hw hB hz1 hk1 hS => ?_)
    obtain ⟨hP1, hK1, hD1⟩ := hB
    rw [ht] at hP1
    have hK1 := va_K.moved hvm.symm hK1
    obtain ⟨hP, hD⟩ := va_join (wr := [(x8, .inl (ca, 25, .inr (.inl (fun _ => 0))))]) (w1 := [(xa, .inr (11, [.ref x0, .int x1, .ref x2, .int x3, .ref x4, .ref x5, .ref x6, .int x7, .ref x8, .int 2, .int (-1)]))]) hP hD [0] [1] rfl rfl (by decide) (by decide) hk1 hFc hP1 hD1
    have hP : va_P D vwCl [(x8, .inl (ca, 25, .inr (.inl (fun _ => 0)))), (xa, .inr (11, [.ref x0, .int x1, .ref x2, .int x3, .ref x4, .ref x5, .ref x6, .int x7, .ref x8, .int 2, .int (-1)]))] H_2 := hP
    have hD : va_D A [(x8, .inl (ca, 25, .inr (.inl (fun _ => 0)))), (xa, .inr (11, [.ref x0, .int x1, .ref x2, .int x3, .ref x4, .ref x5, .ref x6, .int x7, .ref x8, .int 2, .int (-1)]))] := hD
    subst hw
    exact W.iret (v := (-1)) hx hb hr (fun t ht hW => ⟨⟨(-1), (), rfl, by simp [ansSheet, ← le25b, c_1], trivial⟩, hS.F ht⟩) hS.2.2 dX11_sheet_18
  · refine lv_iload_n hx hb dX11_sheet_4 rfl (lv_at hl 1 rfl) ?_
    refine lv_aload_n hx hb dX11_sheet_5 rfl (lv_at hl 0 rfl) ?_
    refine va_get (D := D) (ci := 11) (v := .ref x8) (C := RX11) (T := TX11) (N := 11) hx hb hg inG11 hown hK hP 0 rfl rfl 8 (by decide) (hg _ wd_38) (fun _ h9 => h9) rfl dX11_sheet_6 ?_
    refine va_alen (v := 25) hx hb hK hP 1 0 rfl rfl (by decide) dX11_sheet_9 ?_
    refine lv_icmp_lt (tgt := 19) hx hb dX11_sheet_10 (by decide) (fun c_4 => ?_) (fun c_4 => ?_)
    · refine lv_aload_n hx hb dX11_sheet_19 rfl (lv_at hl 0 rfl) ?_
      refine va_get (D := D) (ci := 11) (v := .ref x8) (C := RX11) (T := TX11) (N := 11) hx hb hg inG11 hown hK hP 0 rfl rfl 8 (by decide) (hg _ wd_38) (fun _ h9 => h9) rfl dX11_sheet_20 ?_
      refine lv_iload_n hx hb dX11_sheet_23 rfl (lv_at hl 1 rfl) ?_
      refine lv_lload_n hx hb dX11_sheet_24 rfl (lv_at hl 2 rfl) ?_
      refine va_last hx hb hK hP hD hS 1 0 rfl rfl (inbL k1 25 (by decide) c_1 c_4) dX11_sheet_25 (fun H_5 locs hP hD hS => ?_)
      have hP : va_P D vwCl [(xa, .inr (11, [.ref x0, .int x1, .ref x2, .int x3, .ref x4, .ref x5, .ref x6, .int x7, .ref x8, .int x9, .int x10])), (x8, .inl (ca, 25, .inr (.inl (vp_updL (fun _ => 0) (k1 : Int32).toNatClampNeg k2))))] H_5 := hP
      have hD : va_D A [(xa, .inr (11, [.ref x0, .int x1, .ref x2, .int x3, .ref x4, .ref x5, .ref x6, .int x7, .ref x8, .int x9, .int x10])), (x8, .inl (ca, 25, .inr (.inl (vp_updL (fun _ => 0) (k1 : Int32).toNatClampNeg k2))))] := hD
      refine lv_aload_n hx hb dX11_sheet_26 rfl (lv_at hl 0 rfl) ?_
      refine lv_iconst (v := 1) hx hb dX11_sheet_27 (by decide) ?_
      have hPc := hP.sub (ws' := [(xa, .inr (11, [.ref x0, .int x1, .ref x2, .int x3, .ref x4, .ref x5, .ref x6, .int x7, .ref x8, .int x9, .int x10]))]) [0] rfl
      have hDc := hD.sub (ws' := [(xa, .inr (11, [.ref x0, .int x1, .ref x2, .int x3, .ref x4, .ref x5, .ref x6, .int x7, .ref x8, .int x9, .int x10]))]) [0] (by decide) rfl
      have hKc := hK.sub (tys' := []) [] rfl
      have hFc := va_free (wc := [(xa, .inr (11, [.ref x0, .int x1, .ref x2, .int x3, .ref x4, .ref x5, .ref x6, .int x7, .ref x8, .int x9, .int x10]))]) hD hS hA [0] rfl
      refine va_calli (va_runV (As := [.int 1]) (rest := []) ⟨hx, hb, hml, hown, hg⟩ (k_accept l D H_5.size xa x0 x1 x2 x3 x4 x5 x6 x7 x8 x9 x10 1) (cwV 1 hg (gV wd_39 wd_40 wd_41 wd_5 wd_42) rfl rfl rfl (by decide +kernel) ⟨(Nat.le_of_ble_eq_true rfl), (Nat.le_of_ble_eq_true rfl)⟩) ⟨Pr.blind, va_recv hKc hPc (ci := 11) (q0 := 0) rfl rfl, fun U hU hW => ⟨rfl, Pr.at hPc hKc hDc hN hU hW⟩⟩ rfl rfl hl.1 rfl (lv_room (Nat.le_of_ble_eq_true rfl)) dX11_sheet_28 ⟨(Nat.le_of_ble_eq_true rfl), (Nat.le_of_ble_eq_true rfl)⟩) hS (fun q _ h => hFc q h) hFc (fun r_7 u t H_6 locs ht hvm hw hB hz1 hk1 hS => ?_)
      obtain ⟨hP1, hK1, hD1⟩ := hB
      rw [ht] at hP1
      have hK1 := va_K.moved hvm.symm hK1
      obtain ⟨hP, hD⟩ := va_join (wr := [(x8, .inl (ca, 25, .inr (.inl (vp_updL (fun _ => 0) (k1 : Int32).toNatClampNeg k2))))]) (w1 := [(xa, .inr (11, [.ref x0, .int x1, .ref x2, .int x3, .ref x4, .ref x5, .ref x6, .int x7, .ref x8, .int 0, .int (-1)]))]) hP hD [0] [1] rfl rfl (by decide) (by decide) hk1 hFc hP1 hD1
      have hP : va_P D vwCl [(x8, .inl (ca, 25, .inr (.inl (vp_updL (fun _ => 0) (k1 : Int32).toNatClampNeg k2)))), (xa, .inr (11, [.ref x0, .int x1, .ref x2, .int x3, .ref x4, .ref x5, .ref x6, .int x7, .ref x8, .int 0, .int (-1)]))] H_6 := hP
      have hD : va_D A [(x8, .inl (ca, 25, .inr (.inl (vp_updL (fun _ => 0) (k1 : Int32).toNatClampNeg k2)))), (xa, .inr (11, [.ref x0, .int x1, .ref x2, .int x3, .ref x4, .ref x5, .ref x6, .int x7, .ref x8, .int 0, .int (-1)]))] := hD
      subst hw
      exact W.iret (v := 1) hx hb hr (fun t ht hW => ⟨⟨1, (), rfl, by simp [ansSheet, ← le25b, c_1, c_4], trivial⟩, hS.F ht⟩) hS.2.2 dX11_sheet_31
    · refine lv_aload_n hx hb dX11_sheet_13 rfl (lv_at hl 0 rfl) ?_
      refine lv_iconst (v := 2) hx hb dX11_sheet_14 (by decide) ?_
      have hPc := hP.sub (ws' := [(xa, .inr (11, [.ref x0, .int x1, .ref x2, .int x3, .ref x4, .ref x5, .ref x6, .int x7, .ref x8, .int x9, .int x10]))]) [0] rfl
      have hDc := hD.sub (ws' := [(xa, .inr (11, [.ref x0, .int x1, .ref x2, .int x3, .ref x4, .ref x5, .ref x6, .int x7, .ref x8, .int x9, .int x10]))]) [0] (by decide) rfl
      have hKc := hK.sub (tys' := []) [] rfl
      have hFc := va_free (wc := [(xa, .inr (11, [.ref x0, .int x1, .ref x2, .int x3, .ref x4, .ref x5, .ref x6, .int x7, .ref x8, .int x9, .int x10]))]) hD hS hA [0] rfl
      refine va_calli (va_runV (As := [.int 2]) (rest := []) ⟨hx, hb, hml, hown, hg⟩ (k_refuse l D s.heap.size xa x0 x1 x2 x3 x4 x5 x6 x7 x8 x9 x10 2) (cwV 1 hg (gV wd_14 wd_15 wd_16 wd_5 wd_17) rfl rfl rfl (by decide +kernel) ⟨(Nat.le_of_ble_eq_true rfl), (Nat.le_of_ble_eq_true rfl)⟩) ⟨Pr.blind, va_recv hKc hPc (ci := 11) (q0 := 0) rfl rfl, fun U hU hW => ⟨rfl, Pr.at hPc hKc hDc hN hU hW⟩⟩ rfl rfl hl.1 rfl (lv_room (Nat.le_of_ble_eq_true rfl)) dX11_sheet_15 ⟨(Nat.le_of_ble_eq_true rfl), (Nat.le_of_ble_eq_true rfl)⟩) hS (fun q _ h => hFc q h) hFc (fun r_9 u t H_8 locs ht hvm hw hB hz1 hk1 hS => ?_)
      obtain ⟨hP1, hK1, hD1⟩ := hB
      rw [ht] at hP1
      have hK1 := va_K.moved hvm.symm hK1
      obtain ⟨hP, hD⟩ := va_join (wr := [(x8, .inl (ca, 25, .inr (.inl (fun _ => 0))))]) (w1 := [(xa, .inr (11, [.ref x0, .int x1, .ref x2, .int x3, .ref x4, .ref x5, .ref x6, .int x7, .ref x8, .int 2, .int (-1)]))]) hP hD [0] [1] rfl rfl (by decide) (by decide) hk1 hFc hP1 hD1
      have hP : va_P D vwCl [(x8, .inl (ca, 25, .inr (.inl (fun _ => 0)))), (xa, .inr (11, [.ref x0, .int x1, .ref x2, .int x3, .ref x4, .ref x5, .ref x6, .int x7, .ref x8, .int 2, .int (-1)]))] H_8 := hP
      have hD : va_D A [(x8, .inl (ca, 25, .inr (.inl (fun _ => 0)))), (xa, .inr (11, [.ref x0, .int x1, .ref x2, .int x3, .ref x4, .ref x5, .ref x6, .int x7, .ref x8, .int 2, .int (-1)]))] := hD
      subst hw
      exact W.iret (v := (-1)) hx hb hr (fun t ht hW => ⟨⟨(-1), (), rfl, by simp [ansSheet, ← le25b, c_1, c_4], trivial⟩, hS.F ht⟩) hS.2.2 dX11_sheet_18
