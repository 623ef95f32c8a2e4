theorem dX12_isUnlike_0 : decode cX12_isUnlike 0 = .ok (.aload_n 0, 1) := by decide +kernel
theorem dX12_isUnlike_1 : decode cX12_isUnlike 1 = .ok (.getfield 80, 3) := by decide +kernel
theorem dX12_isUnlike_4 : decode cX12_isUnlike 4 = .ok (.iload_n 1, 1) := by decide +kernel
theorem dX12_isUnlike_5 : decode cX12_isUnlike 5 = .ok (.iaload, 1) := by decide +kernel
theorem dX12_isUnlike_6 : decode cX12_isUnlike 6 = .ok (.aload_n 0, 1) := by decide +kernel
theorem dX12_isUnlike_7 : decode cX12_isUnlike 7 = .ok (.getfield 80, 3) := by decide +kernel
theorem dX12_isUnlike_10 : decode cX12_isUnlike 10 = .ok (.iload_n 1, 1) := by decide +kernel
theorem dX12_isUnlike_11 : decode cX12_isUnlike 11 = .ok (.iconst 1, 1) := by decide +kernel
theorem dX12_isUnlike_12 : decode cX12_isUnlike 12 = .ok (.isub, 1) := by decide +kernel
theorem dX12_isUnlike_13 : decode cX12_isUnlike 13 = .ok (.iaload, 1) := by decide +kernel
theorem dX12_isUnlike_14 : decode cX12_isUnlike 14 = .ok (.if_icmp .eq 7, 3) := by decide +kernel
theorem dX12_isUnlike_17 : decode cX12_isUnlike 17 = .ok (.iconst 1, 1) := by decide +kernel
theorem dX12_isUnlike_18 : decode cX12_isUnlike 18 = .ok (.goto 4, 3) := by decide +kernel
theorem dX12_isUnlike_21 : decode cX12_isUnlike 21 = .ok (.iconst 0, 1) := by decide +kernel
theorem dX12_isUnlike_22 : decode cX12_isUnlike 22 = .ok (.istore_n 2, 1) := by decide +kernel
theorem dX12_isUnlike_23 : decode cX12_isUnlike 23 = .ok (.iconst 0, 1) := by decide +kernel
theorem dX12_isUnlike_24 : decode cX12_isUnlike 24 = .ok (.istore_n 3, 1) := by decide +kernel
theorem dX12_isUnlike_25 : decode cX12_isUnlike 25 = .ok (.iload_n 3, 1) := by decide +kernel
theorem dX12_isUnlike_26 : decode cX12_isUnlike 26 = .ok (.bipush 24, 2) := by decide +kernel
theorem dX12_isUnlike_28 : decode cX12_isUnlike 28 = .ok (.if_icmp .ge 46, 3) := by decide +kernel
theorem dX12_isUnlike_31 : decode cX12_isUnlike 31 = .ok (.iload_n 2, 1) := by decide +kernel
theorem dX12_isUnlike_32 : decode cX12_isUnlike 32 = .ok (.ifCond .ne 30, 3) := by decide +kernel
theorem dX12_isUnlike_35 : decode cX12_isUnlike 35 = .ok (.aload_n 0, 1) := by decide +kernel
theorem dX12_isUnlike_36 : decode cX12_isUnlike 36 = .ok (.getfield 83, 3) := by decide +kernel
theorem dX12_isUnlike_39 : decode cX12_isUnlike 39 = .ok (.bipush 24, 2) := by decide +kernel
theorem dX12_isUnlike_41 : decode cX12_isUnlike 41 = .ok (.iload_n 1, 1) := by decide +kernel
theorem dX12_isUnlike_42 : decode cX12_isUnlike 42 = .ok (.imul, 1) := by decide +kernel
theorem dX12_isUnlike_43 : decode cX12_isUnlike 43 = .ok (.iload_n 3, 1) := by decide +kernel
theorem dX12_isUnlike_44 : decode cX12_isUnlike 44 = .ok (.iadd, 1) := by decide +kernel
theorem dX12_isUnlike_45 : decode cX12_isUnlike 45 = .ok (.iaload, 1) := by decide +kernel
theorem dX12_isUnlike_46 : decode cX12_isUnlike 46 = .ok (.aload_n 0, 1) := by decide +kernel
theorem dX12_isUnlike_47 : decode cX12_isUnlike 47 = .ok (.getfield 83, 3) := by decide +kernel
theorem dX12_isUnlike_50 : decode cX12_isUnlike 50 = .ok (.bipush 24, 2) := by decide +kernel
theorem dX12_isUnlike_52 : decode cX12_isUnlike 52 = .ok (.iload_n 1, 1) := by decide +kernel
theorem dX12_isUnlike_53 : decode cX12_isUnlike 53 = .ok (.iconst 1, 1) := by decide +kernel
theorem dX12_isUnlike_54 : decode cX12_isUnlike 54 = .ok (.isub, 1) := by decide +kernel
theorem dX12_isUnlike_55 : decode cX12_isUnlike 55 = .ok (.imul, 1) := by decide +kernel
theorem dX12_isUnlike_56 : decode cX12_isUnlike 56 = .ok (.iload_n 3, 1) := by decide +kernel
theorem dX12_isUnlike_57 : decode cX12_isUnlike 57 = .ok (.iadd, 1) := by decide +kernel
theorem dX12_isUnlike_58 : decode cX12_isUnlike 58 = .ok (.iaload, 1) := by decide +kernel
theorem dX12_isUnlike_59 : decode cX12_isUnlike 59 = .ok (.if_icmp .eq 7, 3) := by decide +kernel
theorem dX12_isUnlike_62 : decode cX12_isUnlike 62 = .ok (.iconst 1, 1) := by decide +kernel
theorem dX12_isUnlike_63 : decode cX12_isUnlike 63 = .ok (.goto 4, 3) := by decide +kernel
theorem dX12_isUnlike_66 : decode cX12_isUnlike 66 = .ok (.iconst 0, 1) := by decide +kernel
theorem dX12_isUnlike_67 : decode cX12_isUnlike 67 = .ok (.istore_n 2, 1) := by decide +kernel
theorem dX12_isUnlike_68 : decode cX12_isUnlike 68 = .ok (.iinc 3 1, 3) := by decide +kernel
theorem dX12_isUnlike_71 : decode cX12_isUnlike 71 = .ok (.goto (-46), 3) := by decide +kernel
theorem dX12_isUnlike_74 : decode cX12_isUnlike 74 = .ok (.iload_n 2, 1) := by decide +kernel
theorem dX12_isUnlike_75 : decode cX12_isUnlike 75 = .ok (.ireturn, 1) := by decide +kernel
theorem wd_709 : Cond.fieldLink RX12 80 RX12 "thousandths" "[I" ∈ lw_good := mem_t5 165 (by decide +kernel) rfl
