theorem dX2_init_0 : decode cX2_init 0 = .ok (.aload_n 0, 1) := by decide +kernel
theorem dX2_init_1 : decode cX2_init 1 = .ok (.invokespecial 3, 3) := by decide +kernel
theorem dX2_init_4 : decode cX2_init 4 = .ok (.aload_n 0, 1) := by decide +kernel
theorem dX2_init_5 : decode cX2_init 5 = .ok (.bipush 12, 2) := by decide +kernel
theorem dX2_init_7 : decode cX2_init 7 = .ok (.newarray .int, 2) := by decide +kernel
theorem dX2_init_9 : decode cX2_init 9 = .ok (.putfield 9, 3) := by decide +kernel
theorem dX2_init_12 : decode cX2_init 12 = .ok (.aload_n 0, 1) := by decide +kernel
theorem dX2_init_13 : decode cX2_init 13 = .ok (.bipush 6, 2) := by decide +kernel
theorem dX2_init_15 : decode cX2_init 15 = .ok (.newarray .int, 2) := by decide +kernel
theorem dX2_init_17 : decode cX2_init 17 = .ok (.putfield 15, 3) := by decide +kernel
theorem dX2_init_20 : decode cX2_init 20 = .ok (.aload_n 0, 1) := by decide +kernel
theorem dX2_init_21 : decode cX2_init 21 = .ok (.bipush 6, 2) := by decide +kernel
theorem dX2_init_23 : decode cX2_init 23 = .ok (.anewarray 18, 3) := by decide +kernel
theorem dX2_init_26 : decode cX2_init 26 = .ok (.putfield 20, 3) := by decide +kernel
theorem dX2_init_29 : decode cX2_init 29 = .ok (.aload_n 0, 1) := by decide +kernel
theorem dX2_init_30 : decode cX2_init 30 = .ok (.bipush 24, 2) := by decide +kernel
theorem dX2_init_32 : decode cX2_init 32 = .ok (.anewarray 18, 3) := by decide +kernel
theorem dX2_init_35 : decode cX2_init 35 = .ok (.putfield 24, 3) := by decide +kernel
theorem dX2_init_38 : decode cX2_init 38 = .ok (.aload_n 0, 1) := by decide +kernel
theorem dX2_init_39 : decode cX2_init 39 = .ok (.bipush 16, 2) := by decide +kernel
theorem dX2_init_41 : decode cX2_init 41 = .ok (.anewarray 27, 3) := by decide +kernel
theorem dX2_init_44 : decode cX2_init 44 = .ok (.putfield 29, 3) := by decide +kernel
theorem dX2_init_47 : decode cX2_init 47 = .ok (.aload_n 0, 1) := by decide +kernel
theorem dX2_init_48 : decode cX2_init 48 = .ok (.sipush 1000, 3) := by decide +kernel
theorem dX2_init_51 : decode cX2_init 51 = .ok (.anewarray 33, 3) := by decide +kernel
theorem dX2_init_54 : decode cX2_init 54 = .ok (.putfield 35, 3) := by decide +kernel
theorem dX2_init_57 : decode cX2_init 57 = .ok (.aload_n 0, 1) := by decide +kernel
theorem dX2_init_58 : decode cX2_init 58 = .ok (.sipush 1000, 3) := by decide +kernel
theorem dX2_init_61 : decode cX2_init 61 = .ok (.newarray .long, 2) := by decide +kernel
theorem dX2_init_63 : decode cX2_init 63 = .ok (.putfield 39, 3) := by decide +kernel
theorem dX2_init_66 : decode cX2_init 66 = .ok (.aload_n 0, 1) := by decide +kernel
theorem dX2_init_67 : decode cX2_init 67 = .ok (.new 43, 3) := by decide +kernel
theorem dX2_init_70 : decode cX2_init 70 = .ok (.dup, 1) := by decide +kernel
theorem dX2_init_71 : decode cX2_init 71 = .ok (.bipush 120, 2) := by decide +kernel
theorem dX2_init_73 : decode cX2_init 73 = .ok (.invokespecial 45, 3) := by decide +kernel
theorem dX2_init_76 : decode cX2_init 76 = .ok (.putfield 48, 3) := by decide +kernel
theorem dX2_init_79 : decode cX2_init 79 = .ok (.aload_n 0, 1) := by decide +kernel
theorem dX2_init_80 : decode cX2_init 80 = .ok (.new 43, 3) := by decide +kernel
theorem dX2_init_83 : decode cX2_init 83 = .ok (.dup, 1) := by decide +kernel
theorem dX2_init_84 : decode cX2_init 84 = .ok (.bipush 20, 2) := by decide +kernel
theorem dX2_init_86 : decode cX2_init 86 = .ok (.invokespecial 45, 3) := by decide +kernel
theorem dX2_init_89 : decode cX2_init 89 = .ok (.putfield 52, 3) := by decide +kernel
theorem dX2_init_92 : decode cX2_init 92 = .ok (.aload_n 0, 1) := by decide +kernel
theorem dX2_init_93 : decode cX2_init 93 = .ok (.new 55, 3) := by decide +kernel
theorem dX2_init_96 : decode cX2_init 96 = .ok (.dup, 1) := by decide +kernel
theorem dX2_init_97 : decode cX2_init 97 = .ok (.invokespecial 57, 3) := by decide +kernel
theorem dX2_init_100 : decode cX2_init 100 = .ok (.putfield 58, 3) := by decide +kernel
theorem dX2_init_103 : decode cX2_init 103 = .ok (.aload_n 0, 1) := by decide +kernel
theorem dX2_init_104 : decode cX2_init 104 = .ok (.iload_n 1, 1) := by decide +kernel
theorem dX2_init_105 : decode cX2_init 105 = .ok (.putfield 62, 3) := by decide +kernel
theorem dX2_init_108 : decode cX2_init 108 = .ok (.aload_n 0, 1) := by decide +kernel
theorem dX2_init_109 : decode cX2_init 109 = .ok (.iload_n 2, 1) := by decide +kernel
theorem dX2_init_110 : decode cX2_init 110 = .ok (.putfield 66, 3) := by decide +kernel
theorem dX2_init_113 : decode cX2_init 113 = .ok (.aload_n 0, 1) := by decide +kernel
theorem dX2_init_114 : decode cX2_init 114 = .ok (.iload_n 2, 1) := by decide +kernel
theorem dX2_init_115 : decode cX2_init 115 = .ok (.iconst 1, 1) := by decide +kernel
theorem dX2_init_116 : decode cX2_init 116 = .ok (.isub, 1) := by decide +kernel
theorem dX2_init_117 : decode cX2_init 117 = .ok (.putfield 69, 3) := by decide +kernel
theorem dX2_init_120 : decode cX2_init 120 = .ok (.aload_n 0, 1) := by decide +kernel
theorem dX2_init_121 : decode cX2_init 121 = .ok (.new 72, 3) := by decide +kernel
theorem dX2_init_124 : decode cX2_init 124 = .ok (.dup, 1) := by decide +kernel
theorem dX2_init_125 : decode cX2_init 125 = .ok (.aload_n 3, 1) := by decide +kernel
theorem dX2_init_126 : decode cX2_init 126 = .ok (.invokespecial 74, 3) := by decide +kernel
theorem dX2_init_129 : decode cX2_init 129 = .ok (.putfield 77, 3) := by decide +kernel
theorem dX2_init_132 : decode cX2_init 132 = .ok (.return_, 1) := by decide +kernel
theorem dX11_house_0 : decode cX11_house 0 = .ok (.iload_n 1, 1) := by decide +kernel
theorem dX11_house_1 : decode cX11_house 1 = .ok (.ifCond .lt 10, 3) := by decide +kernel
theorem dX11_house_4 : decode cX11_house 4 = .ok (.iload_n 1, 1) := by decide +kernel
theorem dX11_house_5 : decode cX11_house 5 = .ok (.sipush 900, 3) := by decide +kernel
theorem dX11_house_8 : decode cX11_house 8 = .ok (.if_icmp .le 9, 3) := by decide +kernel
theorem dX11_house_11 : decode cX11_house 11 = .ok (.aload_n 0, 1) := by decide +kernel
theorem dX11_house_12 : decode cX11_house 12 = .ok (.iconst 2, 1) := by decide +kernel
theorem dX11_house_13 : decode cX11_house 13 = .ok (.invokevirtual 47, 3) := by decide +kernel
theorem dX11_house_16 : decode cX11_house 16 = .ok (.ireturn, 1) := by decide +kernel
theorem dX11_house_17 : decode cX11_house 17 = .ok (.aload_n 0, 1) := by decide +kernel
theorem dX11_house_18 : decode cX11_house 18 = .ok (.getfield 51, 3) := by decide +kernel
theorem dX11_house_21 : decode cX11_house 21 = .ok (.bipush 8, 2) := by decide +kernel
theorem dX11_house_23 : decode cX11_house 23 = .ok (.if_icmp .lt 10, 3) := by decide +kernel
theorem dX11_house_26 : decode cX11_house 26 = .ok (.aload_n 0, 1) := by decide +kernel
theorem dX11_house_27 : decode cX11_house 27 = .ok (.bipush 9, 2) := by decide +kernel
theorem dX11_house_29 : decode cX11_house 29 = .ok (.invokevirtual 47, 3) := by decide +kernel
theorem dX11_house_32 : decode cX11_house 32 = .ok (.ireturn, 1) := by decide +kernel
theorem dX11_house_33 : decode cX11_house 33 = .ok (.aload_n 0, 1) := by decide +kernel
theorem dX11_house_34 : decode cX11_house 34 = .ok (.getfield 11, 3) := by decide +kernel
theorem dX11_house_37 : decode cX11_house 37 = .ok (.aload_n 0, 1) := by decide +kernel
theorem dX11_house_38 : decode cX11_house 38 = .ok (.getfield 51, 3) := by decide +kernel
theorem dX11_house_41 : decode cX11_house 41 = .ok (.new 9, 3) := by decide +kernel
theorem dX11_house_44 : decode cX11_house 44 = .ok (.dup, 1) := by decide +kernel
theorem dX11_house_45 : decode cX11_house 45 = .ok (.aload_n 0, 1) := by decide +kernel
theorem dX11_house_46 : decode cX11_house 46 = .ok (.getfield 51, 3) := by decide +kernel
theorem dX11_house_49 : decode cX11_house 49 = .ok (.iload_n 1, 1) := by decide +kernel
theorem dX11_house_50 : decode cX11_house 50 = .ok (.aload_n 0, 1) := by decide +kernel
theorem dX11_house_51 : decode cX11_house 51 = .ok (.getfield 24, 3) := by decide +kernel
theorem dX11_house_54 : decode cX11_house 54 = .ok (.invokespecial 54, 3) := by decide +kernel
theorem dX11_house_57 : decode cX11_house 57 = .ok (.aastore, 1) := by decide +kernel
theorem dX11_house_58 : decode cX11_house 58 = .ok (.aload_n 0, 1) := by decide +kernel
theorem dX11_house_59 : decode cX11_house 59 = .ok (.dup, 1) := by decide +kernel
theorem dX11_house_60 : decode cX11_house 60 = .ok (.getfield 51, 3) := by decide +kernel
theorem dX11_house_63 : decode cX11_house 63 = .ok (.iconst 1, 1) := by decide +kernel
theorem dX11_house_64 : decode cX11_house 64 = .ok (.iadd, 1) := by decide +kernel
theorem dX11_house_65 : decode cX11_house 65 = .ok (.putfield 51, 3) := by decide +kernel
theorem dX11_house_68 : decode cX11_house 68 = .ok (.aload_n 0, 1) := by decide +kernel
theorem dX11_house_69 : decode cX11_house 69 = .ok (.aload_n 0, 1) := by decide +kernel
theorem dX11_house_70 : decode cX11_house 70 = .ok (.getfield 51, 3) := by decide +kernel
theorem dX11_house_73 : decode cX11_house 73 = .ok (.iconst 1, 1) := by decide +kernel
theorem dX11_house_74 : decode cX11_house 74 = .ok (.isub, 1) := by decide +kernel
theorem dX11_house_75 : decode cX11_house 75 = .ok (.invokevirtual 57, 3) := by decide +kernel
theorem dX11_house_78 : decode cX11_house 78 = .ok (.ireturn, 1) := by decide +kernel
theorem wd_597 : Cond.methodLink RX2 3 Lib.objectInit ∈ lw_good := mem_t1 130 (by decide +kernel) rfl
theorem wd_598 : Cond.fieldLink RX2 15 RX2 "letters" "[I" ∈ lw_good := mem_t1 222 (by decide +kernel) rfl
theorem wd_599 : Cond.classLink RX2 27 RX6 ∈ lw_good := mem_t1 132 (by decide +kernel) rfl
theorem wd_600 : Cond.classLink RX2 33 RX3 ∈ lw_good := mem_t1 134 (by decide +kernel) rfl
theorem wd_601 : Cond.classLink RX2 43 RX1 ∈ lw_good := mem_t1 136 (by decide +kernel) rfl
theorem wd_602 : Cond.instantiable RX1 4 ∈ lw_good := mem_t1 137 (by decide +kernel) rfl
theorem wd_603 : Cond.code yX1_init cX1_init 3 none ∈ lw_good := mem_t1 140 rfl rfl
theorem wd_604 : Cond.methodLink RX2 45 yX1_init ∈ lw_good := mem_t1 138 (by decide +kernel) rfl
theorem wd_605 : Cond.instanceMethod yX1_init ∈ lw_good := mem_t1 139 (by decide +kernel) rfl
theorem wd_606 : Cond.classLink RX2 55 RX10 ∈ lw_good := mem_t1 165 (by decide +kernel) rfl
theorem wd_607 : Cond.instantiable RX10 3 ∈ lw_good := mem_t1 166 (by decide +kernel) rfl
theorem wd_608 : Cond.code yX10_init cX10_init 1 none ∈ lw_good := mem_t1 169 rfl rfl
theorem wd_609 : Cond.instanceMethod yX10_init ∈ lw_good := mem_t1 168 (by decide +kernel) rfl
theorem wd_610 : Cond.fieldLink RX2 58 RX2 "undos" "LPartnersBook$UndoLog;" ∈ lw_good := mem_t2 9 (by decide +kernel) rfl
theorem wd_611 : Cond.classLink RX2 72 RX0 ∈ lw_good := mem_t1 182 (by decide +kernel) rfl
theorem wd_612 : Cond.instantiable RX0 5 ∈ lw_good := mem_t1 183 (by decide +kernel) rfl
theorem wd_613 : Cond.code yX0_init cX0_init 2 none ∈ lw_good := mem_t1 186 rfl rfl
theorem wd_614 : Cond.methodLink RX2 74 yX0_init ∈ lw_good := mem_t1 184 (by decide +kernel) rfl
theorem wd_615 : Cond.instanceMethod yX0_init ∈ lw_good := mem_t1 185 (by decide +kernel) rfl
theorem wd_616 : Cond.classLink RX11 9 RX2 ∈ lw_good := mem_t1 26 (by decide +kernel) rfl
theorem wd_617 : Cond.instantiable RX2 20 ∈ lw_good := mem_t1 126 (by decide +kernel) rfl
theorem wd_618 : Cond.code yX2_init cX2_init 4 none ∈ lw_good := mem_t1 129 rfl rfl
theorem wd_619 : Cond.methodLink RX11 54 yX2_init ∈ lw_good := mem_t1 127 (by decide +kernel) rfl
theorem wd_620 : Cond.instanceMethod yX2_init ∈ lw_good := mem_t1 128 (by decide +kernel) rfl
/-- house(): the answer and how many there are then -/
def ansH (k : Int32) (n : Nat) : Int32 := if k < 0 then -1 else if k ≤ 900 then (if n = 8 then -1 else nI n) else -1
def cntH (k : Int32) (n : Nat) : Nat := if k < 0 then n else if k ≤ 900 then (if n = 8 then n else n + 1) else n
