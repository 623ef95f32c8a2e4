theorem dL_law_202 : decode cL_law 202 = .ok (.invokevirtual 13, 3) := by decide +kernel
theorem dL_law_230 : decode cL_law 230 = .ok (.invokevirtual 18, 3) := by decide +kernel
theorem dL_law_268 : decode cL_law 268 = .ok (.invokevirtual 23, 3) := by decide +kernel
theorem dL_law_306 : decode cL_law 306 = .ok (.invokevirtual 28, 3) := by decide +kernel
theorem dL_law_339 : decode cL_law 339 = .ok (.invokevirtual 32, 3) := by decide +kernel
theorem dL_law_395 : decode cL_law 395 = .ok (.invokevirtual 36, 3) := by decide +kernel
theorem dL_law_466 : decode cL_law 466 = .ok (.invokevirtual 41, 3) := by decide +kernel
theorem dL_law_524 : decode cL_law 524 = .ok (.invokevirtual 46, 3) := by decide +kernel
theorem dL_law_562 : decode cL_law 562 = .ok (.invokevirtual 51, 3) := by decide +kernel
theorem dL_law_590 : decode cL_law 590 = .ok (.invokevirtual 55, 3) := by decide +kernel
theorem dL_law_633 : decode cL_law 633 = .ok (.invokevirtual 59, 3) := by decide +kernel
theorem dL_law_686 : decode cL_law 686 = .ok (.invokevirtual 63, 3) := by decide +kernel
theorem dL_law_729 : decode cL_law 729 = .ok (.invokevirtual 67, 3) := by decide +kernel
theorem dL_law_767 : decode cL_law 767 = .ok (.invokevirtual 71, 3) := by decide +kernel
theorem dL_law_810 : decode cL_law 810 = .ok (.invokevirtual 75, 3) := by decide +kernel
theorem dL_law_848 : decode cL_law 848 = .ok (.invokevirtual 79, 3) := by decide +kernel
theorem dL_law_904 : decode cL_law 904 = .ok (.invokevirtual 83, 3) := by decide +kernel
theorem dL_law_978 : decode cL_law 978 = .ok (.invokevirtual 87, 3) := by decide +kernel
theorem dL_law_1024 : decode cL_law 1024 = .ok (.invokevirtual 92, 3) := by decide +kernel
theorem dL_law_1052 : decode cL_law 1052 = .ok (.invokevirtual 96, 3) := by decide +kernel
theorem dL_law_1080 : decode cL_law 1080 = .ok (.invokevirtual 100, 3) := by decide +kernel
theorem dL_law_1113 : decode cL_law 1113 = .ok (.invokevirtual 104, 3) := by decide +kernel
theorem dL_law_1156 : decode cL_law 1156 = .ok (.invokevirtual 108, 3) := by decide +kernel
theorem dL_law_1199 : decode cL_law 1199 = .ok (.invokevirtual 112, 3) := by decide +kernel
theorem dL_law_1232 : decode cL_law 1232 = .ok (.invokevirtual 116, 3) := by decide +kernel
theorem dL_law_1265 : decode cL_law 1265 = .ok (.invokevirtual 120, 3) := by decide +kernel
theorem dL_law_1308 : decode cL_law 1308 = .ok (.invokevirtual 125, 3) := by decide +kernel
theorem dL_law_1351 : decode cL_law 1351 = .ok (.invokevirtual 129, 3) := by decide +kernel
theorem dL_law_1394 : decode cL_law 1394 = .ok (.invokevirtual 133, 3) := by decide +kernel
theorem dL_law_1437 : decode cL_law 1437 = .ok (.invokevirtual 137, 3) := by decide +kernel
theorem dL_law_1475 : decode cL_law 1475 = .ok (.invokevirtual 141, 3) := by decide +kernel
theorem dL_law_1513 : decode cL_law 1513 = .ok (.invokevirtual 145, 3) := by decide +kernel
theorem dL_law_1556 : decode cL_law 1556 = .ok (.invokevirtual 149, 3) := by decide +kernel
theorem dL_law_1609 : decode cL_law 1609 = .ok (.invokevirtual 155, 3) := by decide +kernel
theorem dL_law_1652 : decode cL_law 1652 = .ok (.invokevirtual 160, 3) := by decide +kernel
theorem dL_law_1670 : decode cL_law 1670 = .ok (.invokevirtual 164, 3) := by decide +kernel
theorem dL_law_1683 : decode cL_law 1683 = .ok (.invokevirtual 169, 3) := by decide +kernel
theorem wd_931 : Cond.methodLink RL 13 yX11_house ∈ lw_good := mem_t1 114 (by decide +kernel) rfl
theorem wd_932 : Cond.instanceMethod yX11_house ∈ lw_good := mem_t1 115 (by decide +kernel) rfl
theorem wd_933 : Cond.selects RX11 yX11_house yX11_house ∈ lw_good := mem_t1 116 (by decide +kernel) rfl
theorem wd_934 : Cond.code yX11_house cX11_house 2 (some .int) ∈ lw_good := mem_t1 117 rfl rfl
theorem wd_935 : Cond.methodLink RL 18 yX11_partner ∈ lw_good := mem_t2 59 (by decide +kernel) rfl
theorem wd_936 : Cond.instanceMethod yX11_partner ∈ lw_good := mem_t2 60 (by decide +kernel) rfl
theorem wd_937 : Cond.selects RX11 yX11_partner yX11_partner ∈ lw_good := mem_t2 61 (by decide +kernel) rfl
theorem wd_938 : Cond.code yX11_partner cX11_partner 4 (some .int) ∈ lw_good := mem_t2 62 rfl rfl
theorem wd_939 : Cond.methodLink RL 23 yX11_letter ∈ lw_good := mem_t2 97 (by decide +kernel) rfl
theorem wd_940 : Cond.instanceMethod yX11_letter ∈ lw_good := mem_t2 98 (by decide +kernel) rfl
theorem wd_941 : Cond.selects RX11 yX11_letter yX11_letter ∈ lw_good := mem_t2 99 (by decide +kernel) rfl
theorem wd_942 : Cond.code yX11_letter cX11_letter 5 (some .int) ∈ lw_good := mem_t2 100 rfl rfl
theorem wd_943 : Cond.methodLink RL 28 yX11_unseal ∈ lw_good := mem_t2 114 (by decide +kernel) rfl
theorem wd_944 : Cond.instanceMethod yX11_unseal ∈ lw_good := mem_t2 115 (by decide +kernel) rfl
theorem wd_945 : Cond.selects RX11 yX11_unseal yX11_unseal ∈ lw_good := mem_t2 116 (by decide +kernel) rfl
theorem wd_946 : Cond.code yX11_unseal cX11_unseal 5 (some .int) ∈ lw_good := mem_t2 117 rfl rfl
theorem wd_947 : Cond.methodLink RL 32 yX11_holds ∈ lw_good := mem_t2 118 (by decide +kernel) rfl
theorem wd_948 : Cond.instanceMethod yX11_holds ∈ lw_good := mem_t2 119 (by decide +kernel) rfl
theorem wd_949 : Cond.selects RX11 yX11_holds yX11_holds ∈ lw_good := mem_t2 120 (by decide +kernel) rfl
theorem wd_950 : Cond.code yX11_holds cX11_holds 5 (some .int) ∈ lw_good := mem_t2 121 rfl rfl
theorem wd_951 : Cond.methodLink RL 36 yX11_join ∈ lw_good := mem_t2 123 (by decide +kernel) rfl
theorem wd_952 : Cond.instanceMethod yX11_join ∈ lw_good := mem_t2 124 (by decide +kernel) rfl
theorem wd_953 : Cond.selects RX11 yX11_join yX11_join ∈ lw_good := mem_t2 125 (by decide +kernel) rfl
theorem wd_954 : Cond.code yX11_join cX11_join 8 (some .int) ∈ lw_good := mem_t2 126 rfl rfl
theorem wd_955 : Cond.methodLink RL 41 yX11_leave ∈ lw_good := mem_t3 17 (by decide +kernel) rfl
theorem wd_956 : Cond.instanceMethod yX11_leave ∈ lw_good := mem_t3 18 (by decide +kernel) rfl
theorem wd_957 : Cond.selects RX11 yX11_leave yX11_leave ∈ lw_good := mem_t3 19 (by decide +kernel) rfl
theorem wd_958 : Cond.code yX11_leave cX11_leave 8 (some .int) ∈ lw_good := mem_t3 20 rfl rfl
theorem wd_959 : Cond.methodLink RL 46 yX11_die ∈ lw_good := mem_t3 25 (by decide +kernel) rfl
theorem wd_960 : Cond.instanceMethod yX11_die ∈ lw_good := mem_t3 26 (by decide +kernel) rfl
theorem wd_961 : Cond.selects RX11 yX11_die yX11_die ∈ lw_good := mem_t3 27 (by decide +kernel) rfl
theorem wd_962 : Cond.code yX11_die cX11_die 9 (some .int) ∈ lw_good := mem_t3 28 rfl rfl
theorem wd_963 : Cond.methodLink RL 51 yX11_circle ∈ lw_good := mem_t3 30 (by decide +kernel) rfl
theorem wd_964 : Cond.instanceMethod yX11_circle ∈ lw_good := mem_t3 31 (by decide +kernel) rfl
theorem wd_965 : Cond.selects RX11 yX11_circle yX11_circle ∈ lw_good := mem_t3 32 (by decide +kernel) rfl
theorem wd_966 : Cond.code yX11_circle cX11_circle 2 (some .int) ∈ lw_good := mem_t3 33 rfl rfl
theorem wd_967 : Cond.methodLink RL 55 yX11_rule ∈ lw_good := mem_t3 38 (by decide +kernel) rfl
theorem wd_968 : Cond.instanceMethod yX11_rule ∈ lw_good := mem_t3 39 (by decide +kernel) rfl
theorem wd_969 : Cond.selects RX11 yX11_rule yX11_rule ∈ lw_good := mem_t3 40 (by decide +kernel) rfl
theorem wd_970 : Cond.code yX11_rule cX11_rule 6 (some .int) ∈ lw_good := mem_t3 41 rfl rfl
theorem wd_971 : Cond.methodLink RL 59 yX11_term ∈ lw_good := mem_t3 68 (by decide +kernel) rfl
theorem wd_972 : Cond.instanceMethod yX11_term ∈ lw_good := mem_t3 69 (by decide +kernel) rfl
theorem wd_973 : Cond.selects RX11 yX11_term yX11_term ∈ lw_good := mem_t3 70 (by decide +kernel) rfl
theorem wd_974 : Cond.code yX11_term cX11_term 7 (some .int) ∈ lw_good := mem_t3 71 rfl rfl
theorem wd_975 : Cond.methodLink RL 63 yX11_leaf ∈ lw_good := mem_t3 81 (by decide +kernel) rfl
theorem wd_976 : Cond.instanceMethod yX11_leaf ∈ lw_good := mem_t3 82 (by decide +kernel) rfl
theorem wd_977 : Cond.selects RX11 yX11_leaf yX11_leaf ∈ lw_good := mem_t3 83 (by decide +kernel) rfl
theorem wd_978 : Cond.code yX11_leaf cX11_leaf 6 (some .int) ∈ lw_good := mem_t3 84 rfl rfl
theorem wd_979 : Cond.methodLink RL 67 yX11_tear ∈ lw_good := mem_t3 107 (by decide +kernel) rfl
theorem wd_980 : Cond.instanceMethod yX11_tear ∈ lw_good := mem_t3 108 (by decide +kernel) rfl
theorem wd_981 : Cond.selects RX11 yX11_tear yX11_tear ∈ lw_good := mem_t3 109 (by decide +kernel) rfl
theorem wd_982 : Cond.code yX11_tear cX11_tear 5 (some .int) ∈ lw_good := mem_t3 110 rfl rfl
theorem wd_983 : Cond.methodLink RL 71 yX11_earn ∈ lw_good := mem_t3 115 (by decide +kernel) rfl
theorem wd_984 : Cond.instanceMethod yX11_earn ∈ lw_good := mem_t3 116 (by decide +kernel) rfl
theorem wd_985 : Cond.selects RX11 yX11_earn yX11_earn ∈ lw_good := mem_t3 117 (by decide +kernel) rfl
theorem wd_986 : Cond.code yX11_earn cX11_earn 4 (some .int) ∈ lw_good := mem_t3 118 rfl rfl
theorem wd_987 : Cond.methodLink RL 75 yX11_spend ∈ lw_good := mem_t3 147 (by decide +kernel) rfl
theorem wd_988 : Cond.instanceMethod yX11_spend ∈ lw_good := mem_t3 148 (by decide +kernel) rfl
theorem wd_989 : Cond.selects RX11 yX11_spend yX11_spend ∈ lw_good := mem_t3 149 (by decide +kernel) rfl
theorem wd_990 : Cond.code yX11_spend cX11_spend 4 (some .int) ∈ lw_good := mem_t3 150 rfl rfl
theorem wd_991 : Cond.methodLink RL 79 yX11_loose ∈ lw_good := mem_t3 151 (by decide +kernel) rfl
theorem wd_992 : Cond.instanceMethod yX11_loose ∈ lw_good := mem_t3 152 (by decide +kernel) rfl
theorem wd_993 : Cond.selects RX11 yX11_loose yX11_loose ∈ lw_good := mem_t3 153 (by decide +kernel) rfl
theorem wd_994 : Cond.code yX11_loose cX11_loose 4 (some .int) ∈ lw_good := mem_t3 154 rfl rfl
theorem wd_995 : Cond.methodLink RL 83 yX11_move ∈ lw_good := mem_t3 160 (by decide +kernel) rfl
theorem wd_996 : Cond.instanceMethod yX11_move ∈ lw_good := mem_t3 161 (by decide +kernel) rfl
theorem wd_997 : Cond.selects RX11 yX11_move yX11_move ∈ lw_good := mem_t3 162 (by decide +kernel) rfl
theorem wd_998 : Cond.code yX11_move cX11_move 8 (some .int) ∈ lw_good := mem_t3 163 rfl rfl
theorem wd_999 : Cond.methodLink RL 87 yX11_lend ∈ lw_good := mem_t3 182 (by decide +kernel) rfl
theorem wd_1000 : Cond.instanceMethod yX11_lend ∈ lw_good := mem_t3 183 (by decide +kernel) rfl
theorem wd_1001 : Cond.selects RX11 yX11_lend yX11_lend ∈ lw_good := mem_t3 184 (by decide +kernel) rfl
theorem wd_1002 : Cond.code yX11_lend cX11_lend 9 (some .int) ∈ lw_good := mem_t3 185 rfl rfl
theorem wd_1003 : Cond.methodLink RL 92 yX11_undo ∈ lw_good := mem_t3 187 (by decide +kernel) rfl
theorem wd_1004 : Cond.instanceMethod yX11_undo ∈ lw_good := mem_t3 188 (by decide +kernel) rfl
theorem wd_1005 : Cond.selects RX11 yX11_undo yX11_undo ∈ lw_good := mem_t3 189 (by decide +kernel) rfl
theorem wd_1006 : Cond.code yX11_undo cX11_undo 4 (some .int) ∈ lw_good := mem_t3 190 rfl rfl
theorem wd_1007 : Cond.methodLink RL 96 yX11_end ∈ lw_good := mem_t3 209 (by decide +kernel) rfl
theorem wd_1008 : Cond.instanceMethod yX11_end ∈ lw_good := mem_t3 210 (by decide +kernel) rfl
theorem wd_1009 : Cond.selects RX11 yX11_end yX11_end ∈ lw_good := mem_t3 211 (by decide +kernel) rfl
theorem wd_1010 : Cond.code yX11_end cX11_end 5 (some .int) ∈ lw_good := mem_t3 212 rfl rfl
theorem wd_1011 : Cond.methodLink RL 100 yX11_close ∈ lw_good := mem_t3 217 (by decide +kernel) rfl
theorem wd_1012 : Cond.instanceMethod yX11_close ∈ lw_good := mem_t3 218 (by decide +kernel) rfl
theorem wd_1013 : Cond.selects RX11 yX11_close yX11_close ∈ lw_good := mem_t3 219 (by decide +kernel) rfl
theorem wd_1014 : Cond.code yX11_close cX11_close 6 (some .int) ∈ lw_good := mem_t3 220 rfl rfl
theorem wd_1015 : Cond.methodLink RL 104 yX11_mend ∈ lw_good := mem_t4 204 (by decide +kernel) rfl
theorem wd_1016 : Cond.instanceMethod yX11_mend ∈ lw_good := mem_t4 205 (by decide +kernel) rfl
theorem wd_1017 : Cond.selects RX11 yX11_mend yX11_mend ∈ lw_good := mem_t4 206 (by decide +kernel) rfl
theorem wd_1018 : Cond.code yX11_mend cX11_mend 5 (some .int) ∈ lw_good := mem_t4 207 rfl rfl
theorem wd_1019 : Cond.methodLink RL 108 yX11_hidden ∈ lw_good := mem_t4 208 (by decide +kernel) rfl
theorem wd_1020 : Cond.instanceMethod yX11_hidden ∈ lw_good := mem_t4 209 (by decide +kernel) rfl
theorem wd_1021 : Cond.selects RX11 yX11_hidden yX11_hidden ∈ lw_good := mem_t4 210 (by decide +kernel) rfl
theorem wd_1022 : Cond.code yX11_hidden cX11_hidden 9 (some .int) ∈ lw_good := mem_t4 211 rfl rfl
theorem wd_1023 : Cond.methodLink RL 112 yX11_bear ∈ lw_good := mem_t4 222 (by decide +kernel) rfl
theorem wd_1024 : Cond.instanceMethod yX11_bear ∈ lw_good := mem_t4 223 (by decide +kernel) rfl
theorem wd_1025 : Cond.selects RX11 yX11_bear yX11_bear ∈ lw_good := mem_t4 224 (by decide +kernel) rfl
theorem wd_1026 : Cond.code yX11_bear cX11_bear 5 (some .int) ∈ lw_good := mem_t4 225 rfl rfl
theorem wd_1027 : Cond.methodLink RL 116 yX11_borne ∈ lw_good := mem_t5 2 (by decide +kernel) rfl
theorem wd_1028 : Cond.instanceMethod yX11_borne ∈ lw_good := mem_t5 3 (by decide +kernel) rfl
theorem wd_1029 : Cond.selects RX11 yX11_borne yX11_borne ∈ lw_good := mem_t5 4 (by decide +kernel) rfl
theorem wd_1030 : Cond.code yX11_borne cX11_borne 2 (some .int) ∈ lw_good := mem_t5 5 rfl rfl
theorem wd_1031 : Cond.methodLink RL 120 yX11_account ∈ lw_good := mem_t5 6 (by decide +kernel) rfl
theorem wd_1032 : Cond.instanceMethod yX11_account ∈ lw_good := mem_t5 7 (by decide +kernel) rfl
theorem wd_1033 : Cond.selects RX11 yX11_account yX11_account ∈ lw_good := mem_t5 8 (by decide +kernel) rfl
theorem wd_1034 : Cond.code yX11_account cX11_account 6 (some .long) ∈ lw_good := mem_t5 9 rfl rfl
theorem wd_1035 : Cond.methodLink RL 125 yX11_tenure ∈ lw_good := mem_t5 14 (by decide +kernel) rfl
theorem wd_1036 : Cond.instanceMethod yX11_tenure ∈ lw_good := mem_t5 15 (by decide +kernel) rfl
theorem wd_1037 : Cond.selects RX11 yX11_tenure yX11_tenure ∈ lw_good := mem_t5 16 (by decide +kernel) rfl
theorem wd_1038 : Cond.code yX11_tenure cX11_tenure 6 (some .int) ∈ lw_good := mem_t5 17 rfl rfl
theorem wd_1039 : Cond.methodLink RL 129 yX11_who ∈ lw_good := mem_t5 26 (by decide +kernel) rfl
theorem wd_1040 : Cond.instanceMethod yX11_who ∈ lw_good := mem_t5 27 (by decide +kernel) rfl
theorem wd_1041 : Cond.selects RX11 yX11_who yX11_who ∈ lw_good := mem_t5 28 (by decide +kernel) rfl
theorem wd_1042 : Cond.code yX11_who cX11_who 6 (some .int) ∈ lw_good := mem_t5 29 rfl rfl
theorem wd_1043 : Cond.methodLink RL 133 yX11_stretch ∈ lw_good := mem_t5 31 (by decide +kernel) rfl
theorem wd_1044 : Cond.instanceMethod yX11_stretch ∈ lw_good := mem_t5 32 (by decide +kernel) rfl
theorem wd_1045 : Cond.selects RX11 yX11_stretch yX11_stretch ∈ lw_good := mem_t5 33 (by decide +kernel) rfl
theorem wd_1046 : Cond.code yX11_stretch cX11_stretch 6 (some .long) ∈ lw_good := mem_t5 34 rfl rfl
theorem wd_1047 : Cond.methodLink RL 137 yX11_due ∈ lw_good := mem_t5 48 (by decide +kernel) rfl
theorem wd_1048 : Cond.instanceMethod yX11_due ∈ lw_good := mem_t5 49 (by decide +kernel) rfl
theorem wd_1049 : Cond.selects RX11 yX11_due yX11_due ∈ lw_good := mem_t5 50 (by decide +kernel) rfl
theorem wd_1050 : Cond.code yX11_due cX11_due 7 (some .long) ∈ lw_good := mem_t5 51 rfl rfl
theorem wd_1051 : Cond.methodLink RL 141 yX11_told ∈ lw_good := mem_t5 53 (by decide +kernel) rfl
theorem wd_1052 : Cond.instanceMethod yX11_told ∈ lw_good := mem_t5 54 (by decide +kernel) rfl
theorem wd_1053 : Cond.selects RX11 yX11_told yX11_told ∈ lw_good := mem_t5 55 (by decide +kernel) rfl
theorem wd_1054 : Cond.code yX11_told cX11_told 4 (some .int) ∈ lw_good := mem_t5 56 rfl rfl
theorem wd_1055 : Cond.methodLink RL 145 yX11_sum ∈ lw_good := mem_t5 62 (by decide +kernel) rfl
theorem wd_1056 : Cond.instanceMethod yX11_sum ∈ lw_good := mem_t5 63 (by decide +kernel) rfl
theorem wd_1057 : Cond.selects RX11 yX11_sum yX11_sum ∈ lw_good := mem_t5 64 (by decide +kernel) rfl
theorem wd_1058 : Cond.code yX11_sum cX11_sum 5 (some .long) ∈ lw_good := mem_t5 65 rfl rfl
theorem wd_1059 : Cond.methodLink RL 149 yX11_entry ∈ lw_good := mem_t5 67 (by decide +kernel) rfl
theorem wd_1060 : Cond.instanceMethod yX11_entry ∈ lw_good := mem_t5 68 (by decide +kernel) rfl
theorem wd_1061 : Cond.selects RX11 yX11_entry yX11_entry ∈ lw_good := mem_t5 69 (by decide +kernel) rfl
theorem wd_1062 : Cond.code yX11_entry cX11_entry 6 (some .long) ∈ lw_good := mem_t5 70 rfl rfl
theorem wd_1063 : Cond.methodLink RL 155 yX11_sheet ∈ lw_good := mem_t5 75 (by decide +kernel) rfl
theorem wd_1064 : Cond.instanceMethod yX11_sheet ∈ lw_good := mem_t5 76 (by decide +kernel) rfl
theorem wd_1065 : Cond.selects RX11 yX11_sheet yX11_sheet ∈ lw_good := mem_t5 77 (by decide +kernel) rfl
theorem wd_1066 : Cond.code yX11_sheet cX11_sheet 4 (some .int) ∈ lw_good := mem_t5 78 rfl rfl
theorem wd_1067 : Cond.methodLink RL 160 yX11_check ∈ lw_good := mem_t5 79 (by decide +kernel) rfl
theorem wd_1068 : Cond.instanceMethod yX11_check ∈ lw_good := mem_t5 80 (by decide +kernel) rfl
theorem wd_1069 : Cond.selects RX11 yX11_check yX11_check ∈ lw_good := mem_t5 81 (by decide +kernel) rfl
theorem wd_1070 : Cond.code yX11_check cX11_check 5 (some .int) ∈ lw_good := mem_t5 82 rfl rfl
theorem wd_1071 : Cond.methodLink RL 164 yX11_status ∈ lw_good := mem_t5 84 (by decide +kernel) rfl
theorem wd_1072 : Cond.instanceMethod yX11_status ∈ lw_good := mem_t5 85 (by decide +kernel) rfl
theorem wd_1073 : Cond.selects RX11 yX11_status yX11_status ∈ lw_good := mem_t5 86 (by decide +kernel) rfl
theorem wd_1074 : Cond.code yX11_status cX11_status 1 (some .int) ∈ lw_good := mem_t5 87 rfl rfl
theorem wd_1075 : Cond.methodLink RL 169 yX11_where ∈ lw_good := mem_t5 88 (by decide +kernel) rfl
theorem wd_1076 : Cond.instanceMethod yX11_where ∈ lw_good := mem_t5 89 (by decide +kernel) rfl
theorem wd_1077 : Cond.selects RX11 yX11_where yX11_where ∈ lw_good := mem_t5 90 (by decide +kernel) rfl
theorem wd_1078 : Cond.code yX11_where cX11_where 1 (some .int) ∈ lw_good := mem_t5 91 rfl rfl
set_option maxHeartbeats 4000000 in
set_option maxRecDepth 100000 in
theorem cx_house {p : Program} {l : Launch} {e : Env} {s : State} {m : MethodId} {below : List Frame} {meth : Method} {c : Code} {b Ln : Nat} {xs : Nat → Int32} (C0 : lw_At p s m meth c b Ln xs) {D : va_G} {cy : Nat → ClassId} {A : Nat → Prop} (hA : ∀ q, s.heap.size ≤ q → A q) (hN : NW s) (hK : va_K D vwCl (tysC cy) s) (hST : STAT A s) {xa x1 x3 : Nat} {T : Int} {PK PT : Nat → Int32} {SX : Nat → Nat → Int} {SY : Nat → Nat → Nat → Int32} {WH : Int32} {CA : Nat → Int32} {Wa Wb : va_W} {H : Heap} {locs : List Loc} {cells slots : Nat} {ls : Array Slot} {lv : List (Nat × Value)} (k1 : Int32)  (hcs : cells + 21 ≤ 600000 ∧ slots + 2800 ≤ 7302250) (hT : 0 ≤ T ∧ T ≤ 900000) (hSH : (∀ k, k < x1 → SV (SX k) (SY k)) ∧ (∀ k, k < x1 → HI (SX k) (SY k)) ∧ TNN x1 SX SY) (hXS : XSg cy xa x1 x3 (PS x1 x3 T PK PT SX SY WH CA) Wa) (hP1 : va_P D vwCl Wa H) (hP2 : va_P D vwCl Wb H) (hD1 : va_D A Wa) (hap : APT Wa Wb) (hS : va_S A s.heap H locs) (hl : lv_has ls 4 lv) (kk : ∀ (r : Int32) (Wc : va_W) (H1 : Heap) (locs1 : List Loc), r = ansH k1 x1 → XSg cy xa (cntH k1 x1) x3 (fun x0 x2 x5 x6 x8 x7 x9 x10 K L M => (∀ X9 Y9, (okHo x1 k1 → HOUSF k1 X9 Y9) → ∃ Bo, CX Bo K L x0 (cntH k1 x1) (T + 1) x3 PK PT (sxHo x1 SX k1 X9) (syHo x1 SY k1 Y9) M) ∧ PX x0 (cntH k1 x1) x2 x3 PK PT M ∧ x10 = (-1) ∧ RGC M x5 CA ∧ (∀ X9 Y9, (okHo x1 k1 → HOUSF k1 X9 Y9) → SCX x0 (cntH k1 x1) (sxHo x1 SX k1 X9) M)) Wc → va_P D vwCl Wc H1 → va_P D vwCl Wb H1 → va_D A Wc → APT Wc Wb → va_S A s.heap H1 locs1 → W p l e room_1 s m #[Value.ref b] below meth c H1 locs1 (cells + 21) (slots + 2800) (lw_Z below #[Value.ref b] s) (F0 m 205 ls [.int r])) : W p l e room_1 s m #[Value.ref b] below meth c H locs cells slots (lw_Z below #[Value.ref b] s) (F0 m 202 ls [.int k1, .ref xa]) := by
  obtain ⟨hx, hb, hr, hml, hown, hts, hX, hbl, hlocks, hgv⟩ := id C0
  have hg : ∀ w ∈ lw_good, w.before #[Value.ref b] s = true := fun w h => hts w (List.mem_filter.mp h).1
  have hown : s.vm.findClass RL = some m.cls := hown
  obtain ⟨hSV, hHI, hTN⟩ := hSH
  obtain ⟨x0, x2, x4, x5, x6, x7, x8, x9, x10, K, L, M, rfl, i0, b1, i2, b3, i4, i5, i6, i8, hW, ⟨Bo, hC⟩, hPX, hWH, hRG, hSC⟩ := hXS
  have hFc : ∀ q, va_A ([(xa, (b11_1 x0 (nI x1) x2 (nI x3) x4 x5 x6 x7 x8 x9 x10))] ++ va_pl L M) H.size q → A q := pg_free hD1 hS hA
  refine va_calli (va_runV (As := [.int k1]) (rest := []) ⟨hx, hb, hml, hown, hg⟩ (x_house l D cy K L M H.size xa x0 x1 x2 x3 x4 x5 x6 x7 x8 x9 x10 k1 Bo T PK PT SX SY hW i0 b1 i2 b3 i4 i5 i6 i8 hC hSV hHI hT hPX hSC) (cwV 1 hg (gV wd_931 wd_932 wd_933 wd_3 wd_934) rfl rfl rfl (by decide +kernel) ⟨(Nat.le_of_ble_eq_true rfl), (Nat.le_of_ble_eq_true rfl)⟩) ⟨PG.blind, va_recv hK hP1 (ci := 11) (q0 := 0) rfl rfl, fun U hU hW9 => ⟨rfl, PG.at hP1 hK hD1 hN hU hW9⟩⟩ rfl rfl hl.1 rfl (lv_room (Nat.le_of_ble_eq_true rfl)) dL_law_202 hcs) hS (fun q _ h => hFc q h) hFc (fun r u t H1 locs1 ht hvm hw hB hz1 hk1 hS1 => ?_)
  obtain ⟨K9, L9, M9⟩ := u
  dsimp only at hw hB
  obtain ⟨hx9, hW9, hF9, hpost⟩ := hw
  obtain ⟨w9, hg0, hg1, hg2, hP9, hD9⟩ := hB
  rw [ht] at hP9
  obtain ⟨hQ9, hap9⟩ := hap.step hP2 hk1 hD9
  exact kk r _ H1 locs1 hpost ⟨x0, x2, x4, x5, x6, x7, x8, w9, (-1), K9, L9, M9, rfl, (i0.ext hx9), (cntH_le b1), (i2.ext hx9), b3, (i4.ext hx9), (i5.ext hx9), (i6.ext hx9), (i8.ext hx9), hW9, ⟨hg0, hg1, rfl, (hRG.mv (RGS.of hW i5 hF9 (by decide) (by decide))), hg2⟩⟩ hP9 hQ9 (hD9.mono hFc) hap9 hS1
set_option maxHeartbeats 4000000 in
set_option maxRecDepth 100000 in
theorem cx_partner {p : Program} {l : Launch} {e : Env} {s : State} {m : MethodId} {below : List Frame} {meth : Method} {c : Code} {b Ln : Nat} {xs : Nat → Int32} (C0 : lw_At p s m meth c b Ln xs) {D : va_G} {cy : Nat → ClassId} {A : Nat → Prop} (hA : ∀ q, s.heap.size ≤ q → A q) (hN : NW s) (hK : va_K D vwCl (tysC cy) s) (hST : STAT A s) {xa x1 x3 : Nat} {T : Int} {PK PT : Nat → Int32} {SX : Nat → Nat → Int} {SY : Nat → Nat → Nat → Int32} {WH : Int32} {CA : Nat → Int32} {Wa Wb : va_W} {H : Heap} {locs : List Loc} {cells slots : Nat} {ls : Array Slot} {lv : List (Nat × Value)} (k1 : Int32) (k2 : Int32)  (hcs : cells + 1 ≤ 600000 ∧ slots + 4 ≤ 7302250) (hT : 0 ≤ T ∧ T ≤ 900000) (hSH : (∀ k, k < x1 → SV (SX k) (SY k)) ∧ (∀ k, k < x1 → HI (SX k) (SY k)) ∧ TNN x1 SX SY) (hXS : XSg cy xa x1 x3 (PS x1 x3 T PK PT SX SY WH CA) Wa) (hP1 : va_P D vwCl Wa H) (hP2 : va_P D vwCl Wb H) (hD1 : va_D A Wa) (hap : APT Wa Wb) (hS : va_S A s.heap H locs) (hl : lv_has ls 4 lv) (kk : ∀ (r : Int32) (Wc : va_W) (H1 : Heap) (locs1 : List Loc), r = anPa x1 x3 k1 k2 → XSg cy xa x1 (cnPa x1 x3 k1 k2) (fun x0 x2 x5 x6 x8 x7 x9 x10 K L M => (∃ Bo, CX Bo K L x0 x1 (T + 1) (cnPa x1 x3 k1 k2) (pkPa x1 x3 PK k1 k2) (ptPa x1 x3 PT k1 k2) SX SY M) ∧ PX x0 x1 x2 (cnPa x1 x3 k1 k2) (pkPa x1 x3 PK k1 k2) (ptPa x1 x3 PT k1 k2) M ∧ x10 = (-1) ∧ RGC M x5 CA ∧ (SCX x0 x1 SX M)) Wc → va_P D vwCl Wc H1 → va_P D vwCl Wb H1 → va_D A Wc → APT Wc Wb → va_S A s.heap H1 locs1 → W p l e room_1 s m #[Value.ref b] below meth c H1 locs1 (cells + 1) (slots + 4) (lw_Z below #[Value.ref b] s) (F0 m 233 ls [.int r])) : W p l e room_1 s m #[Value.ref b] below meth c H locs cells slots (lw_Z below #[Value.ref b] s) (F0 m 230 ls [.int k2, .int k1, .ref xa]) := by
  obtain ⟨hx, hb, hr, hml, hown, hts, hX, hbl, hlocks, hgv⟩ := id C0
  have hg : ∀ w ∈ lw_good, w.before #[Value.ref b] s = true := fun w h => hts w (List.mem_filter.mp h).1
  have hown : s.vm.findClass RL = some m.cls := hown
  obtain ⟨hSV, hHI, hTN⟩ := hSH
  obtain ⟨x0, x2, x4, x5, x6, x7, x8, x9, x10, K, L, M, rfl, i0, b1, i2, b3, i4, i5, i6, i8, hW, ⟨Bo, hC⟩, hPX, hWH, hRG, hSC⟩ := hXS
  have hFc : ∀ q, va_A ([(xa, (b11_1 x0 (nI x1) x2 (nI x3) x4 x5 x6 x7 x8 x9 x10))] ++ va_pl L M) H.size q → A q := pg_free hD1 hS hA
  refine va_calli (va_runV (As := [.int k1, .int k2]) (rest := []) ⟨hx, hb, hml, hown, hg⟩ (x_partner l D cy K L M H.size xa x0 x1 x2 x3 x4 x5 x6 x7 x8 x9 x10 k1 k2 Bo T PK PT SX SY hW i0 b1 i2 b3 i4 i5 i6 i8 hC hSV hHI hT hPX) (cwV 2 hg (gV wd_935 wd_936 wd_937 wd_3 wd_938) rfl rfl rfl (by decide +kernel) ⟨(Nat.le_of_ble_eq_true rfl), (Nat.le_of_ble_eq_true rfl)⟩) ⟨PG.blind, va_recv hK hP1 (ci := 11) (q0 := 0) rfl rfl, fun U hU hW9 => ⟨rfl, PG.at hP1 hK hD1 hN hU hW9⟩⟩ rfl rfl hl.1 rfl (lv_room (Nat.le_of_ble_eq_true rfl)) dL_law_230 hcs) hS (fun q _ h => hFc q h) hFc (fun r u t H1 locs1 ht hvm hw hB hz1 hk1 hS1 => ?_)
  obtain ⟨K9, L9, M9⟩ := u
  dsimp only at hw hB
  obtain ⟨hx9, hW9, hF9, hpost⟩ := hw
  obtain ⟨w9, hg0, hg1, hP9, hD9⟩ := hB
  rw [ht] at hP9
  obtain ⟨hQ9, hap9⟩ := hap.step hP2 hk1 hD9
  exact kk r _ H1 locs1 hpost ⟨x0, x2, x4, x5, x6, x7, x8, w9, (-1), K9, L9, M9, rfl, (i0.ext hx9), b1, (i2.ext hx9), (cnPa_le b3), (i4.ext hx9), (i5.ext hx9), (i6.ext hx9), (i8.ext hx9), hW9, ⟨⟨Bo, hg0⟩, hg1, rfl, (hRG.mv (RGS.of hW i5 hF9 (by decide) (by decide))), (SCX.mv hSC hW i0 b1 (by rw [hF9.at i0 (by decide)]) (fr19 hF9 (by decide)) (fun c ic => hF9.at ic (by decide)) (fun _ => rfl))⟩⟩ hP9 hQ9 (hD9.mono hFc) hap9 hS1
set_option maxHeartbeats 4000000 in
set_option maxRecDepth 100000 in
theorem cx_letter {p : Program} {l : Launch} {e : Env} {s : State} {m : MethodId} {below : List Frame} {meth : Method} {c : Code} {b Ln : Nat} {xs : Nat → Int32} (C0 : lw_At p s m meth c b Ln xs) {D : va_G} {cy : Nat → ClassId} {A : Nat → Prop} (hA : ∀ q, s.heap.size ≤ q → A q) (hN : NW s) (hK : va_K D vwCl (tysC cy) s) (hST : STAT A s) {xa x1 x3 : Nat} {T : Int} {PK PT : Nat → Int32} {SX : Nat → Nat → Int} {SY : Nat → Nat → Nat → Int32} {WH : Int32} {CA : Nat → Int32} {Wa Wb : va_W} {H : Heap} {locs : List Loc} {cells slots : Nat} {ls : Array Slot} {lv : List (Nat × Value)} (k1 : Int32) (k2 : Int32) (k3 : Int32)  (hcs : cells + 0 ≤ 600000 ∧ slots + 0 ≤ 7302250) (hT : 0 ≤ T ∧ T ≤ 900000) (hSH : (∀ k, k < x1 → SV (SX k) (SY k)) ∧ (∀ k, k < x1 → HI (SX k) (SY k)) ∧ TNN x1 SX SY) (hXS : XSg cy xa x1 x3 (PS x1 x3 T PK PT SX SY WH CA) Wa) (hP1 : va_P D vwCl Wa H) (hP2 : va_P D vwCl Wb H) (hD1 : va_D A Wa) (hap : APT Wa Wb) (hS : va_S A s.heap H locs) (hl : lv_has ls 4 lv) (kk : ∀ (r : Int32) (Wc : va_W) (H1 : Heap) (locs1 : List Loc), r = anLe x1 SY k1 k2 k3 → XSg cy xa x1 x3 (fun x0 x2 x5 x6 x8 x7 x9 x10 K L M => (∃ Bo, CX Bo K L x0 x1 (T + 1) x3 PK PT SX (syLe x1 SY k1 k2 k3) M) ∧ PX x0 x1 x2 x3 PK PT M ∧ x10 = (-1) ∧ RGC M x5 CA ∧ (SCX x0 x1 SX M)) Wc → va_P D vwCl Wc H1 → va_P D vwCl Wb H1 → va_D A Wc → APT Wc Wb → va_S A s.heap H1 locs1 → W p l e room_1 s m #[Value.ref b] below meth c H1 locs1 (cells + 0) (slots + 0) (lw_Z below #[Value.ref b] s) (F0 m 271 ls [.int r])) : W p l e room_1 s m #[Value.ref b] below meth c H locs cells slots (lw_Z below #[Value.ref b] s) (F0 m 268 ls [.int k3, .int k2, .int k1, .ref xa]) := by
  obtain ⟨hx, hb, hr, hml, hown, hts, hX, hbl, hlocks, hgv⟩ := id C0
  have hg : ∀ w ∈ lw_good, w.before #[Value.ref b] s = true := fun w h => hts w (List.mem_filter.mp h).1
  have hown : s.vm.findClass RL = some m.cls := hown
  obtain ⟨hSV, hHI, hTN⟩ := hSH
  obtain ⟨x0, x2, x4, x5, x6, x7, x8, x9, x10, K, L, M, rfl, i0, b1, i2, b3, i4, i5, i6, i8, hW, ⟨Bo, hC⟩, hPX, hWH, hRG, hSC⟩ := hXS
  have hFc : ∀ q, va_A ([(xa, (b11_1 x0 (nI x1) x2 (nI x3) x4 x5 x6 x7 x8 x9 x10))] ++ va_pl L M) H.size q → A q := pg_free hD1 hS hA
  refine va_calli (va_runV (As := [.int k1, .int k2, .int k3]) (rest := []) ⟨hx, hb, hml, hown, hg⟩ (x_letter l D cy K L M H.size xa x0 x1 x2 x3 x4 x5 x6 x7 x8 x9 x10 k1 k2 k3 Bo T PK PT SX SY hW i0 b1 i2 b3 i4 i5 i6 i8 hC hSV hHI hT) (cwV 3 hg (gV wd_939 wd_940 wd_941 wd_3 wd_942) rfl rfl rfl (by decide +kernel) ⟨(Nat.le_of_ble_eq_true rfl), (Nat.le_of_ble_eq_true rfl)⟩) ⟨PG.blind, va_recv hK hP1 (ci := 11) (q0 := 0) rfl rfl, fun U hU hW9 => ⟨rfl, PG.at hP1 hK hD1 hN hU hW9⟩⟩ rfl rfl hl.1 rfl (lv_room (Nat.le_of_ble_eq_true rfl)) dL_law_268 hcs) hS (fun q _ h => hFc q h) hFc (fun r u t H1 locs1 ht hvm hw hB hz1 hk1 hS1 => ?_)
  obtain ⟨hW9, hF9, hVP, hpost⟩ := hw
  obtain ⟨w9, hP9, hD9⟩ := hB
  rw [ht] at hP9
  obtain ⟨hQ9, hap9⟩ := hap.step hP2 hk1 hD9
  exact kk r _ H1 locs1 hpost ⟨x0, x2, x4, x5, x6, x7, x8, w9, (-1), K, L, u, rfl, i0, b1, i2, b3, i4, i5, i6, i8, hW9, ⟨⟨Bo, hVP⟩, (PX.mv hPX hW i0 i2 b3 hF9 (by decide) (by decide) (by decide)), rfl, (hRG.mv (RGS.of hW i5 hF9 (by decide) (by decide))), (SCX.mv hSC hW i0 b1 (by rw [hF9.at i0 (by decide)]) (fr19 hF9 (by decide)) (fun c ic => hF9.at ic (by decide)) (fun _ => rfl))⟩⟩ hP9 hQ9 (hD9.mono hFc) hap9 hS1
set_option maxHeartbeats 4000000 in
set_option maxRecDepth 100000 in
theorem cx_unseal {p : Program} {l : Launch} {e : Env} {s : State} {m : MethodId} {below : List Frame} {meth : Method} {c : Code} {b Ln : Nat} {xs : Nat → Int32} (C0 : lw_At p s m meth c b Ln xs) {D : va_G} {cy : Nat → ClassId} {A : Nat → Prop} (hA : ∀ q, s.heap.size ≤ q → A q) (hN : NW s) (hK : va_K D vwCl (tysC cy) s) (hST : STAT A s) {xa x1 x3 : Nat} {T : Int} {PK PT : Nat → Int32} {SX : Nat → Nat → Int} {SY : Nat → Nat → Nat → Int32} {WH : Int32} {CA : Nat → Int32} {Wa Wb : va_W} {H : Heap} {locs : List Loc} {cells slots : Nat} {ls : Array Slot} {lv : List (Nat × Value)} (k1 : Int32) (k2 : Int32)  (hcs : cells + 0 ≤ 600000 ∧ slots + 0 ≤ 7302250) (hT : 0 ≤ T ∧ T ≤ 900000) (hSH : (∀ k, k < x1 → SV (SX k) (SY k)) ∧ (∀ k, k < x1 → HI (SX k) (SY k)) ∧ TNN x1 SX SY) (hXS : XSg cy xa x1 x3 (PS x1 x3 T PK PT SX SY WH CA) Wa) (hP1 : va_P D vwCl Wa H) (hP2 : va_P D vwCl Wb H) (hD1 : va_D A Wa) (hap : APT Wa Wb) (hS : va_S A s.heap H locs) (hl : lv_has ls 4 lv) (kk : ∀ (r : Int32) (Wc : va_W) (H1 : Heap) (locs1 : List Loc), r = anUn x1 SY k1 k2 → XSg cy xa x1 x3 (fun x0 x2 x5 x6 x8 x7 x9 x10 K L M => (∃ Bo, CX Bo K L x0 x1 (T + 1) x3 PK PT SX (syUn x1 SY k1 k2) M) ∧ PX x0 x1 x2 x3 PK PT M ∧ x10 = (-1) ∧ RGC M x5 CA ∧ (SCX x0 x1 SX M)) Wc → va_P D vwCl Wc H1 → va_P D vwCl Wb H1 → va_D A Wc → APT Wc Wb → va_S A s.heap H1 locs1 → W p l e room_1 s m #[Value.ref b] below meth c H1 locs1 (cells + 0) (slots + 0) (lw_Z below #[Value.ref b] s) (F0 m 309 ls [.int r])) : W p l e room_1 s m #[Value.ref b] below meth c H locs cells slots (lw_Z below #[Value.ref b] s) (F0 m 306 ls [.int k2, .int k1, .ref xa]) := by
  obtain ⟨hx, hb, hr, hml, hown, hts, hX, hbl, hlocks, hgv⟩ := id C0
  have hg : ∀ w ∈ lw_good, w.before #[Value.ref b] s = true := fun w h => hts w (List.mem_filter.mp h).1
  have hown : s.vm.findClass RL = some m.cls := hown
  obtain ⟨hSV, hHI, hTN⟩ := hSH
  obtain ⟨x0, x2, x4, x5, x6, x7, x8, x9, x10, K, L, M, rfl, i0, b1, i2, b3, i4, i5, i6, i8, hW, ⟨Bo, hC⟩, hPX, hWH, hRG, hSC⟩ := hXS
  have hFc : ∀ q, va_A ([(xa, (b11_1 x0 (nI x1) x2 (nI x3) x4 x5 x6 x7 x8 x9 x10))] ++ va_pl L M) H.size q → A q := pg_free hD1 hS hA
  refine va_calli (va_runV (As := [.int k1, .int k2]) (rest := []) ⟨hx, hb, hml, hown, hg⟩ (x_unseal l D cy K L M H.size xa x0 x1 x2 x3 x4 x5 x6 x7 x8 x9 x10 k1 k2 Bo T PK PT SX SY hW i0 b1 i2 b3 i4 i5 i6 i8 hC hSV hHI hT) (cwV 2 hg (gV wd_943 wd_944 wd_945 wd_3 wd_946) rfl rfl rfl (by decide +kernel) ⟨(Nat.le_of_ble_eq_true rfl), (Nat.le_of_ble_eq_true rfl)⟩) ⟨PG.blind, va_recv hK hP1 (ci := 11) (q0 := 0) rfl rfl, fun U hU hW9 => ⟨rfl, PG.at hP1 hK hD1 hN hU hW9⟩⟩ rfl rfl hl.1 rfl (lv_room (Nat.le_of_ble_eq_true rfl)) dL_law_306 hcs) hS (fun q _ h => hFc q h) hFc (fun r u t H1 locs1 ht hvm hw hB hz1 hk1 hS1 => ?_)
  obtain ⟨hW9, hF9, hVP, hpost⟩ := hw
  obtain ⟨w9, hP9, hD9⟩ := hB
  rw [ht] at hP9
  obtain ⟨hQ9, hap9⟩ := hap.step hP2 hk1 hD9
  exact kk r _ H1 locs1 hpost ⟨x0, x2, x4, x5, x6, x7, x8, w9, (-1), K, L, u, rfl, i0, b1, i2, b3, i4, i5, i6, i8, hW9, ⟨⟨Bo, hVP⟩, (PX.mv hPX hW i0 i2 b3 hF9 (by decide) (by decide) (by decide)), rfl, (hRG.mv (RGS.of hW i5 hF9 (by decide) (by decide))), (SCX.mv hSC hW i0 b1 (by rw [hF9.at i0 (by decide)]) (fr19 hF9 (by decide)) (fun c ic => hF9.at ic (by decide)) (fun _ => rfl))⟩⟩ hP9 hQ9 (hD9.mono hFc) hap9 hS1
set_option maxHeartbeats 4000000 in
set_option maxRecDepth 100000 in
theorem cx_holds {p : Program} {l : Launch} {e : Env} {s : State} {m : MethodId} {below : List Frame} {meth : Method} {c : Code} {b Ln : Nat} {xs : Nat → Int32} (C0 : lw_At p s m meth c b Ln xs) {D : va_G} {cy : Nat → ClassId} {A : Nat → Prop} (hA : ∀ q, s.heap.size ≤ q → A q) (hN : NW s) (hK : va_K D vwCl (tysC cy) s) (hST : STAT A s) {xa x1 x3 : Nat} {T : Int} {PK PT : Nat → Int32} {SX : Nat → Nat → Int} {SY : Nat → Nat → Nat → Int32} {WH : Int32} {CA : Nat → Int32} {Wa Wb : va_W} {H : Heap} {locs : List Loc} {cells slots : Nat} {ls : Array Slot} {lv : List (Nat × Value)} (k1 : Int32) (k2 : Int32)  (hcs : cells + 0 ≤ 600000 ∧ slots + 0 ≤ 7302250) (hT : 0 ≤ T ∧ T ≤ 900000) (hSH : (∀ k, k < x1 → SV (SX k) (SY k)) ∧ (∀ k, k < x1 → HI (SX k) (SY k)) ∧ TNN x1 SX SY) (hXS : XSg cy xa x1 x3 (PS x1 x3 T PK PT SX SY WH CA) Wa) (hP1 : va_P D vwCl Wa H) (hP2 : va_P D vwCl Wb H) (hD1 : va_D A Wa) (hap : APT Wa Wb) (hS : va_S A s.heap H locs) (hl : lv_has ls 4 lv) (kk : ∀ (r : Int32) (Wc : va_W) (H1 : Heap) (locs1 : List Loc), r = anHo x1 SY k1 k2 → XSg cy xa x1 x3 (fun x0 x2 x5 x6 x8 x7 x9 x10 K L M => (∃ Bo, CX Bo K L x0 x1 (T + 1) x3 PK PT SX SY M) ∧ PX x0 x1 x2 x3 PK PT M ∧ x10 = (-1) ∧ RGC M x5 CA ∧ (SCX x0 x1 SX M)) Wc → va_P D vwCl Wc H1 → va_P D vwCl Wb H1 → va_D A Wc → APT Wc Wb → va_S A s.heap H1 locs1 → W p l e room_1 s m #[Value.ref b] below meth c H1 locs1 (cells + 0) (slots + 0) (lw_Z below #[Value.ref b] s) (F0 m 342 ls [.int r])) : W p l e room_1 s m #[Value.ref b] below meth c H locs cells slots (lw_Z below #[Value.ref b] s) (F0 m 339 ls [.int k2, .int k1, .ref xa]) := by
  obtain ⟨hx, hb, hr, hml, hown, hts, hX, hbl, hlocks, hgv⟩ := id C0
  have hg : ∀ w ∈ lw_good, w.before #[Value.ref b] s = true := fun w h => hts w (List.mem_filter.mp h).1
  have hown : s.vm.findClass RL = some m.cls := hown
  obtain ⟨hSV, hHI, hTN⟩ := hSH
  obtain ⟨x0, x2, x4, x5, x6, x7, x8, x9, x10, K, L, M, rfl, i0, b1, i2, b3, i4, i5, i6, i8, hW, ⟨Bo, hC⟩, hPX, hWH, hRG, hSC⟩ := hXS
  have hFc : ∀ q, va_A ([(xa, (b11_1 x0 (nI x1) x2 (nI x3) x4 x5 x6 x7 x8 x9 x10))] ++ va_pl L M) H.size q → A q := pg_free hD1 hS hA
  refine va_calli (va_runV (As := [.int k1, .int k2]) (rest := []) ⟨hx, hb, hml, hown, hg⟩ (x_holds l D cy K L M H.size xa x0 x1 x2 x3 x4 x5 x6 x7 x8 x9 x10 k1 k2 Bo T PK PT SX SY hW i0 b1 i2 b3 i4 i5 i6 i8 hC hSV hHI hT) (cwV 2 hg (gV wd_947 wd_948 wd_949 wd_3 wd_950) rfl rfl rfl (by decide +kernel) ⟨(Nat.le_of_ble_eq_true rfl), (Nat.le_of_ble_eq_true rfl)⟩) ⟨PG.blind, va_recv hK hP1 (ci := 11) (q0 := 0) rfl rfl, fun U hU hW9 => ⟨rfl, PG.at hP1 hK hD1 hN hU hW9⟩⟩ rfl rfl hl.1 rfl (lv_room (Nat.le_of_ble_eq_true rfl)) dL_law_339 hcs) hS (fun q _ h => hFc q h) hFc (fun r u t H1 locs1 ht hvm hw hB hz1 hk1 hS1 => ?_)
  have hpost := hw
  have hW9 := hW
  obtain ⟨w9, hP9, hD9⟩ := hB
  rw [ht] at hP9
  obtain ⟨hQ9, hap9⟩ := hap.step hP2 hk1 hD9
  exact kk r _ H1 locs1 hpost ⟨x0, x2, x4, x5, x6, x7, x8, w9, (-1), K, L, M, rfl, i0, b1, i2, b3, i4, i5, i6, i8, hW9, ⟨⟨Bo, hC.mono⟩, hPX, rfl, hRG, hSC⟩⟩ hP9 hQ9 (hD9.mono hFc) hap9 hS1
set_option maxHeartbeats 4000000 in
set_option maxRecDepth 100000 in
theorem cx_join_0 {p : Program} {l : Launch} {e : Env} {s : State} {m : MethodId} {below : List Frame} {meth : Method} {c : Code} {b Ln : Nat} {xs : Nat → Int32} (C0 : lw_At p s m meth c b Ln xs) {D : va_G} {cy : Nat → ClassId} {A : Nat → Prop} (hA : ∀ q, s.heap.size ≤ q → A q) (hN : NW s) (hK : va_K D vwCl (tysC cy) s) (hST : STAT A s) {xa x1 x3 : Nat} {T : Int} {PK PT : Nat → Int32} {SX : Nat → Nat → Int} {SY : Nat → Nat → Nat → Int32} {WH : Int32} {CA : Nat → Int32} {Wa Wb : va_W} {H : Heap} {locs : List Loc} {cells slots : Nat} {ls : Array Slot} {lv : List (Nat × Value)} (k1 : Int32) (k2 : Int32) (k3 : Int32) (k4 : Int32)  (hcs : cells + 1 ≤ 600000 ∧ slots + 16 ≤ 7302250) (hT : 0 ≤ T ∧ T ≤ 900000) (hSH : (∀ k, k < x1 → SV (SX k) (SY k)) ∧ (∀ k, k < x1 → HI (SX k) (SY k)) ∧ TNN x1 SX SY) (hXS : XSg cy xa x1 x3 (PS x1 x3 T PK PT SX SY WH CA) Wa) (hP1 : va_P D vwCl Wa H) (hP2 : va_P D vwCl Wb H) (hD1 : va_D A Wa) (hap : APT Wa Wb) (hS : va_S A s.heap H locs) (hl : lv_has ls 4 lv) (kk : ∀ (r : Int32) (Wc : va_W) (H1 : Heap) (locs1 : List Loc), r = anJo x1 x3 PK PT SX SY k1 k2 k3 k4 → XSg cy xa x1 x3 (fun x0 x2 x5 x6 x8 x7 x9 x10 K L M => (∃ Bo, CX Bo K L x0 x1 (T + 1) x3 PK PT (sxJo x1 x3 PK PT SX SY k1 k2 k3 k4) (syJo x1 x3 PK PT SX SY k1 k2 k3 k4 0) M) ∧ PX x0 x1 x2 x3 PK PT M ∧ x10 = (-1) ∧ RGC M x5 (caJo x1 x3 PK PT SX SY k1 k2 k3 k4) ∧ (SCX x0 x1 (sxJo x1 x3 PK PT SX SY k1 k2 k3 k4) M)) Wc → va_P D vwCl Wc H1 → va_P D vwCl Wb H1 → va_D A Wc → APT Wc Wb → va_S A s.heap H1 locs1 → W p l e room_1 s m #[Value.ref b] below meth c H1 locs1 (cells + 1) (slots + 16) (lw_Z below #[Value.ref b] s) (F0 m 398 ls [.int r])) : W p l e room_1 s m #[Value.ref b] below meth c H locs cells slots (lw_Z below #[Value.ref b] s) (F0 m 395 ls [.int 0, .int k4, .int k3, .int k2, .int k1, .ref xa]) := by
  obtain ⟨hx, hb, hr, hml, hown, hts, hX, hbl, hlocks, hgv⟩ := id C0
  have hg : ∀ w ∈ lw_good, w.before #[Value.ref b] s = true := fun w h => hts w (List.mem_filter.mp h).1
  have hown : s.vm.findClass RL = some m.cls := hown
  obtain ⟨hSV, hHI, hTN⟩ := hSH
  obtain ⟨x0, x2, x4, x5, x6, x7, x8, x9, x10, K, L, M, rfl, i0, b1, i2, b3, i4, i5, i6, i8, hW, ⟨Bo, hC⟩, hPX, hWH, hRG, hSC⟩ := hXS
  have hFc : ∀ q, va_A ([(xa, (b11_1 x0 (nI x1) x2 (nI x3) x4 x5 x6 x7 x8 x9 x10))] ++ va_pl L M) H.size q → A q := pg_free hD1 hS hA
  refine va_calli (va_runV (As := [.int k1, .int k2, .int k3, .int k4, .int 0]) (rest := []) ⟨hx, hb, hml, hown, hg⟩ (x_join_0 l D cy K L M H.size xa x0 x1 x2 x3 x4 x5 x6 x7 x8 x9 x10 k1 k2 k3 k4 Bo T PK PT SX SY hW i0 b1 i2 b3 i4 i5 i6 i8 hC hSV hHI hT hPX) (cwV 5 hg (gV wd_951 wd_952 wd_953 wd_3 wd_954) rfl rfl rfl (by decide +kernel) ⟨(Nat.le_of_ble_eq_true rfl), (Nat.le_of_ble_eq_true rfl)⟩) ⟨PG.blind, va_recv hK hP1 (ci := 11) (q0 := 0) rfl rfl, fun U hU hW9 => ⟨rfl, PG.at hP1 hK hD1 hN hU hW9⟩⟩ rfl rfl hl.1 rfl (lv_room (Nat.le_of_ble_eq_true rfl)) dL_law_395 hcs) hS (fun q _ h => hFc q h) hFc (fun r u t H1 locs1 ht hvm hw hB hz1 hk1 hS1 => ?_)
  obtain ⟨K9, L9, M9⟩ := u
  dsimp only at hw hB
  obtain ⟨hx9, hW9, hF9, gT2, hpost⟩ := hw
  obtain ⟨w9, hg0, hg1, hP9, hD9⟩ := hB
  rw [ht] at hP9
  obtain ⟨hQ9, hap9⟩ := hap.step hP2 hk1 hD9
  exact kk r _ H1 locs1 hpost ⟨x0, x2, x4, x5, x6, x7, x8, w9, (-1), K9, L9, M9, rfl, (i0.ext hx9), b1, (i2.ext hx9), b3, (i4.ext hx9), (i5.ext hx9), (i6.ext hx9), (i8.ext hx9), hW9, ⟨hg0, (PX.mv hPX hW i0 i2 b3 hF9 (by decide) (by decide) (by decide)), rfl, hg1, (SCX.mv hSC hW i0 b1 (by rw [hF9.at i0 (by decide)]) (fT19 (W2 hW) gT2 (by decide)) (fun c ic => hF9.at ic (by decide)) (fun j => by unfold sxJo; repeat' (first | rfl | exact va17 (by rfl) j | exact va17 (lKdn _ _ _ _ _ (by decide)) j | exact va17 ((va_up_ne _ _ (by decide)).trans (lKdn _ _ _ _ _ (by decide))) j | refine ite17 ?_ ?_)))⟩⟩ hP9 hQ9 (hD9.mono hFc) hap9 hS1
set_option maxHeartbeats 4000000 in
set_option maxRecDepth 100000 in
theorem cx_join_1 {p : Program} {l : Launch} {e : Env} {s : State} {m : MethodId} {below : List Frame} {meth : Method} {c : Code} {b Ln : Nat} {xs : Nat → Int32} (C0 : lw_At p s m meth c b Ln xs) {D : va_G} {cy : Nat → ClassId} {A : Nat → Prop} (hA : ∀ q, s.heap.size ≤ q → A q) (hN : NW s) (hK : va_K D vwCl (tysC cy) s) (hST : STAT A s) {xa x1 x3 : Nat} {T : Int} {PK PT : Nat → Int32} {SX : Nat → Nat → Int} {SY : Nat → Nat → Nat → Int32} {WH : Int32} {CA : Nat → Int32} {Wa Wb : va_W} {H : Heap} {locs : List Loc} {cells slots : Nat} {ls : Array Slot} {lv : List (Nat × Value)} (k1 : Int32) (k2 : Int32) (k3 : Int32) (k4 : Int32)  (hcs : cells + 1 ≤ 600000 ∧ slots + 16 ≤ 7302250) (hT : 0 ≤ T ∧ T ≤ 900000) (hSH : (∀ k, k < x1 → SV (SX k) (SY k)) ∧ (∀ k, k < x1 → HI (SX k) (SY k)) ∧ TNN x1 SX SY) (hXS : XSg cy xa x1 x3 (PS x1 x3 T PK PT SX SY WH CA) Wa) (hP1 : va_P D vwCl Wa H) (hP2 : va_P D vwCl Wb H) (hD1 : va_D A Wa) (hap : APT Wa Wb) (hS : va_S A s.heap H locs) (hl : lv_has ls 4 lv) (kk : ∀ (r : Int32) (Wc : va_W) (H1 : Heap) (locs1 : List Loc), r = anJo x1 x3 PK PT SX SY k1 k2 k3 k4 → XSg cy xa x1 x3 (fun x0 x2 x5 x6 x8 x7 x9 x10 K L M => (∃ Bo, CX Bo K L x0 x1 (T + 1) x3 PK PT (sxJo x1 x3 PK PT SX SY k1 k2 k3 k4) (syJo x1 x3 PK PT SX SY k1 k2 k3 k4 1) M) ∧ PX x0 x1 x2 x3 PK PT M ∧ x10 = (-1) ∧ RGC M x5 (caJo x1 x3 PK PT SX SY k1 k2 k3 k4) ∧ (SCX x0 x1 (sxJo x1 x3 PK PT SX SY k1 k2 k3 k4) M)) Wc → va_P D vwCl Wc H1 → va_P D vwCl Wb H1 → va_D A Wc → APT Wc Wb → va_S A s.heap H1 locs1 → W p l e room_1 s m #[Value.ref b] below meth c H1 locs1 (cells + 1) (slots + 16) (lw_Z below #[Value.ref b] s) (F0 m 398 ls [.int r])) : W p l e room_1 s m #[Value.ref b] below meth c H locs cells slots (lw_Z below #[Value.ref b] s) (F0 m 395 ls [.int 1, .int k4, .int k3, .int k2, .int k1, .ref xa]) := by
  obtain ⟨hx, hb, hr, hml, hown, hts, hX, hbl, hlocks, hgv⟩ := id C0
  have hg : ∀ w ∈ lw_good, w.before #[Value.ref b] s = true := fun w h => hts w (List.mem_filter.mp h).1
  have hown : s.vm.findClass RL = some m.cls := hown
  obtain ⟨hSV, hHI, hTN⟩ := hSH
  obtain ⟨x0, x2, x4, x5, x6, x7, x8, x9, x10, K, L, M, rfl, i0, b1, i2, b3, i4, i5, i6, i8, hW, ⟨Bo, hC⟩, hPX, hWH, hRG, hSC⟩ := hXS
  have hFc : ∀ q, va_A ([(xa, (b11_1 x0 (nI x1) x2 (nI x3) x4 x5 x6 x7 x8 x9 x10))] ++ va_pl L M) H.size q → A q := pg_free hD1 hS hA
  refine va_calli (va_runV (As := [.int k1, .int k2, .int k3, .int k4, .int 1]) (rest := []) ⟨hx, hb, hml, hown, hg⟩ (x_join_1 l D cy K L M H.size xa x0 x1 x2 x3 x4 x5 x6 x7 x8 x9 x10 k1 k2 k3 k4 Bo T PK PT SX SY hW i0 b1 i2 b3 i4 i5 i6 i8 hC hSV hHI hT hPX) (cwV 5 hg (gV wd_951 wd_952 wd_953 wd_3 wd_954) rfl rfl rfl (by decide +kernel) ⟨(Nat.le_of_ble_eq_true rfl), (Nat.le_of_ble_eq_true rfl)⟩) ⟨PG.blind, va_recv hK hP1 (ci := 11) (q0 := 0) rfl rfl, fun U hU hW9 => ⟨rfl, PG.at hP1 hK hD1 hN hU hW9⟩⟩ rfl rfl hl.1 rfl (lv_room (Nat.le_of_ble_eq_true rfl)) dL_law_395 hcs) hS (fun q _ h => hFc q h) hFc (fun r u t H1 locs1 ht hvm hw hB hz1 hk1 hS1 => ?_)
  obtain ⟨K9, L9, M9⟩ := u
  dsimp only at hw hB
  obtain ⟨hx9, hW9, hF9, gT2, hpost⟩ := hw
  obtain ⟨w9, hg0, hg1, hP9, hD9⟩ := hB
  rw [ht] at hP9
  obtain ⟨hQ9, hap9⟩ := hap.step hP2 hk1 hD9
  exact kk r _ H1 locs1 hpost ⟨x0, x2, x4, x5, x6, x7, x8, w9, (-1), K9, L9, M9, rfl, (i0.ext hx9), b1, (i2.ext hx9), b3, (i4.ext hx9), (i5.ext hx9), (i6.ext hx9), (i8.ext hx9), hW9, ⟨hg0, (PX.mv hPX hW i0 i2 b3 hF9 (by decide) (by decide) (by decide)), rfl, hg1, (SCX.mv hSC hW i0 b1 (by rw [hF9.at i0 (by decide)]) (fT19 (W2 hW) gT2 (by decide)) (fun c ic => hF9.at ic (by decide)) (fun j => by unfold sxJo; repeat' (first | rfl | exact va17 (by rfl) j | exact va17 (lKdn _ _ _ _ _ (by decide)) j | exact va17 ((va_up_ne _ _ (by decide)).trans (lKdn _ _ _ _ _ (by decide))) j | refine ite17 ?_ ?_)))⟩⟩ hP9 hQ9 (hD9.mono hFc) hap9 hS1
set_option maxHeartbeats 4000000 in
set_option maxRecDepth 100000 in
theorem cx_leave {p : Program} {l : Launch} {e : Env} {s : State} {m : MethodId} {below : List Frame} {meth : Method} {c : Code} {b Ln : Nat} {xs : Nat → Int32} (C0 : lw_At p s m meth c b Ln xs) {D : va_G} {cy : Nat → ClassId} {A : Nat → Prop} (hA : ∀ q, s.heap.size ≤ q → A q) (hN : NW s) (hK : va_K D vwCl (tysC cy) s) (hST : STAT A s) {xa x1 x3 : Nat} {T : Int} {PK PT : Nat → Int32} {SX : Nat → Nat → Int} {SY : Nat → Nat → Nat → Int32} {WH : Int32} {CA : Nat → Int32} {Wa Wb : va_W} {H : Heap} {locs : List Loc} {cells slots : Nat} {ls : Array Slot} {lv : List (Nat × Value)} (k1 : Int32) (k2 : Int32) (k3 : Int32) (k4 : Int32) (k5 : Int32)  (hcs : cells + 0 ≤ 600000 ∧ slots + 0 ≤ 7302250) (hT : 0 ≤ T ∧ T ≤ 900000) (hSH : (∀ k, k < x1 → SV (SX k) (SY k)) ∧ (∀ k, k < x1 → HI (SX k) (SY k)) ∧ TNN x1 SX SY) (hXS : XSg cy xa x1 x3 (PS x1 x3 T PK PT SX SY WH CA) Wa) (hP1 : va_P D vwCl Wa H) (hP2 : va_P D vwCl Wb H) (hD1 : va_D A Wa) (hap : APT Wa Wb) (hS : va_S A s.heap H locs) (hl : lv_has ls 4 lv) (kk : ∀ (r : Int32) (Wc : va_W) (H1 : Heap) (locs1 : List Loc), r = anLv x1 SX SY k1 k2 k3 k4 k5 → XSg cy xa x1 x3 (fun x0 x2 x5 x6 x8 x7 x9 x10 K L M => (∃ Bo, CX Bo K L x0 x1 (T + 1) x3 PK PT SX (syLv x1 SX SY k1 k2 k3 k4 k5) M) ∧ PX x0 x1 x2 x3 PK PT M ∧ x10 = (-1) ∧ RGC M x5 CA ∧ (SCX x0 x1 SX M)) Wc → va_P D vwCl Wc H1 → va_P D vwCl Wb H1 → va_D A Wc → APT Wc Wb → va_S A s.heap H1 locs1 → W p l e room_1 s m #[Value.ref b] below meth c H1 locs1 (cells + 0) (slots + 0) (lw_Z below #[Value.ref b] s) (F0 m 469 ls [.int r])) : W p l e room_1 s m #[Value.ref b] below meth c H locs cells slots (lw_Z below #[Value.ref b] s) (F0 m 466 ls [.int k5, .int k4, .int k3, .int k2, .int k1, .ref xa]) := by
  obtain ⟨hx, hb, hr, hml, hown, hts, hX, hbl, hlocks, hgv⟩ := id C0
  have hg : ∀ w ∈ lw_good, w.before #[Value.ref b] s = true := fun w h => hts w (List.mem_filter.mp h).1
  have hown : s.vm.findClass RL = some m.cls := hown
  obtain ⟨hSV, hHI, hTN⟩ := hSH
  obtain ⟨x0, x2, x4, x5, x6, x7, x8, x9, x10, K, L, M, rfl, i0, b1, i2, b3, i4, i5, i6, i8, hW, ⟨Bo, hC⟩, hPX, hWH, hRG, hSC⟩ := hXS
  have hFc : ∀ q, va_A ([(xa, (b11_1 x0 (nI x1) x2 (nI x3) x4 x5 x6 x7 x8 x9 x10))] ++ va_pl L M) H.size q → A q := pg_free hD1 hS hA
  refine va_calli (va_runV (As := [.int k1, .int k2, .int k3, .int k4, .int k5]) (rest := []) ⟨hx, hb, hml, hown, hg⟩ (x_leave l D cy K L M H.size xa x0 x1 x2 x3 x4 x5 x6 x7 x8 x9 x10 k1 k2 k3 k4 k5 Bo T PK PT SX SY hW i0 b1 i2 b3 i4 i5 i6 i8 hC hSV hHI hT) (cwV 5 hg (gV wd_955 wd_956 wd_957 wd_3 wd_958) rfl rfl rfl (by decide +kernel) ⟨(Nat.le_of_ble_eq_true rfl), (Nat.le_of_ble_eq_true rfl)⟩) ⟨PG.blind, va_recv hK hP1 (ci := 11) (q0 := 0) rfl rfl, fun U hU hW9 => ⟨rfl, PG.at hP1 hK hD1 hN hU hW9⟩⟩ rfl rfl hl.1 rfl (lv_room (Nat.le_of_ble_eq_true rfl)) dL_law_466 hcs) hS (fun q _ h => hFc q h) hFc (fun r u t H1 locs1 ht hvm hw hB hz1 hk1 hS1 => ?_)
  obtain ⟨hW9, hF9, gT9, hVP, hpost⟩ := hw
  obtain ⟨w9, hP9, hD9⟩ := hB
  rw [ht] at hP9
  obtain ⟨hQ9, hap9⟩ := hap.step hP2 hk1 hD9
  exact kk r _ H1 locs1 hpost ⟨x0, x2, x4, x5, x6, x7, x8, w9, (-1), K, L, u, rfl, i0, b1, i2, b3, i4, i5, i6, i8, hW9, ⟨⟨Bo, hVP⟩, (PX.mv hPX hW i0 i2 b3 hF9 (by decide) (by decide) (by decide)), rfl, (hRG.mv (RGS.of hW i5 hF9 (by decide) (by decide))), (SCX.mv hSC hW i0 b1 (by rw [hF9.at i0 (by decide)]) (fr19 hF9 (by decide)) (fun c ic => hF9.at ic (by decide)) (fun _ => rfl))⟩⟩ hP9 hQ9 (hD9.mono hFc) hap9 hS1
set_option maxHeartbeats 4000000 in
set_option maxRecDepth 100000 in
theorem cx_die {p : Program} {l : Launch} {e : Env} {s : State} {m : MethodId} {below : List Frame} {meth : Method} {c : Code} {b Ln : Nat} {xs : Nat → Int32} (C0 : lw_At p s m meth c b Ln xs) {D : va_G} {cy : Nat → ClassId} {A : Nat → Prop} (hA : ∀ q, s.heap.size ≤ q → A q) (hN : NW s) (hK : va_K D vwCl (tysC cy) s) (hST : STAT A s) {xa x1 x3 : Nat} {T : Int} {PK PT : Nat → Int32} {SX : Nat → Nat → Int} {SY : Nat → Nat → Nat → Int32} {WH : Int32} {CA : Nat → Int32} {Wa Wb : va_W} {H : Heap} {locs : List Loc} {cells slots : Nat} {ls : Array Slot} {lv : List (Nat × Value)} (k1 : Int32) (k2 : Int32) (k3 : Int32) (k4 : Int32)  (hcs : cells + 1 ≤ 600000 ∧ slots + 16 ≤ 7302250) (hT : 0 ≤ T ∧ T ≤ 900000) (hSH : (∀ k, k < x1 → SV (SX k) (SY k)) ∧ (∀ k, k < x1 → HI (SX k) (SY k)) ∧ TNN x1 SX SY) (hXS : XSg cy xa x1 x3 (PS x1 x3 T PK PT SX SY WH CA) Wa) (hP1 : va_P D vwCl Wa H) (hP2 : va_P D vwCl Wb H) (hD1 : va_D A Wa) (hap : APT Wa Wb) (hS : va_S A s.heap H locs) (hl : lv_has ls 4 lv) (kk : ∀ (r : Int32) (Wc : va_W) (H1 : Heap) (locs1 : List Loc), r = anDi x1 x3 PK SX SY k1 k2 k3 k4 → XSg cy xa x1 x3 (fun x0 x2 x5 x6 x8 x7 x9 x10 K L M => (∃ Bo, CX Bo K L x0 x1 (T + 1) x3 PK PT (sxDi x1 x3 PK SX SY k1 k2 k3 k4) (syDi x1 x3 PK SX SY k1 k2 k3 k4) M) ∧ PX x0 x1 x2 x3 PK PT M ∧ x10 = (-1) ∧ RGC M x5 CA ∧ (SCX x0 x1 (sxDi x1 x3 PK SX SY k1 k2 k3 k4) M)) Wc → va_P D vwCl Wc H1 → va_P D vwCl Wb H1 → va_D A Wc → APT Wc Wb → va_S A s.heap H1 locs1 → W p l e room_1 s m #[Value.ref b] below meth c H1 locs1 (cells + 1) (slots + 16) (lw_Z below #[Value.ref b] s) (F0 m 527 ls [.int r])) : W p l e room_1 s m #[Value.ref b] below meth c H locs cells slots (lw_Z below #[Value.ref b] s) (F0 m 524 ls [.int k4, .int k3, .int k2, .int k1, .ref xa]) := by
  obtain ⟨hx, hb, hr, hml, hown, hts, hX, hbl, hlocks, hgv⟩ := id C0
  have hg : ∀ w ∈ lw_good, w.before #[Value.ref b] s = true := fun w h => hts w (List.mem_filter.mp h).1
  have hown : s.vm.findClass RL = some m.cls := hown
  obtain ⟨hSV, hHI, hTN⟩ := hSH
  obtain ⟨x0, x2, x4, x5, x6, x7, x8, x9, x10, K, L, M, rfl, i0, b1, i2, b3, i4, i5, i6, i8, hW, ⟨Bo, hC⟩, hPX, hWH, hRG, hSC⟩ := hXS
  have hFc : ∀ q, va_A ([(xa, (b11_1 x0 (nI x1) x2 (nI x3) x4 x5 x6 x7 x8 x9 x10))] ++ va_pl L M) H.size q → A q := pg_free hD1 hS hA
  refine va_calli (va_runV (As := [.int k1, .int k2, .int k3, .int k4]) (rest := []) ⟨hx, hb, hml, hown, hg⟩ (x_die l D cy K L M H.size xa x0 x1 x2 x3 x4 x5 x6 x7 x8 x9 x10 k1 k2 k3 k4 Bo T PK PT SX SY hW i0 b1 i2 b3 i4 i5 i6 i8 hC hSV hHI hT hPX) (cwV 4 hg (gV wd_959 wd_960 wd_961 wd_3 wd_962) rfl rfl rfl (by decide +kernel) ⟨(Nat.le_of_ble_eq_true rfl), (Nat.le_of_ble_eq_true rfl)⟩) ⟨PG.blind, va_recv hK hP1 (ci := 11) (q0 := 0) rfl rfl, fun U hU hW9 => ⟨rfl, PG.at hP1 hK hD1 hN hU hW9⟩⟩ rfl rfl hl.1 rfl (lv_room (Nat.le_of_ble_eq_true rfl)) dL_law_524 hcs) hS (fun q _ h => hFc q h) hFc (fun r u t H1 locs1 ht hvm hw hB hz1 hk1 hS1 => ?_)
  obtain ⟨K9, L9, M9⟩ := u
  dsimp only at hw hB
  obtain ⟨hx9, hW9, hF9, gT2, gT9, hpost⟩ := hw
  obtain ⟨w9, hg0, hP9, hD9⟩ := hB
  rw [ht] at hP9
  obtain ⟨hQ9, hap9⟩ := hap.step hP2 hk1 hD9
  exact kk r _ H1 locs1 hpost ⟨x0, x2, x4, x5, x6, x7, x8, w9, (-1), K9, L9, M9, rfl, (i0.ext hx9), b1, (i2.ext hx9), b3, (i4.ext hx9), (i5.ext hx9), (i6.ext hx9), (i8.ext hx9), hW9, ⟨hg0, (PX.mv hPX hW i0 i2 b3 hF9 (by decide) (by decide) (by decide)), rfl, (hRG.mv (RGS.of hW i5 hF9 (by decide) (by decide))), (SCX.mv hSC hW i0 b1 (by rw [hF9.at i0 (by decide)]) (fT19 (W2 hW) gT2 (by decide)) (fun c ic => hF9.at ic (by decide)) (fun j => by unfold sxDi; repeat' (first | rfl | exact va17 (by rfl) j | exact va17 (lKdn _ _ _ _ _ (by decide)) j | exact va17 ((va_up_ne _ _ (by decide)).trans (lKdn _ _ _ _ _ (by decide))) j | refine ite17 ?_ ?_)))⟩⟩ hP9 hQ9 (hD9.mono hFc) hap9 hS1
set_option maxHeartbeats 4000000 in
set_option maxRecDepth 100000 in
theorem cx_circle {p : Program} {l : Launch} {e : Env} {s : State} {m : MethodId} {below : List Frame} {meth : Method} {c : Code} {b Ln : Nat} {xs : Nat → Int32} (C0 : lw_At p s m meth c b Ln xs) {D : va_G} {cy : Nat → ClassId} {A : Nat → Prop} (hA : ∀ q, s.heap.size ≤ q → A q) (hN : NW s) (hK : va_K D vwCl (tysC cy) s) (hST : STAT A s) {xa x1 x3 : Nat} {T : Int} {PK PT : Nat → Int32} {SX : Nat → Nat → Int} {SY : Nat → Nat → Nat → Int32} {WH : Int32} {CA : Nat → Int32} {Wa Wb : va_W} {H : Heap} {locs : List Loc} {cells slots : Nat} {ls : Array Slot} {lv : List (Nat × Value)} (k1 : Int32)  (hcs : cells + 0 ≤ 600000 ∧ slots + 0 ≤ 7302250) (hT : 0 ≤ T ∧ T ≤ 900000) (hSH : (∀ k, k < x1 → SV (SX k) (SY k)) ∧ (∀ k, k < x1 → HI (SX k) (SY k)) ∧ TNN x1 SX SY) (hXS : XSg cy xa x1 x3 (PS x1 x3 T PK PT SX SY WH CA) Wa) (hP1 : va_P D vwCl Wa H) (hP2 : va_P D vwCl Wb H) (hD1 : va_D A Wa) (hap : APT Wa Wb) (hS : va_S A s.heap H locs) (hl : lv_has ls 4 lv) (kk : ∀ (r : Int32) (Wc : va_W) (H1 : Heap) (locs1 : List Loc), r = (cirA CA k1) → XSg cy xa x1 x3 (fun x0 x2 x5 x6 x8 x7 x9 x10 K L M => (∃ Bo, CX Bo K L x0 x1 (T + 1) x3 PK PT SX SY M) ∧ PX x0 x1 x2 x3 PK PT M ∧ x10 = WH ∧ RGC M x5 CA ∧ (SCX x0 x1 SX M)) Wc → va_P D vwCl Wc H1 → va_P D vwCl Wb H1 → va_D A Wc → APT Wc Wb → va_S A s.heap H1 locs1 → W p l e room_1 s m #[Value.ref b] below meth c H1 locs1 (cells + 0) (slots + 0) (lw_Z below #[Value.ref b] s) (F0 m 565 ls [.int r])) : W p l e room_1 s m #[Value.ref b] below meth c H locs cells slots (lw_Z below #[Value.ref b] s) (F0 m 562 ls [.int k1, .ref xa]) := by
  obtain ⟨hx, hb, hr, hml, hown, hts, hX, hbl, hlocks, hgv⟩ := id C0
  have hg : ∀ w ∈ lw_good, w.before #[Value.ref b] s = true := fun w h => hts w (List.mem_filter.mp h).1
  have hown : s.vm.findClass RL = some m.cls := hown
  obtain ⟨hSV, hHI, hTN⟩ := hSH
  obtain ⟨x0, x2, x4, x5, x6, x7, x8, x9, x10, K, L, M, rfl, i0, b1, i2, b3, i4, i5, i6, i8, hW, ⟨Bo, hC⟩, hPX, hWH, hRG, hSC⟩ := hXS
  have hFc : ∀ q, va_A ([(xa, (b11_1 x0 (nI x1) x2 (nI x3) x4 x5 x6 x7 x8 x9 x10))] ++ va_pl L M) H.size q → A q := pg_free hD1 hS hA
  refine va_calli (va_runV (As := [.int k1]) (rest := []) ⟨hx, hb, hml, hown, hg⟩ (x_circle l D cy K L M H.size xa x0 x1 x2 x3 x4 x5 x6 x7 x8 x9 x10 k1 CA hW i0 b1 i2 b3 i4 i5 i6 i8 hRG) (cwV 1 hg (gV wd_963 wd_964 wd_965 wd_3 wd_966) rfl rfl rfl (by decide +kernel) ⟨(Nat.le_of_ble_eq_true rfl), (Nat.le_of_ble_eq_true rfl)⟩) ⟨PG.blind, va_recv hK hP1 (ci := 11) (q0 := 0) rfl rfl, fun U hU hW9 => ⟨rfl, PG.at hP1 hK hD1 hN hU hW9⟩⟩ rfl rfl hl.1 rfl (lv_room (Nat.le_of_ble_eq_true rfl)) dL_law_562 hcs) hS (fun q _ h => hFc q h) hFc (fun r u t H1 locs1 ht hvm hw hB hz1 hk1 hS1 => ?_)
  have hpost := hw
  have hW9 := hW
  obtain ⟨hP9, hD9⟩ := hB
  rw [ht] at hP9
  obtain ⟨hQ9, hap9⟩ := hap.step hP2 hk1 hD9
  exact kk r _ H1 locs1 hpost ⟨x0, x2, x4, x5, x6, x7, x8, x9, x10, K, L, M, rfl, i0, b1, i2, b3, i4, i5, i6, i8, hW9, ⟨⟨Bo, hC.mono⟩, hPX, hWH, hRG, hSC⟩⟩ hP9 hQ9 (hD9.mono hFc) hap9 hS1
set_option maxHeartbeats 4000000 in
set_option maxRecDepth 100000 in
theorem cx_rule {p : Program} {l : Launch} {e : Env} {s : State} {m : MethodId} {below : List Frame} {meth : Method} {c : Code} {b Ln : Nat} {xs : Nat → Int32} (C0 : lw_At p s m meth c b Ln xs) {D : va_G} {cy : Nat → ClassId} {A : Nat → Prop} (hA : ∀ q, s.heap.size ≤ q → A q) (hN : NW s) (hK : va_K D vwCl (tysC cy) s) (hST : STAT A s) {xa x1 x3 : Nat} {T : Int} {PK PT : Nat → Int32} {SX : Nat → Nat → Int} {SY : Nat → Nat → Nat → Int32} {WH : Int32} {CA : Nat → Int32} {Wa Wb : va_W} {H : Heap} {locs : List Loc} {cells slots : Nat} {ls : Array Slot} {lv : List (Nat × Value)} (k1 : Int32) (k2 : Int32)  (hcs : cells + 2 ≤ 600000 ∧ slots + 27 ≤ 7302250) (hT : 0 ≤ T ∧ T ≤ 900000) (hSH : (∀ k, k < x1 → SV (SX k) (SY k)) ∧ (∀ k, k < x1 → HI (SX k) (SY k)) ∧ TNN x1 SX SY) (hXS : XSg cy xa x1 x3 (PS x1 x3 T PK PT SX SY WH CA) Wa) (hP1 : va_P D vwCl Wa H) (hP2 : va_P D vwCl Wb H) (hD1 : va_D A Wa) (hap : APT Wa Wb) (hS : va_S A s.heap H locs) (hl : lv_has ls 4 lv) (kk : ∀ (r : Int32) (Wc : va_W) (H1 : Heap) (locs1 : List Loc), r = anRu x1 SX SY k1 k2 → XSg cy xa x1 x3 (fun x0 x2 x5 x6 x8 x7 x9 x10 K L M => (∀ g9 : Nat → Int32, (okRu x1 SX SY k1 k2 → RUG (SX k1.toNatClampNeg) (SY k1.toNatClampNeg) g9) → ∃ Bo, CX Bo K L x0 x1 (T + 1) x3 PK PT (sxRu x1 SX SY k1 k2) (syRu x1 SX SY k1 k2 g9) M) ∧ PX x0 x1 x2 x3 PK PT M ∧ x10 = (-1) ∧ RGC M x5 CA ∧ (∀ g9 : Nat → Int32, (okRu x1 SX SY k1 k2 → RUG (SX k1.toNatClampNeg) (SY k1.toNatClampNeg) g9) → SCX x0 x1 (sxRu x1 SX SY k1 k2) M)) Wc → va_P D vwCl Wc H1 → va_P D vwCl Wb H1 → va_D A Wc → APT Wc Wb → va_S A s.heap H1 locs1 → W p l e room_1 s m #[Value.ref b] below meth c H1 locs1 (cells + 2) (slots + 27) (lw_Z below #[Value.ref b] s) (F0 m 593 ls [.int r])) : W p l e room_1 s m #[Value.ref b] below meth c H locs cells slots (lw_Z below #[Value.ref b] s) (F0 m 590 ls [.int k2, .int k1, .ref xa]) := by
  obtain ⟨hx, hb, hr, hml, hown, hts, hX, hbl, hlocks, hgv⟩ := id C0
  have hg : ∀ w ∈ lw_good, w.before #[Value.ref b] s = true := fun w h => hts w (List.mem_filter.mp h).1
  have hown : s.vm.findClass RL = some m.cls := hown
  obtain ⟨hSV, hHI, hTN⟩ := hSH
  obtain ⟨x0, x2, x4, x5, x6, x7, x8, x9, x10, K, L, M, rfl, i0, b1, i2, b3, i4, i5, i6, i8, hW, ⟨Bo, hC⟩, hPX, hWH, hRG, hSC⟩ := hXS
  have hFc : ∀ q, va_A ([(xa, (b11_1 x0 (nI x1) x2 (nI x3) x4 x5 x6 x7 x8 x9 x10))] ++ va_pl L M) H.size q → A q := pg_free hD1 hS hA
  refine va_calli (va_runV (As := [.int k1, .int k2]) (rest := []) ⟨hx, hb, hml, hown, hg⟩ (x_rule l D cy K L M H.size xa x0 x1 x2 x3 x4 x5 x6 x7 x8 x9 x10 k1 k2 Bo T PK PT SX SY hW i0 b1 i2 b3 i4 i5 i6 i8 hC hSV hHI hT) (cwV 2 hg (gV wd_967 wd_968 wd_969 wd_3 wd_970) rfl rfl rfl (by decide +kernel) ⟨(Nat.le_of_ble_eq_true rfl), (Nat.le_of_ble_eq_true rfl)⟩) ⟨PG.blind, va_recv hK hP1 (ci := 11) (q0 := 0) rfl rfl, fun U hU hW9 => ⟨rfl, PG.at hP1 hK hD1 hN hU hW9⟩⟩ rfl rfl hl.1 rfl (lv_room (Nat.le_of_ble_eq_true rfl)) dL_law_590 hcs) hS (fun q _ h => hFc q h) hFc (fun r u t H1 locs1 ht hvm hw hB hz1 hk1 hS1 => ?_)
  obtain ⟨K9, L9, M9⟩ := u
  dsimp only at hw hB
  obtain ⟨hx9, hW9, hF9, gT2, hpost⟩ := hw
  obtain ⟨w9, hg0, hP9, hD9⟩ := hB
  rw [ht] at hP9
  obtain ⟨hQ9, hap9⟩ := hap.step hP2 hk1 hD9
  exact kk r _ H1 locs1 hpost ⟨x0, x2, x4, x5, x6, x7, x8, w9, (-1), K9, L9, M9, rfl, (i0.ext hx9), b1, (i2.ext hx9), b3, (i4.ext hx9), (i5.ext hx9), (i6.ext hx9), (i8.ext hx9), hW9, ⟨hg0, (PX.mv hPX hW i0 i2 b3 hF9 (by decide) (by decide) (by decide)), rfl, (hRG.mv (RGS.of hW i5 hF9 (by decide) (by decide))), (fun g9 h9 => (SCX.mv hSC hW i0 b1 (by rw [hF9.at i0 (by decide)]) (fT19 (W2 hW) gT2 (by decide)) (fun c ic => hF9.at ic (by decide)) (fun j => by unfold sxRu; repeat' (first | rfl | exact va17 (by rfl) j | exact va17 (lKdn _ _ _ _ _ (by decide)) j | exact va17 ((va_up_ne _ _ (by decide)).trans (lKdn _ _ _ _ _ (by decide))) j | refine ite17 ?_ ?_))))⟩⟩ hP9 hQ9 (hD9.mono hFc) hap9 hS1
set_option maxHeartbeats 4000000 in
set_option maxRecDepth 100000 in
theorem cx_term {p : Program} {l : Launch} {e : Env} {s : State} {m : MethodId} {below : List Frame} {meth : Method} {c : Code} {b Ln : Nat} {xs : Nat → Int32} (C0 : lw_At p s m meth c b Ln xs) {D : va_G} {cy : Nat → ClassId} {A : Nat → Prop} (hA : ∀ q, s.heap.size ≤ q → A q) (hN : NW s) (hK : va_K D vwCl (tysC cy) s) (hST : STAT A s) {xa x1 x3 : Nat} {T : Int} {PK PT : Nat → Int32} {SX : Nat → Nat → Int} {SY : Nat → Nat → Nat → Int32} {WH : Int32} {CA : Nat → Int32} {Wa Wb : va_W} {H : Heap} {locs : List Loc} {cells slots : Nat} {ls : Array Slot} {lv : List (Nat × Value)} (k1 : Int32) (k2 : Int32) (k3 : Int32) (k4 : Int32)  (hcs : cells + 0 ≤ 600000 ∧ slots + 0 ≤ 7302250) (hT : 0 ≤ T ∧ T ≤ 900000) (hSH : (∀ k, k < x1 → SV (SX k) (SY k)) ∧ (∀ k, k < x1 → HI (SX k) (SY k)) ∧ TNN x1 SX SY) (hXS : XSg cy xa x1 x3 (PS x1 x3 T PK PT SX SY WH CA) Wa) (hP1 : va_P D vwCl Wa H) (hP2 : va_P D vwCl Wb H) (hD1 : va_D A Wa) (hap : APT Wa Wb) (hS : va_S A s.heap H locs) (hl : lv_has ls 4 lv) (kk : ∀ (r : Int32) (Wc : va_W) (H1 : Heap) (locs1 : List Loc), r = anTm x1 SX SY k1 k2 k3 k4 → XSg cy xa x1 x3 (fun x0 x2 x5 x6 x8 x7 x9 x10 K L M => (∃ Bo, CX Bo K L x0 x1 (T + 1) x3 PK PT SX (syTm x1 SX SY k1 k2 k3 k4) M) ∧ PX x0 x1 x2 x3 PK PT M ∧ x10 = (-1) ∧ RGC M x5 CA ∧ (SCX x0 x1 SX M)) Wc → va_P D vwCl Wc H1 → va_P D vwCl Wb H1 → va_D A Wc → APT Wc Wb → va_S A s.heap H1 locs1 → W p l e room_1 s m #[Value.ref b] below meth c H1 locs1 (cells + 0) (slots + 0) (lw_Z below #[Value.ref b] s) (F0 m 636 ls [.int r])) : W p l e room_1 s m #[Value.ref b] below meth c H locs cells slots (lw_Z below #[Value.ref b] s) (F0 m 633 ls [.int k4, .int k3, .int k2, .int k1, .ref xa]) := by
  obtain ⟨hx, hb, hr, hml, hown, hts, hX, hbl, hlocks, hgv⟩ := id C0
  have hg : ∀ w ∈ lw_good, w.before #[Value.ref b] s = true := fun w h => hts w (List.mem_filter.mp h).1
  have hown : s.vm.findClass RL = some m.cls := hown
  obtain ⟨hSV, hHI, hTN⟩ := hSH
  obtain ⟨x0, x2, x4, x5, x6, x7, x8, x9, x10, K, L, M, rfl, i0, b1, i2, b3, i4, i5, i6, i8, hW, ⟨Bo, hC⟩, hPX, hWH, hRG, hSC⟩ := hXS
  have hFc : ∀ q, va_A ([(xa, (b11_1 x0 (nI x1) x2 (nI x3) x4 x5 x6 x7 x8 x9 x10))] ++ va_pl L M) H.size q → A q := pg_free hD1 hS hA
  refine va_calli (va_runV (As := [.int k1, .int k2, .int k3, .int k4]) (rest := []) ⟨hx, hb, hml, hown, hg⟩ (x_term l D cy K L M H.size xa x0 x1 x2 x3 x4 x5 x6 x7 x8 x9 x10 k1 k2 k3 k4 Bo T PK PT SX SY hW i0 b1 i2 b3 i4 i5 i6 i8 hC hSV hHI hT) (cwV 4 hg (gV wd_971 wd_972 wd_973 wd_3 wd_974) rfl rfl rfl (by decide +kernel) ⟨(Nat.le_of_ble_eq_true rfl), (Nat.le_of_ble_eq_true rfl)⟩) ⟨(fun a U g mk q => ⟨q.1, q.2.1.calling g mk a, q.2.2.calling g mk a⟩), va_recv hK hP1 (ci := 11) (q0 := 0) rfl rfl, fun U hU hW9 => ⟨rfl, ⟨PG.at hP1 hK hD1 hN hU hW9, STAT.at hST hS hU hW9 hFc⟩⟩⟩ rfl rfl hl.1 rfl (lv_room (Nat.le_of_ble_eq_true rfl)) dL_law_633 hcs) hS (fun q _ h => hFc q h) hFc (fun r u t H1 locs1 ht hvm hw hB hz1 hk1 hS1 => ?_)
  obtain ⟨hW9, hF9, gT6, hVP, hpost⟩ := hw
  obtain ⟨w9, hP9, hD9⟩ := hB
  rw [ht] at hP9
  obtain ⟨hQ9, hap9⟩ := hap.step hP2 hk1 hD9
  exact kk r _ H1 locs1 hpost ⟨x0, x2, x4, x5, x6, x7, x8, w9, (-1), K, L, u, rfl, i0, b1, i2, b3, i4, i5, i6, i8, hW9, ⟨⟨Bo, hVP⟩, (PX.mv hPX hW i0 i2 b3 hF9 (by decide) (by decide) (by decide)), rfl, (hRG.mv (RGS.of hW i5 hF9 (by decide) (by decide))), (SCX.mv hSC hW i0 b1 (by rw [hF9.at i0 (by decide)]) (fr19 hF9 (by decide)) (fun c ic => hF9.at ic (by decide)) (fun _ => rfl))⟩⟩ hP9 hQ9 (hD9.mono hFc) hap9 hS1
set_option maxHeartbeats 4000000 in
set_option maxRecDepth 100000 in
theorem cx_leaf {p : Program} {l : Launch} {e : Env} {s : State} {m : MethodId} {below : List Frame} {meth : Method} {c : Code} {b Ln : Nat} {xs : Nat → Int32} (C0 : lw_At p s m meth c b Ln xs) {D : va_G} {cy : Nat → ClassId} {A : Nat → Prop} (hA : ∀ q, s.heap.size ≤ q → A q) (hN : NW s) (hK : va_K D vwCl (tysC cy) s) (hST : STAT A s) {xa x1 x3 : Nat} {T : Int} {PK PT : Nat → Int32} {SX : Nat → Nat → Int} {SY : Nat → Nat → Nat → Int32} {WH : Int32} {CA : Nat → Int32} {Wa Wb : va_W} {H : Heap} {locs : List Loc} {cells slots : Nat} {ls : Array Slot} {lv : List (Nat × Value)} (k1 : Int32) (k2 : Int32) (k3 : Int32) (k4 : Int32)  (hcs : cells + 2 ≤ 600000 ∧ slots + 9 ≤ 7302250) (hT : 0 ≤ T ∧ T ≤ 900000) (hSH : (∀ k, k < x1 → SV (SX k) (SY k)) ∧ (∀ k, k < x1 → HI (SX k) (SY k)) ∧ TNN x1 SX SY) (hXS : XSg cy xa x1 x3 (PS x1 x3 T PK PT SX SY WH CA) Wa) (hP1 : va_P D vwCl Wa H) (hP2 : va_P D vwCl Wb H) (hD1 : va_D A Wa) (hap : APT Wa Wb) (hS : va_S A s.heap H locs) (hl : lv_has ls 4 lv) (kk : ∀ (r : Int32) (Wc : va_W) (H1 : Heap) (locs1 : List Loc), r = anLf x1 SX k1 k2 k3 k4 → XSg cy xa x1 x3 (fun x0 x2 x5 x6 x8 x7 x9 x10 K L M => (∃ Bo, CX Bo K L x0 x1 (T + 1) x3 PK PT (sxLf x1 SX k1 k2 k3 k4) (syLf x1 SX SY k1 k2 k3 k4) M) ∧ PX x0 x1 x2 x3 PK PT M ∧ x10 = (-1) ∧ RGC M x5 CA ∧ (SCX x0 x1 (sxLf x1 SX k1 k2 k3 k4) M)) Wc → va_P D vwCl Wc H1 → va_P D vwCl Wb H1 → va_D A Wc → APT Wc Wb → va_S A s.heap H1 locs1 → W p l e room_1 s m #[Value.ref b] below meth c H1 locs1 (cells + 2) (slots + 9) (lw_Z below #[Value.ref b] s) (F0 m 689 ls [.int r])) : W p l e room_1 s m #[Value.ref b] below meth c H locs cells slots (lw_Z below #[Value.ref b] s) (F0 m 686 ls [.int k4, .int k3, .int k2, .int k1, .ref xa]) := by
  obtain ⟨hx, hb, hr, hml, hown, hts, hX, hbl, hlocks, hgv⟩ := id C0
  have hg : ∀ w ∈ lw_good, w.before #[Value.ref b] s = true := fun w h => hts w (List.mem_filter.mp h).1
  have hown : s.vm.findClass RL = some m.cls := hown
  obtain ⟨hSV, hHI, hTN⟩ := hSH
  obtain ⟨x0, x2, x4, x5, x6, x7, x8, x9, x10, K, L, M, rfl, i0, b1, i2, b3, i4, i5, i6, i8, hW, ⟨Bo, hC⟩, hPX, hWH, hRG, hSC⟩ := hXS
  have hFc : ∀ q, va_A ([(xa, (b11_1 x0 (nI x1) x2 (nI x3) x4 x5 x6 x7 x8 x9 x10))] ++ va_pl L M) H.size q → A q := pg_free hD1 hS hA
  refine va_calli (va_runV (As := [.int k1, .int k2, .int k3, .int k4]) (rest := []) ⟨hx, hb, hml, hown, hg⟩ (x_leaf l D cy K L M H.size xa x0 x1 x2 x3 x4 x5 x6 x7 x8 x9 x10 k1 k2 k3 k4 Bo T PK PT SX SY hW i0 b1 i2 b3 i4 i5 i6 i8 hC hSV hHI hT) (cwV 4 hg (gV wd_975 wd_976 wd_977 wd_3 wd_978) rfl rfl rfl (by decide +kernel) ⟨(Nat.le_of_ble_eq_true rfl), (Nat.le_of_ble_eq_true rfl)⟩) ⟨PG.blind, va_recv hK hP1 (ci := 11) (q0 := 0) rfl rfl, fun U hU hW9 => ⟨rfl, PG.at hP1 hK hD1 hN hU hW9⟩⟩ rfl rfl hl.1 rfl (lv_room (Nat.le_of_ble_eq_true rfl)) dL_law_686 hcs) hS (fun q _ h => hFc q h) hFc (fun r u t H1 locs1 ht hvm hw hB hz1 hk1 hS1 => ?_)
  obtain ⟨K9, L9, M9⟩ := u
  dsimp only at hw hB
  obtain ⟨hx9, hW9, hF9, gT10, hpost⟩ := hw
  obtain ⟨w9, hg0, hP9, hD9⟩ := hB
  rw [ht] at hP9
  obtain ⟨hQ9, hap9⟩ := hap.step hP2 hk1 hD9
  exact kk r _ H1 locs1 hpost ⟨x0, x2, x4, x5, x6, x7, x8, w9, (-1), K9, L9, M9, rfl, (i0.ext hx9), b1, (i2.ext hx9), b3, (i4.ext hx9), (i5.ext hx9), (i6.ext hx9), (i8.ext hx9), hW9, ⟨hg0, (PX.mv hPX hW i0 i2 b3 hF9 (by decide) (by decide) (by decide)), rfl, (hRG.mv (RGS.of hW i5 hF9 (by decide) (by decide))), (SCX.mv hSC hW i0 b1 (by rw [hF9.at i0 (by decide)]) (fr19 hF9 (by decide)) (fun c ic => hF9.at ic (by decide)) (fun j => by unfold sxLf; repeat' (first | rfl | exact va17 (by rfl) j | exact va17 (lKdn _ _ _ _ _ (by decide)) j | exact va17 ((va_up_ne _ _ (by decide)).trans (lKdn _ _ _ _ _ (by decide))) j | refine ite17 ?_ ?_)))⟩⟩ hP9 hQ9 (hD9.mono hFc) hap9 hS1
set_option maxHeartbeats 4000000 in
set_option maxRecDepth 100000 in
theorem cx_tear {p : Program} {l : Launch} {e : Env} {s : State} {m : MethodId} {below : List Frame} {meth : Method} {c : Code} {b Ln : Nat} {xs : Nat → Int32} (C0 : lw_At p s m meth c b Ln xs) {D : va_G} {cy : Nat → ClassId} {A : Nat → Prop} (hA : ∀ q, s.heap.size ≤ q → A q) (hN : NW s) (hK : va_K D vwCl (tysC cy) s) (hST : STAT A s) {xa x1 x3 : Nat} {T : Int} {PK PT : Nat → Int32} {SX : Nat → Nat → Int} {SY : Nat → Nat → Nat → Int32} {WH : Int32} {CA : Nat → Int32} {Wa Wb : va_W} {H : Heap} {locs : List Loc} {cells slots : Nat} {ls : Array Slot} {lv : List (Nat × Value)} (k1 : Int32) (k2 : Int32)  (hcs : cells + 0 ≤ 600000 ∧ slots + 0 ≤ 7302250) (hT : 0 ≤ T ∧ T ≤ 900000) (hSH : (∀ k, k < x1 → SV (SX k) (SY k)) ∧ (∀ k, k < x1 → HI (SX k) (SY k)) ∧ TNN x1 SX SY) (hXS : XSg cy xa x1 x3 (PS x1 x3 T PK PT SX SY WH CA) Wa) (hP1 : va_P D vwCl Wa H) (hP2 : va_P D vwCl Wb H) (hD1 : va_D A Wa) (hap : APT Wa Wb) (hS : va_S A s.heap H locs) (hl : lv_has ls 4 lv) (kk : ∀ (r : Int32) (Wc : va_W) (H1 : Heap) (locs1 : List Loc), r = anTr x1 SX SY k1 k2 → XSg cy xa x1 x3 (fun x0 x2 x5 x6 x8 x7 x9 x10 K L M => (∃ Bo, CX Bo K L x0 x1 (T + 1) x3 PK PT (sxTr x1 SX SY k1 k2) (syTr x1 SX SY k1 k2) M) ∧ PX x0 x1 x2 x3 PK PT M ∧ x10 = (-1) ∧ RGC M x5 CA ∧ (SCX x0 x1 (sxTr x1 SX SY k1 k2) M)) Wc → va_P D vwCl Wc H1 → va_P D vwCl Wb H1 → va_D A Wc → APT Wc Wb → va_S A s.heap H1 locs1 → W p l e room_1 s m #[Value.ref b] below meth c H1 locs1 (cells + 0) (slots + 0) (lw_Z below #[Value.ref b] s) (F0 m 732 ls [.int r])) : W p l e room_1 s m #[Value.ref b] below meth c H locs cells slots (lw_Z below #[Value.ref b] s) (F0 m 729 ls [.int k2, .int k1, .ref xa]) := by
  obtain ⟨hx, hb, hr, hml, hown, hts, hX, hbl, hlocks, hgv⟩ := id C0
  have hg : ∀ w ∈ lw_good, w.before #[Value.ref b] s = true := fun w h => hts w (List.mem_filter.mp h).1
  have hown : s.vm.findClass RL = some m.cls := hown
  obtain ⟨hSV, hHI, hTN⟩ := hSH
  obtain ⟨x0, x2, x4, x5, x6, x7, x8, x9, x10, K, L, M, rfl, i0, b1, i2, b3, i4, i5, i6, i8, hW, ⟨Bo, hC⟩, hPX, hWH, hRG, hSC⟩ := hXS
  have hFc : ∀ q, va_A ([(xa, (b11_1 x0 (nI x1) x2 (nI x3) x4 x5 x6 x7 x8 x9 x10))] ++ va_pl L M) H.size q → A q := pg_free hD1 hS hA
  refine va_calli (va_runV (As := [.int k1, .int k2]) (rest := []) ⟨hx, hb, hml, hown, hg⟩ (x_tear l D cy K L M H.size xa x0 x1 x2 x3 x4 x5 x6 x7 x8 x9 x10 k1 k2 Bo T PK PT SX SY hW i0 b1 i2 b3 i4 i5 i6 i8 hC hSV hHI hT) (cwV 2 hg (gV wd_979 wd_980 wd_981 wd_3 wd_982) rfl rfl rfl (by decide +kernel) ⟨(Nat.le_of_ble_eq_true rfl), (Nat.le_of_ble_eq_true rfl)⟩) ⟨PG.blind, va_recv hK hP1 (ci := 11) (q0 := 0) rfl rfl, fun U hU hW9 => ⟨rfl, PG.at hP1 hK hD1 hN hU hW9⟩⟩ rfl rfl hl.1 rfl (lv_room (Nat.le_of_ble_eq_true rfl)) dL_law_729 hcs) hS (fun q _ h => hFc q h) hFc (fun r u t H1 locs1 ht hvm hw hB hz1 hk1 hS1 => ?_)
  obtain ⟨hW9, hF9, gT10, hVP, hpost⟩ := hw
  obtain ⟨w9, hP9, hD9⟩ := hB
  rw [ht] at hP9
  obtain ⟨hQ9, hap9⟩ := hap.step hP2 hk1 hD9
  exact kk r _ H1 locs1 hpost ⟨x0, x2, x4, x5, x6, x7, x8, w9, (-1), K, L, u, rfl, i0, b1, i2, b3, i4, i5, i6, i8, hW9, ⟨⟨Bo, hVP⟩, (PX.mv hPX hW i0 i2 b3 hF9 (by decide) (by decide) (by decide)), rfl, (hRG.mv (RGS.of hW i5 hF9 (by decide) (by decide))), (SCX.mv hSC hW i0 b1 (by rw [hF9.at i0 (by decide)]) (fr19 hF9 (by decide)) (fun c ic => hF9.at ic (by decide)) (fun j => by unfold sxTr; repeat' (first | rfl | exact va17 (by rfl) j | exact va17 (lKdn _ _ _ _ _ (by decide)) j | exact va17 ((va_up_ne _ _ (by decide)).trans (lKdn _ _ _ _ _ (by decide))) j | refine ite17 ?_ ?_)))⟩⟩ hP9 hQ9 (hD9.mono hFc) hap9 hS1
set_option maxHeartbeats 4000000 in
set_option maxRecDepth 100000 in
theorem cx_earn {p : Program} {l : Launch} {e : Env} {s : State} {m : MethodId} {below : List Frame} {meth : Method} {c : Code} {b Ln : Nat} {xs : Nat → Int32} (C0 : lw_At p s m meth c b Ln xs) {D : va_G} {cy : Nat → ClassId} {A : Nat → Prop} (hA : ∀ q, s.heap.size ≤ q → A q) (hN : NW s) (hK : va_K D vwCl (tysC cy) s) (hST : STAT A s) {xa x1 x3 : Nat} {T : Int} {PK PT : Nat → Int32} {SX : Nat → Nat → Int} {SY : Nat → Nat → Nat → Int32} {WH : Int32} {CA : Nat → Int32} {Wa Wb : va_W} {H : Heap} {locs : List Loc} {cells slots : Nat} {ls : Array Slot} {lv : List (Nat × Value)} (k1 : Int32) (k2 : Int32) (k3 : Int32)  (hcs : cells + 0 ≤ 600000 ∧ slots + 0 ≤ 7302250) (hT : 0 ≤ T ∧ T ≤ 900000) (hSH : (∀ k, k < x1 → SV (SX k) (SY k)) ∧ (∀ k, k < x1 → HI (SX k) (SY k)) ∧ TNN x1 SX SY) (hXS : XSg cy xa x1 x3 (PS x1 x3 T PK PT SX SY WH CA) Wa) (hP1 : va_P D vwCl Wa H) (hP2 : va_P D vwCl Wb H) (hD1 : va_D A Wa) (hap : APT Wa Wb) (hS : va_S A s.heap H locs) (hl : lv_has ls 4 lv) (kk : ∀ (r : Int32) (Wc : va_W) (H1 : Heap) (locs1 : List Loc), r = anEn x1 SX SY k1 k2 k3 1 → XSg cy xa x1 x3 (fun x0 x2 x5 x6 x8 x7 x9 x10 K L M => (∀ n9 l9, (okEn x1 SX SY k1 k2 k3 1 → REMF (SX k1.toNatClampNeg 16) (SY k1.toNatClampNeg 43) k2 n9 l9) → ∃ Bo, CX Bo K L x0 x1 (T + 1) x3 PK PT (sxEn x1 SX SY k1 k2 k3 1 n9) (syEn x1 SX SY k1 k2 k3 1 l9) M) ∧ PX x0 x1 x2 x3 PK PT M ∧ x10 = (-1) ∧ RGC M x5 CA ∧ (∀ n9 l9, (okEn x1 SX SY k1 k2 k3 1 → REMF (SX k1.toNatClampNeg 16) (SY k1.toNatClampNeg 43) k2 n9 l9) → SCX x0 x1 (sxEn x1 SX SY k1 k2 k3 1 n9) M)) Wc → va_P D vwCl Wc H1 → va_P D vwCl Wb H1 → va_D A Wc → APT Wc Wb → va_S A s.heap H1 locs1 → W p l e room_1 s m #[Value.ref b] below meth c H1 locs1 (cells + 0) (slots + 0) (lw_Z below #[Value.ref b] s) (F0 m 770 ls [.int r])) : W p l e room_1 s m #[Value.ref b] below meth c H locs cells slots (lw_Z below #[Value.ref b] s) (F0 m 767 ls [.int k3, .int k2, .int k1, .ref xa]) := by
  obtain ⟨hx, hb, hr, hml, hown, hts, hX, hbl, hlocks, hgv⟩ := id C0
  have hg : ∀ w ∈ lw_good, w.before #[Value.ref b] s = true := fun w h => hts w (List.mem_filter.mp h).1
  have hown : s.vm.findClass RL = some m.cls := hown
  obtain ⟨hSV, hHI, hTN⟩ := hSH
  obtain ⟨x0, x2, x4, x5, x6, x7, x8, x9, x10, K, L, M, rfl, i0, b1, i2, b3, i4, i5, i6, i8, hW, ⟨Bo, hC⟩, hPX, hWH, hRG, hSC⟩ := hXS
  have hFc : ∀ q, va_A ([(xa, (b11_1 x0 (nI x1) x2 (nI x3) x4 x5 x6 x7 x8 x9 x10))] ++ va_pl L M) H.size q → A q := pg_free hD1 hS hA
  refine va_calli (va_runV (As := [.int k1, .int k2, .int k3]) (rest := []) ⟨hx, hb, hml, hown, hg⟩ (x_earn l D cy K L M H.size xa x0 x1 x2 x3 x4 x5 x6 x7 x8 x9 x10 k1 k2 k3 Bo T PK PT SX SY hW i0 b1 i2 b3 i4 i5 i6 i8 hC hSV hHI hT) (cwV 3 hg (gV wd_983 wd_984 wd_985 wd_3 wd_986) rfl rfl rfl (by decide +kernel) ⟨(Nat.le_of_ble_eq_true rfl), (Nat.le_of_ble_eq_true rfl)⟩) ⟨PG.blind, va_recv hK hP1 (ci := 11) (q0 := 0) rfl rfl, fun U hU hW9 => ⟨rfl, PG.at hP1 hK hD1 hN hU hW9⟩⟩ rfl rfl hl.1 rfl (lv_room (Nat.le_of_ble_eq_true rfl)) dL_law_767 hcs) hS (fun q _ h => hFc q h) hFc (fun r u t H1 locs1 ht hvm hw hB hz1 hk1 hS1 => ?_)
  obtain ⟨hW9, hF9, gT3, gT10, hVP, hpost⟩ := hw
  obtain ⟨w9, hP9, hD9⟩ := hB
  rw [ht] at hP9
  obtain ⟨hQ9, hap9⟩ := hap.step hP2 hk1 hD9
  exact kk r _ H1 locs1 hpost ⟨x0, x2, x4, x5, x6, x7, x8, w9, (-1), K, L, u, rfl, i0, b1, i2, b3, i4, i5, i6, i8, hW9, ⟨(fun n9 l9 h9 => ⟨Bo, hVP n9 l9 h9⟩), (PX.mv hPX hW i0 i2 b3 hF9 (by decide) (by decide) (by decide)), rfl, (hRG.mv (RGS.of hW i5 hF9 (by decide) (by decide))), (fun n9 l9 h9 => (SCX.mv hSC hW i0 b1 (by rw [hF9.at i0 (by decide)]) (fr19 hF9 (by decide)) (fun c ic => hF9.at ic (by decide)) (fun j => by unfold sxEn; repeat' (first | rfl | exact va17 (by rfl) j | exact va17 (lKdn _ _ _ _ _ (by decide)) j | exact va17 ((va_up_ne _ _ (by decide)).trans (lKdn _ _ _ _ _ (by decide))) j | refine ite17 ?_ ?_))))⟩⟩ hP9 hQ9 (hD9.mono hFc) hap9 hS1
set_option maxHeartbeats 4000000 in
set_option maxRecDepth 100000 in
theorem cx_spend {p : Program} {l : Launch} {e : Env} {s : State} {m : MethodId} {below : List Frame} {meth : Method} {c : Code} {b Ln : Nat} {xs : Nat → Int32} (C0 : lw_At p s m meth c b Ln xs) {D : va_G} {cy : Nat → ClassId} {A : Nat → Prop} (hA : ∀ q, s.heap.size ≤ q → A q) (hN : NW s) (hK : va_K D vwCl (tysC cy) s) (hST : STAT A s) {xa x1 x3 : Nat} {T : Int} {PK PT : Nat → Int32} {SX : Nat → Nat → Int} {SY : Nat → Nat → Nat → Int32} {WH : Int32} {CA : Nat → Int32} {Wa Wb : va_W} {H : Heap} {locs : List Loc} {cells slots : Nat} {ls : Array Slot} {lv : List (Nat × Value)} (k1 : Int32) (k2 : Int32) (k3 : Int32)  (hcs : cells + 0 ≤ 600000 ∧ slots + 0 ≤ 7302250) (hT : 0 ≤ T ∧ T ≤ 900000) (hSH : (∀ k, k < x1 → SV (SX k) (SY k)) ∧ (∀ k, k < x1 → HI (SX k) (SY k)) ∧ TNN x1 SX SY) (hXS : XSg cy xa x1 x3 (PS x1 x3 T PK PT SX SY WH CA) Wa) (hP1 : va_P D vwCl Wa H) (hP2 : va_P D vwCl Wb H) (hD1 : va_D A Wa) (hap : APT Wa Wb) (hS : va_S A s.heap H locs) (hl : lv_has ls 4 lv) (kk : ∀ (r : Int32) (Wc : va_W) (H1 : Heap) (locs1 : List Loc), r = anEn x1 SX SY k1 k2 k3 (-1) → XSg cy xa x1 x3 (fun x0 x2 x5 x6 x8 x7 x9 x10 K L M => (∀ n9 l9, (okEn x1 SX SY k1 k2 k3 (-1) → REMF (SX k1.toNatClampNeg 16) (SY k1.toNatClampNeg 43) k2 n9 l9) → ∃ Bo, CX Bo K L x0 x1 (T + 1) x3 PK PT (sxEn x1 SX SY k1 k2 k3 (-1) n9) (syEn x1 SX SY k1 k2 k3 (-1) l9) M) ∧ PX x0 x1 x2 x3 PK PT M ∧ x10 = (-1) ∧ RGC M x5 CA ∧ (∀ n9 l9, (okEn x1 SX SY k1 k2 k3 (-1) → REMF (SX k1.toNatClampNeg 16) (SY k1.toNatClampNeg 43) k2 n9 l9) → SCX x0 x1 (sxEn x1 SX SY k1 k2 k3 (-1) n9) M)) Wc → va_P D vwCl Wc H1 → va_P D vwCl Wb H1 → va_D A Wc → APT Wc Wb → va_S A s.heap H1 locs1 → W p l e room_1 s m #[Value.ref b] below meth c H1 locs1 (cells + 0) (slots + 0) (lw_Z below #[Value.ref b] s) (F0 m 813 ls [.int r])) : W p l e room_1 s m #[Value.ref b] below meth c H locs cells slots (lw_Z below #[Value.ref b] s) (F0 m 810 ls [.int k3, .int k2, .int k1, .ref xa]) := by
  obtain ⟨hx, hb, hr, hml, hown, hts, hX, hbl, hlocks, hgv⟩ := id C0
  have hg : ∀ w ∈ lw_good, w.before #[Value.ref b] s = true := fun w h => hts w (List.mem_filter.mp h).1
  have hown : s.vm.findClass RL = some m.cls := hown
  obtain ⟨hSV, hHI, hTN⟩ := hSH
  obtain ⟨x0, x2, x4, x5, x6, x7, x8, x9, x10, K, L, M, rfl, i0, b1, i2, b3, i4, i5, i6, i8, hW, ⟨Bo, hC⟩, hPX, hWH, hRG, hSC⟩ := hXS
  have hFc : ∀ q, va_A ([(xa, (b11_1 x0 (nI x1) x2 (nI x3) x4 x5 x6 x7 x8 x9 x10))] ++ va_pl L M) H.size q → A q := pg_free hD1 hS hA
  refine va_calli (va_runV (As := [.int k1, .int k2, .int k3]) (rest := []) ⟨hx, hb, hml, hown, hg⟩ (x_spend l D cy K L M H.size xa x0 x1 x2 x3 x4 x5 x6 x7 x8 x9 x10 k1 k2 k3 Bo T PK PT SX SY hW i0 b1 i2 b3 i4 i5 i6 i8 hC hSV hHI hT) (cwV 3 hg (gV wd_987 wd_988 wd_989 wd_3 wd_990) rfl rfl rfl (by decide +kernel) ⟨(Nat.le_of_ble_eq_true rfl), (Nat.le_of_ble_eq_true rfl)⟩) ⟨PG.blind, va_recv hK hP1 (ci := 11) (q0 := 0) rfl rfl, fun U hU hW9 => ⟨rfl, PG.at hP1 hK hD1 hN hU hW9⟩⟩ rfl rfl hl.1 rfl (lv_room (Nat.le_of_ble_eq_true rfl)) dL_law_810 hcs) hS (fun q _ h => hFc q h) hFc (fun r u t H1 locs1 ht hvm hw hB hz1 hk1 hS1 => ?_)
  obtain ⟨hW9, hF9, gT3, gT10, hVP, hpost⟩ := hw
  obtain ⟨w9, hP9, hD9⟩ := hB
  rw [ht] at hP9
  obtain ⟨hQ9, hap9⟩ := hap.step hP2 hk1 hD9
  exact kk r _ H1 locs1 hpost ⟨x0, x2, x4, x5, x6, x7, x8, w9, (-1), K, L, u, rfl, i0, b1, i2, b3, i4, i5, i6, i8, hW9, ⟨(fun n9 l9 h9 => ⟨Bo, hVP n9 l9 h9⟩), (PX.mv hPX hW i0 i2 b3 hF9 (by decide) (by decide) (by decide)), rfl, (hRG.mv (RGS.of hW i5 hF9 (by decide) (by decide))), (fun n9 l9 h9 => (SCX.mv hSC hW i0 b1 (by rw [hF9.at i0 (by decide)]) (fr19 hF9 (by decide)) (fun c ic => hF9.at ic (by decide)) (fun j => by unfold sxEn; repeat' (first | rfl | exact va17 (by rfl) j | exact va17 (lKdn _ _ _ _ _ (by decide)) j | exact va17 ((va_up_ne _ _ (by decide)).trans (lKdn _ _ _ _ _ (by decide))) j | refine ite17 ?_ ?_))))⟩⟩ hP9 hQ9 (hD9.mono hFc) hap9 hS1
set_option maxHeartbeats 4000000 in
set_option maxRecDepth 100000 in
theorem cx_loose {p : Program} {l : Launch} {e : Env} {s : State} {m : MethodId} {below : List Frame} {meth : Method} {c : Code} {b Ln : Nat} {xs : Nat → Int32} (C0 : lw_At p s m meth c b Ln xs) {D : va_G} {cy : Nat → ClassId} {A : Nat → Prop} (hA : ∀ q, s.heap.size ≤ q → A q) (hN : NW s) (hK : va_K D vwCl (tysC cy) s) (hST : STAT A s) {xa x1 x3 : Nat} {T : Int} {PK PT : Nat → Int32} {SX : Nat → Nat → Int} {SY : Nat → Nat → Nat → Int32} {WH : Int32} {CA : Nat → Int32} {Wa Wb : va_W} {H : Heap} {locs : List Loc} {cells slots : Nat} {ls : Array Slot} {lv : List (Nat × Value)} (k1 : Int32) (k2 : Int32)  (hcs : cells + 0 ≤ 600000 ∧ slots + 0 ≤ 7302250) (hT : 0 ≤ T ∧ T ≤ 900000) (hSH : (∀ k, k < x1 → SV (SX k) (SY k)) ∧ (∀ k, k < x1 → HI (SX k) (SY k)) ∧ TNN x1 SX SY) (hXS : XSg cy xa x1 x3 (PS x1 x3 T PK PT SX SY WH CA) Wa) (hP1 : va_P D vwCl Wa H) (hP2 : va_P D vwCl Wb H) (hD1 : va_D A Wa) (hap : APT Wa Wb) (hS : va_S A s.heap H locs) (hl : lv_has ls 4 lv) (kk : ∀ (r : Int32) (Wc : va_W) (H1 : Heap) (locs1 : List Loc), XSg cy xa x1 x3 (fun x0 x2 x5 x6 x8 x7 x9 x10 K L M => (∃ Bo, CX Bo K L x0 x1 (T + 1) x3 PK PT SX SY M) ∧ PX x0 x1 x2 x3 PK PT M ∧ x10 = (-1) ∧ RGC M x5 CA ∧ (SCX x0 x1 SX M)) Wc → va_P D vwCl Wc H1 → va_P D vwCl Wb H1 → va_D A Wc → APT Wc Wb → va_S A s.heap H1 locs1 → W p l e room_1 s m #[Value.ref b] below meth c H1 locs1 (cells + 0) (slots + 0) (lw_Z below #[Value.ref b] s) (F0 m 851 ls [.int r])) : W p l e room_1 s m #[Value.ref b] below meth c H locs cells slots (lw_Z below #[Value.ref b] s) (F0 m 848 ls [.int k2, .int k1, .ref xa]) := by
  obtain ⟨hx, hb, hr, hml, hown, hts, hX, hbl, hlocks, hgv⟩ := id C0
  have hg : ∀ w ∈ lw_good, w.before #[Value.ref b] s = true := fun w h => hts w (List.mem_filter.mp h).1
  have hown : s.vm.findClass RL = some m.cls := hown
  obtain ⟨hSV, hHI, hTN⟩ := hSH
  obtain ⟨x0, x2, x4, x5, x6, x7, x8, x9, x10, K, L, M, rfl, i0, b1, i2, b3, i4, i5, i6, i8, hW, ⟨Bo, hC⟩, hPX, hWH, hRG, hSC⟩ := hXS
  have hFc : ∀ q, va_A ([(xa, (b11_1 x0 (nI x1) x2 (nI x3) x4 x5 x6 x7 x8 x9 x10))] ++ va_pl L M) H.size q → A q := pg_free hD1 hS hA
  refine va_calli (va_runV (As := [.int k1, .int k2]) (rest := []) ⟨hx, hb, hml, hown, hg⟩ (s_X11_loose l D cy K L M H.size xa x0 x1 x2 x3 x4 x5 x6 x7 x8 x9 x10 k1 k2 hW i0 b1 i2 b3 i4 i5 i6 i8) (cwV 2 hg (gV wd_991 wd_992 wd_993 wd_3 wd_994) rfl rfl rfl (by decide +kernel) ⟨(Nat.le_of_ble_eq_true rfl), (Nat.le_of_ble_eq_true rfl)⟩) ⟨PG.blind, va_recv hK hP1 (ci := 11) (q0 := 0) rfl rfl, fun U hU hW9 => ⟨rfl, PG.at hP1 hK hD1 hN hU hW9⟩⟩ rfl rfl hl.1 rfl (lv_room (Nat.le_of_ble_eq_true rfl)) dL_law_848 hcs) hS (fun q _ h => hFc q h) hFc (fun r u t H1 locs1 ht hvm hw hB hz1 hk1 hS1 => ?_)
  obtain ⟨hW9, hF9, gT2, hpost⟩ := hw
  obtain ⟨w9, hP9, hD9⟩ := hB
  rw [ht] at hP9
  obtain ⟨hQ9, hap9⟩ := hap.step hP2 hk1 hD9
  exact kk r _ H1 locs1 ⟨x0, x2, x4, x5, x6, x7, x8, w9, (-1), K, L, u, rfl, i0, b1, i2, b3, i4, i5, i6, i8, hW9, ⟨⟨Bo, CX.same hC hW i0 b1 (SAME.fr (fT.cv (W2 hW) gT2 (by decide)) (fr.cv hF9 (by decide)) (fr.cv hF9 (by decide)) (fr.cv hF9 (by decide)) (fr.cv hF9 (by decide)) (fr.cv hF9 (by decide)) (fr.cv hF9 (by decide)) hF9 (by decide)) (by rw [hF9.at i0 (by decide)])⟩, (PX.mv hPX hW i0 i2 b3 hF9 (by decide) (by decide) (by decide)), rfl, (hRG.mv (RGS.of hW i5 hF9 (by decide) (by decide))), (SCX.mv hSC hW i0 b1 (by rw [hF9.at i0 (by decide)]) (fT19 (W2 hW) gT2 (by decide)) (fun c ic => hF9.at ic (by decide)) (fun _ => rfl))⟩⟩ hP9 hQ9 (hD9.mono hFc) hap9 hS1
set_option maxHeartbeats 4000000 in
set_option maxRecDepth 100000 in
theorem cx_move {p : Program} {l : Launch} {e : Env} {s : State} {m : MethodId} {below : List Frame} {meth : Method} {c : Code} {b Ln : Nat} {xs : Nat → Int32} (C0 : lw_At p s m meth c b Ln xs) {D : va_G} {cy : Nat → ClassId} {A : Nat → Prop} (hA : ∀ q, s.heap.size ≤ q → A q) (hN : NW s) (hK : va_K D vwCl (tysC cy) s) (hST : STAT A s) {xa x1 x3 : Nat} {T : Int} {PK PT : Nat → Int32} {SX : Nat → Nat → Int} {SY : Nat → Nat → Nat → Int32} {WH : Int32} {CA : Nat → Int32} {Wa Wb : va_W} {H : Heap} {locs : List Loc} {cells slots : Nat} {ls : Array Slot} {lv : List (Nat × Value)} (k1 : Int32) (k2 : Int32) (k3 : Int32) (k4 : Int32) (k5 : Int32) (zk5 : (k5 = 0 ∨ k5 = 1)) (hcs : cells + 0 ≤ 600000 ∧ slots + 0 ≤ 7302250) (hT : 0 ≤ T ∧ T ≤ 900000) (hSH : (∀ k, k < x1 → SV (SX k) (SY k)) ∧ (∀ k, k < x1 → HI (SX k) (SY k)) ∧ TNN x1 SX SY) (hXS : XSg cy xa x1 x3 (PS x1 x3 T PK PT SX SY WH CA) Wa) (hP1 : va_P D vwCl Wa H) (hP2 : va_P D vwCl Wb H) (hD1 : va_D A Wa) (hap : APT Wa Wb) (hS : va_S A s.heap H locs) (hl : lv_has ls 4 lv) (kk : ∀ (r : Int32) (Wc : va_W) (H1 : Heap) (locs1 : List Loc), r = anMv x1 SX SY k1 k2 k3 k4 → XSg cy xa x1 x3 (fun x0 x2 x5 x6 x8 x7 x9 x10 K L M => (∀ n9 l9, (okMv x1 SX SY k1 k2 k3 k4 → REMF (SX k1.toNatClampNeg 16) (SY k1.toNatClampNeg 43) (-1) n9 l9) → ∃ Bo, CX Bo K L x0 x1 (T + 1) x3 PK PT (sxMv x1 SX SY k1 k2 k3 k4 n9) (syMv x1 SX SY k1 k2 k3 k4 k5 l9) M) ∧ PX x0 x1 x2 x3 PK PT M ∧ x10 = (-1) ∧ RGC M x5 CA ∧ (∀ n9 l9, (okMv x1 SX SY k1 k2 k3 k4 → REMF (SX k1.toNatClampNeg 16) (SY k1.toNatClampNeg 43) (-1) n9 l9) → SCX x0 x1 (sxMv x1 SX SY k1 k2 k3 k4 n9) M)) Wc → va_P D vwCl Wc H1 → va_P D vwCl Wb H1 → va_D A Wc → APT Wc Wb → va_S A s.heap H1 locs1 → W p l e room_1 s m #[Value.ref b] below meth c H1 locs1 (cells + 0) (slots + 0) (lw_Z below #[Value.ref b] s) (F0 m 907 ls [.int r])) : W p l e room_1 s m #[Value.ref b] below meth c H locs cells slots (lw_Z below #[Value.ref b] s) (F0 m 904 ls [.int k5, .int k4, .int k3, .int k2, .int k1, .ref xa]) := by
  obtain ⟨hx, hb, hr, hml, hown, hts, hX, hbl, hlocks, hgv⟩ := id C0
  have hg : ∀ w ∈ lw_good, w.before #[Value.ref b] s = true := fun w h => hts w (List.mem_filter.mp h).1
  have hown : s.vm.findClass RL = some m.cls := hown
  obtain ⟨hSV, hHI, hTN⟩ := hSH
  obtain ⟨x0, x2, x4, x5, x6, x7, x8, x9, x10, K, L, M, rfl, i0, b1, i2, b3, i4, i5, i6, i8, hW, ⟨Bo, hC⟩, hPX, hWH, hRG, hSC⟩ := hXS
  have hFc : ∀ q, va_A ([(xa, (b11_1 x0 (nI x1) x2 (nI x3) x4 x5 x6 x7 x8 x9 x10))] ++ va_pl L M) H.size q → A q := pg_free hD1 hS hA
  refine va_calli (va_runV (As := [.int k1, .int k2, .int k3, .int k4, .int k5]) (rest := []) ⟨hx, hb, hml, hown, hg⟩ (x_move l D cy K L M H.size xa x0 x1 x2 x3 x4 x5 x6 x7 x8 x9 x10 k1 k2 k3 k4 k5 Bo T PK PT SX SY hW i0 b1 i2 b3 i4 i5 i6 i8 zk5 hC hSV hHI hT) (cwV 5 hg (gV wd_995 wd_996 wd_997 wd_3 wd_998) rfl rfl rfl (by decide +kernel) ⟨(Nat.le_of_ble_eq_true rfl), (Nat.le_of_ble_eq_true rfl)⟩) ⟨PG.blind, va_recv hK hP1 (ci := 11) (q0 := 0) rfl rfl, fun U hU hW9 => ⟨rfl, PG.at hP1 hK hD1 hN hU hW9⟩⟩ rfl rfl hl.1 rfl (lv_room (Nat.le_of_ble_eq_true rfl)) dL_law_904 hcs) hS (fun q _ h => hFc q h) hFc (fun r u t H1 locs1 ht hvm hw hB hz1 hk1 hS1 => ?_)
  obtain ⟨hW9, hF9, gT1, gT10, hVP, hpost⟩ := hw
  obtain ⟨w9, hP9, hD9⟩ := hB
  rw [ht] at hP9
  obtain ⟨hQ9, hap9⟩ := hap.step hP2 hk1 hD9
  exact kk r _ H1 locs1 hpost ⟨x0, x2, x4, x5, x6, x7, x8, w9, (-1), K, L, u, rfl, i0, b1, i2, b3, i4, i5, i6, i8, hW9, ⟨(fun n9 l9 h9 => ⟨Bo, hVP n9 l9 h9⟩), (PX.mv hPX hW i0 i2 b3 hF9 (by decide) (by decide) (by decide)), rfl, (hRG.mv (RGS.of hW i5 hF9 (by decide) (by decide))), (fun n9 l9 h9 => (SCX.mv hSC hW i0 b1 (by rw [hF9.at i0 (by decide)]) (fr19 hF9 (by decide)) (fun c ic => hF9.at ic (by decide)) (fun j => by unfold sxMv; repeat' (first | rfl | exact va17 (by rfl) j | exact va17 (lKdn _ _ _ _ _ (by decide)) j | exact va17 ((va_up_ne _ _ (by decide)).trans (lKdn _ _ _ _ _ (by decide))) j | refine ite17 ?_ ?_))))⟩⟩ hP9 hQ9 (hD9.mono hFc) hap9 hS1
set_option maxHeartbeats 4000000 in
set_option maxRecDepth 100000 in
theorem cx_lend {p : Program} {l : Launch} {e : Env} {s : State} {m : MethodId} {below : List Frame} {meth : Method} {c : Code} {b Ln : Nat} {xs : Nat → Int32} (C0 : lw_At p s m meth c b Ln xs) {D : va_G} {cy : Nat → ClassId} {A : Nat → Prop} (hA : ∀ q, s.heap.size ≤ q → A q) (hN : NW s) (hK : va_K D vwCl (tysC cy) s) (hST : STAT A s) {xa x1 x3 : Nat} {T : Int} {PK PT : Nat → Int32} {SX : Nat → Nat → Int} {SY : Nat → Nat → Nat → Int32} {WH : Int32} {CA : Nat → Int32} {Wa Wb : va_W} {H : Heap} {locs : List Loc} {cells slots : Nat} {ls : Array Slot} {lv : List (Nat × Value)} (k1 : Int32) (k2 : Int32) (k3 : Int32) (k4 : Int32) (zk4 : (k4 = 0 ∨ k4 = 1)) (hcs : cells + 0 ≤ 600000 ∧ slots + 0 ≤ 7302250) (hT : 0 ≤ T ∧ T ≤ 900000) (hSH : (∀ k, k < x1 → SV (SX k) (SY k)) ∧ (∀ k, k < x1 → HI (SX k) (SY k)) ∧ TNN x1 SX SY) (hXS : XSg cy xa x1 x3 (PS x1 x3 T PK PT SX SY WH CA) Wa) (hP1 : va_P D vwCl Wa H) (hP2 : va_P D vwCl Wb H) (hD1 : va_D A Wa) (hap : APT Wa Wb) (hS : va_S A s.heap H locs) (hl : lv_has ls 4 lv) (kk : ∀ (r : Int32) (Wc : va_W) (H1 : Heap) (locs1 : List Loc), r = anLd x1 SX k1 k2 k3 k4 → XSg cy xa x1 x3 (fun x0 x2 x5 x6 x8 x7 x9 x10 K L M => (∃ Bo, CX Bo K L x0 x1 (T + 1) x3 PK PT (sxLd x1 SX k1 k2 k3 k4) SY M) ∧ PX x0 x1 x2 x3 PK PT M ∧ x10 = (-1) ∧ RGC M x5 CA ∧ (SCX x0 x1 (sxLd x1 SX k1 k2 k3 k4) M)) Wc → va_P D vwCl Wc H1 → va_P D vwCl Wb H1 → va_D A Wc → APT Wc Wb → va_S A s.heap H1 locs1 → W p l e room_1 s m #[Value.ref b] below meth c H1 locs1 (cells + 0) (slots + 0) (lw_Z below #[Value.ref b] s) (F0 m 981 ls [.int r])) : W p l e room_1 s m #[Value.ref b] below meth c H locs cells slots (lw_Z below #[Value.ref b] s) (F0 m 978 ls [.int k4, .int k3, .int k2, .int k1, .ref xa]) := by
  obtain ⟨hx, hb, hr, hml, hown, hts, hX, hbl, hlocks, hgv⟩ := id C0
  have hg : ∀ w ∈ lw_good, w.before #[Value.ref b] s = true := fun w h => hts w (List.mem_filter.mp h).1
  have hown : s.vm.findClass RL = some m.cls := hown
  obtain ⟨hSV, hHI, hTN⟩ := hSH
  obtain ⟨x0, x2, x4, x5, x6, x7, x8, x9, x10, K, L, M, rfl, i0, b1, i2, b3, i4, i5, i6, i8, hW, ⟨Bo, hC⟩, hPX, hWH, hRG, hSC⟩ := hXS
  have hFc : ∀ q, va_A ([(xa, (b11_1 x0 (nI x1) x2 (nI x3) x4 x5 x6 x7 x8 x9 x10))] ++ va_pl L M) H.size q → A q := pg_free hD1 hS hA
  refine va_calli (va_runV (As := [.int k1, .int k2, .int k3, .int k4]) (rest := []) ⟨hx, hb, hml, hown, hg⟩ (x_lend l D cy K L M H.size xa x0 x1 x2 x3 x4 x5 x6 x7 x8 x9 x10 k1 k2 k3 k4 Bo T PK PT SX SY hW i0 b1 i2 b3 i4 i5 i6 i8 zk4 hC hSV hHI hT) (cwV 4 hg (gV wd_999 wd_1000 wd_1001 wd_3 wd_1002) rfl rfl rfl (by decide +kernel) ⟨(Nat.le_of_ble_eq_true rfl), (Nat.le_of_ble_eq_true rfl)⟩) ⟨PG.blind, va_recv hK hP1 (ci := 11) (q0 := 0) rfl rfl, fun U hU hW9 => ⟨rfl, PG.at hP1 hK hD1 hN hU hW9⟩⟩ rfl rfl hl.1 rfl (lv_room (Nat.le_of_ble_eq_true rfl)) dL_law_978 hcs) hS (fun q _ h => hFc q h) hFc (fun r u t H1 locs1 ht hvm hw hB hz1 hk1 hS1 => ?_)
  obtain ⟨hW9, hF9, gT9, hVP, hpost⟩ := hw
  obtain ⟨w9, hP9, hD9⟩ := hB
  rw [ht] at hP9
  obtain ⟨hQ9, hap9⟩ := hap.step hP2 hk1 hD9
  exact kk r _ H1 locs1 hpost ⟨x0, x2, x4, x5, x6, x7, x8, w9, (-1), K, L, u, rfl, i0, b1, i2, b3, i4, i5, i6, i8, hW9, ⟨⟨Bo, hVP⟩, (PX.mv hPX hW i0 i2 b3 hF9 (by decide) (by decide) (by decide)), rfl, (hRG.mv (RGS.of hW i5 hF9 (by decide) (by decide))), (SCX.mv hSC hW i0 b1 (by rw [hF9.at i0 (by decide)]) (fr19 hF9 (by decide)) (fun c ic => hF9.at ic (by decide)) (fun j => by unfold sxLd; repeat' (first | rfl | exact va17 (by rfl) j | exact va17 (lKdn _ _ _ _ _ (by decide)) j | exact va17 ((va_up_ne _ _ (by decide)).trans (lKdn _ _ _ _ _ (by decide))) j | refine ite17 ?_ ?_)))⟩⟩ hP9 hQ9 (hD9.mono hFc) hap9 hS1
set_option maxHeartbeats 4000000 in
set_option maxRecDepth 100000 in
theorem cx_undo {p : Program} {l : Launch} {e : Env} {s : State} {m : MethodId} {below : List Frame} {meth : Method} {c : Code} {b Ln : Nat} {xs : Nat → Int32} (C0 : lw_At p s m meth c b Ln xs) {D : va_G} {cy : Nat → ClassId} {A : Nat → Prop} (hA : ∀ q, s.heap.size ≤ q → A q) (hN : NW s) (hK : va_K D vwCl (tysC cy) s) (hST : STAT A s) {xa x1 x3 : Nat} {T : Int} {PK PT : Nat → Int32} {SX : Nat → Nat → Int} {SY : Nat → Nat → Nat → Int32} {WH : Int32} {CA : Nat → Int32} {Wa Wb : va_W} {H : Heap} {locs : List Loc} {cells slots : Nat} {ls : Array Slot} {lv : List (Nat × Value)} (k1 : Int32)  (hcs : cells + 0 ≤ 600000 ∧ slots + 0 ≤ 7302250) (hT : 0 ≤ T ∧ T ≤ 900000) (hSH : (∀ k, k < x1 → SV (SX k) (SY k)) ∧ (∀ k, k < x1 → HI (SX k) (SY k)) ∧ TNN x1 SX SY) (hXS : XSg cy xa x1 x3 (PS x1 x3 T PK PT SX SY WH CA) Wa) (hP1 : va_P D vwCl Wa H) (hP2 : va_P D vwCl Wb H) (hD1 : va_D A Wa) (hap : APT Wa Wb) (hS : va_S A s.heap H locs) (hl : lv_has ls 4 lv) (kk : ∀ (r : Int32) (Wc : va_W) (H1 : Heap) (locs1 : List Loc), r = anUd x1 SX k1 → XSg cy xa x1 x3 (fun x0 x2 x5 x6 x8 x7 x9 x10 K L M => (∃ Bo, CX Bo K L x0 x1 (T + 1) x3 PK PT (sxUd x1 SX SY k1) (syUd x1 SX SY k1) M) ∧ PX x0 x1 x2 x3 PK PT M ∧ x10 = (-1) ∧ RGC M x5 CA ∧ (SCX x0 x1 (sxUd x1 SX SY k1) M)) Wc → va_P D vwCl Wc H1 → va_P D vwCl Wb H1 → va_D A Wc → APT Wc Wb → va_S A s.heap H1 locs1 → W p l e room_1 s m #[Value.ref b] below meth c H1 locs1 (cells + 0) (slots + 0) (lw_Z below #[Value.ref b] s) (F0 m 1027 ls [.int r])) : W p l e room_1 s m #[Value.ref b] below meth c H locs cells slots (lw_Z below #[Value.ref b] s) (F0 m 1024 ls [.int k1, .ref xa]) := by
  obtain ⟨hx, hb, hr, hml, hown, hts, hX, hbl, hlocks, hgv⟩ := id C0
  have hg : ∀ w ∈ lw_good, w.before #[Value.ref b] s = true := fun w h => hts w (List.mem_filter.mp h).1
  have hown : s.vm.findClass RL = some m.cls := hown
  obtain ⟨hSV, hHI, hTN⟩ := hSH
  obtain ⟨x0, x2, x4, x5, x6, x7, x8, x9, x10, K, L, M, rfl, i0, b1, i2, b3, i4, i5, i6, i8, hW, ⟨Bo, hC⟩, hPX, hWH, hRG, hSC⟩ := hXS
  have hFc : ∀ q, va_A ([(xa, (b11_1 x0 (nI x1) x2 (nI x3) x4 x5 x6 x7 x8 x9 x10))] ++ va_pl L M) H.size q → A q := pg_free hD1 hS hA
  refine va_calli (va_runV (As := [.int k1]) (rest := []) ⟨hx, hb, hml, hown, hg⟩ (x_undo l D cy K L M H.size xa x0 x1 x2 x3 x4 x5 x6 x7 x8 x9 x10 k1 Bo T PK PT SX SY hW i0 b1 i2 b3 i4 i5 i6 i8 hC hSV hHI hT) (cwV 1 hg (gV wd_1003 wd_1004 wd_1005 wd_3 wd_1006) rfl rfl rfl (by decide +kernel) ⟨(Nat.le_of_ble_eq_true rfl), (Nat.le_of_ble_eq_true rfl)⟩) ⟨PG.blind, va_recv hK hP1 (ci := 11) (q0 := 0) rfl rfl, fun U hU hW9 => ⟨rfl, PG.at hP1 hK hD1 hN hU hW9⟩⟩ rfl rfl hl.1 rfl (lv_room (Nat.le_of_ble_eq_true rfl)) dL_law_1024 hcs) hS (fun q _ h => hFc q h) hFc (fun r u t H1 locs1 ht hvm hw hB hz1 hk1 hS1 => ?_)
  obtain ⟨hW9, hF9, gT3, gT1, gT10, hVP, hpost⟩ := hw
  obtain ⟨w9, hP9, hD9⟩ := hB
  rw [ht] at hP9
  obtain ⟨hQ9, hap9⟩ := hap.step hP2 hk1 hD9
  exact kk r _ H1 locs1 hpost ⟨x0, x2, x4, x5, x6, x7, x8, w9, (-1), K, L, u, rfl, i0, b1, i2, b3, i4, i5, i6, i8, hW9, ⟨⟨Bo, hVP⟩, (PX.mv hPX hW i0 i2 b3 hF9 (by decide) (by decide) (by decide)), rfl, (hRG.mv (RGS.of hW i5 hF9 (by decide) (by decide))), (SCX.mv hSC hW i0 b1 (by rw [hF9.at i0 (by decide)]) (fr19 hF9 (by decide)) (fun c ic => hF9.at ic (by decide)) (fun j => by unfold sxUd; repeat' (first | rfl | exact va17 (by rfl) j | exact va17 (lKdn _ _ _ _ _ (by decide)) j | exact va17 ((va_up_ne _ _ (by decide)).trans (lKdn _ _ _ _ _ (by decide))) j | refine ite17 ?_ ?_)))⟩⟩ hP9 hQ9 (hD9.mono hFc) hap9 hS1
set_option maxHeartbeats 4000000 in
set_option maxRecDepth 100000 in
theorem cx_end {p : Program} {l : Launch} {e : Env} {s : State} {m : MethodId} {below : List Frame} {meth : Method} {c : Code} {b Ln : Nat} {xs : Nat → Int32} (C0 : lw_At p s m meth c b Ln xs) {D : va_G} {cy : Nat → ClassId} {A : Nat → Prop} (hA : ∀ q, s.heap.size ≤ q → A q) (hN : NW s) (hK : va_K D vwCl (tysC cy) s) (hST : STAT A s) {xa x1 x3 : Nat} {T : Int} {PK PT : Nat → Int32} {SX : Nat → Nat → Int} {SY : Nat → Nat → Nat → Int32} {WH : Int32} {CA : Nat → Int32} {Wa Wb : va_W} {H : Heap} {locs : List Loc} {cells slots : Nat} {ls : Array Slot} {lv : List (Nat × Value)} (k1 : Int32) (k2 : Int32)  (hcs : cells + 0 ≤ 600000 ∧ slots + 0 ≤ 7302250) (hT : 0 ≤ T ∧ T ≤ 900000) (hSH : (∀ k, k < x1 → SV (SX k) (SY k)) ∧ (∀ k, k < x1 → HI (SX k) (SY k)) ∧ TNN x1 SX SY) (hXS : XSg cy xa x1 x3 (PS x1 x3 T PK PT SX SY WH CA) Wa) (hP1 : va_P D vwCl Wa H) (hP2 : va_P D vwCl Wb H) (hD1 : va_D A Wa) (hap : APT Wa Wb) (hS : va_S A s.heap H locs) (hl : lv_has ls 4 lv) (kk : ∀ (r : Int32) (Wc : va_W) (H1 : Heap) (locs1 : List Loc), r = anEd x1 SX SY k1 k2 → XSg cy xa x1 x3 (fun x0 x2 x5 x6 x8 x7 x9 x10 K L M => (∃ Bo, CX Bo K L x0 x1 (T + 1) x3 PK PT (sxEd x1 SX SY k1 k2) (syEd x1 SX SY k1 k2) M) ∧ PX x0 x1 x2 x3 PK PT M ∧ x10 = (-1) ∧ RGC M x5 CA ∧ (SCX x0 x1 (sxEd x1 SX SY k1 k2) M)) Wc → va_P D vwCl Wc H1 → va_P D vwCl Wb H1 → va_D A Wc → APT Wc Wb → va_S A s.heap H1 locs1 → W p l e room_1 s m #[Value.ref b] below meth c H1 locs1 (cells + 0) (slots + 0) (lw_Z below #[Value.ref b] s) (F0 m 1055 ls [.int r])) : W p l e room_1 s m #[Value.ref b] below meth c H locs cells slots (lw_Z below #[Value.ref b] s) (F0 m 1052 ls [.int k2, .int k1, .ref xa]) := by
  obtain ⟨hx, hb, hr, hml, hown, hts, hX, hbl, hlocks, hgv⟩ := id C0
  have hg : ∀ w ∈ lw_good, w.before #[Value.ref b] s = true := fun w h => hts w (List.mem_filter.mp h).1
  have hown : s.vm.findClass RL = some m.cls := hown
  obtain ⟨hSV, hHI, hTN⟩ := hSH
  obtain ⟨x0, x2, x4, x5, x6, x7, x8, x9, x10, K, L, M, rfl, i0, b1, i2, b3, i4, i5, i6, i8, hW, ⟨Bo, hC⟩, hPX, hWH, hRG, hSC⟩ := hXS
  have hFc : ∀ q, va_A ([(xa, (b11_1 x0 (nI x1) x2 (nI x3) x4 x5 x6 x7 x8 x9 x10))] ++ va_pl L M) H.size q → A q := pg_free hD1 hS hA
  refine va_calli (va_runV (As := [.int k1, .int k2]) (rest := []) ⟨hx, hb, hml, hown, hg⟩ (x_end l D cy K L M H.size xa x0 x1 x2 x3 x4 x5 x6 x7 x8 x9 x10 k1 k2 Bo T PK PT SX SY hW i0 b1 i2 b3 i4 i5 i6 i8 hC hSV hHI hT) (cwV 2 hg (gV wd_1007 wd_1008 wd_1009 wd_3 wd_1010) rfl rfl rfl (by decide +kernel) ⟨(Nat.le_of_ble_eq_true rfl), (Nat.le_of_ble_eq_true rfl)⟩) ⟨PG.blind, va_recv hK hP1 (ci := 11) (q0 := 0) rfl rfl, fun U hU hW9 => ⟨rfl, PG.at hP1 hK hD1 hN hU hW9⟩⟩ rfl rfl hl.1 rfl (lv_room (Nat.le_of_ble_eq_true rfl)) dL_law_1052 hcs) hS (fun q _ h => hFc q h) hFc (fun r u t H1 locs1 ht hvm hw hB hz1 hk1 hS1 => ?_)
  obtain ⟨hW9, hF9, gT2, hVP, hpost⟩ := hw
  obtain ⟨w9, hP9, hD9⟩ := hB
  rw [ht] at hP9
  obtain ⟨hQ9, hap9⟩ := hap.step hP2 hk1 hD9
  exact kk r _ H1 locs1 hpost ⟨x0, x2, x4, x5, x6, x7, x8, w9, (-1), K, L, u, rfl, i0, b1, i2, b3, i4, i5, i6, i8, hW9, ⟨⟨Bo, hVP⟩, (PX.mv hPX hW i0 i2 b3 hF9 (by decide) (by decide) (by decide)), rfl, (hRG.mv (RGS.of hW i5 hF9 (by decide) (by decide))), (SCX.mv hSC hW i0 b1 (by rw [hF9.at i0 (by decide)]) (fT19 (W2 hW) gT2 (by decide)) (fun c ic => hF9.at ic (by decide)) (fun j => by unfold sxEd; repeat' (first | rfl | exact va17 (by rfl) j | exact va17 (lKdn _ _ _ _ _ (by decide)) j | exact va17 ((va_up_ne _ _ (by decide)).trans (lKdn _ _ _ _ _ (by decide))) j | refine ite17 ?_ ?_)))⟩⟩ hP9 hQ9 (hD9.mono hFc) hap9 hS1
set_option maxHeartbeats 4000000 in
set_option maxRecDepth 100000 in
theorem cx_close {p : Program} {l : Launch} {e : Env} {s : State} {m : MethodId} {below : List Frame} {meth : Method} {c : Code} {b Ln : Nat} {xs : Nat → Int32} (C0 : lw_At p s m meth c b Ln xs) {D : va_G} {cy : Nat → ClassId} {A : Nat → Prop} (hA : ∀ q, s.heap.size ≤ q → A q) (hN : NW s) (hK : va_K D vwCl (tysC cy) s) (hST : STAT A s) {xa x1 x3 : Nat} {T : Int} {PK PT : Nat → Int32} {SX : Nat → Nat → Int} {SY : Nat → Nat → Nat → Int32} {WH : Int32} {CA : Nat → Int32} {Wa Wb : va_W} {H : Heap} {locs : List Loc} {cells slots : Nat} {ls : Array Slot} {lv : List (Nat × Value)} (k1 : Int32)  (hcs : cells + 720 ≤ 600000 ∧ slots + 4320 ≤ 7302250) (hT : 0 ≤ T ∧ T ≤ 900000) (hSH : (∀ k, k < x1 → SV (SX k) (SY k)) ∧ (∀ k, k < x1 → HI (SX k) (SY k)) ∧ TNN x1 SX SY) (hXS : XSg cy xa x1 x3 (PS x1 x3 T PK PT SX SY WH CA) Wa) (hP1 : va_P D vwCl Wa H) (hP2 : va_P D vwCl Wb H) (hD1 : va_D A Wa) (hap : APT Wa Wb) (hS : va_S A s.heap H locs) (hl : lv_has ls 4 lv) (kk : ∀ (r : Int32) (Wc : va_W) (H1 : Heap) (locs1 : List Loc), r = anCl x1 PK PT SX SY k1 → XSg cy xa x1 x3 (fun x0 x2 x5 x6 x8 x7 x9 x10 K L M => (∀ X9 Y9, (okCl x1 PK PT SX SY k1 → CLF (enD (SX k1.toNatClampNeg) (SY k1.toNatClampNeg)) (SX k1.toNatClampNeg) (SY k1.toNatClampNeg) X9 Y9) → ∃ Bo, CX Bo K L x0 x1 (T + 1) x3 PK PT (sxCl x1 PK PT SX SY k1 X9) (syCl x1 PK PT SX SY k1 Y9) M) ∧ PX x0 x1 x2 x3 PK PT M ∧ WHR x1 PK PT SX SY k1 x10 ∧ RGC M x5 CA ∧ (∀ X9 Y9, (okCl x1 PK PT SX SY k1 → CLF (enD (SX k1.toNatClampNeg) (SY k1.toNatClampNeg)) (SX k1.toNatClampNeg) (SY k1.toNatClampNeg) X9 Y9) → SCX x0 x1 (sxCl x1 PK PT SX SY k1 X9) M)) Wc → va_P D vwCl Wc H1 → va_P D vwCl Wb H1 → va_D A Wc → APT Wc Wb → va_S A s.heap H1 locs1 → W p l e room_1 s m #[Value.ref b] below meth c H1 locs1 (cells + 720) (slots + 4320) (lw_Z below #[Value.ref b] s) (F0 m 1083 ls [.int r])) : W p l e room_1 s m #[Value.ref b] below meth c H locs cells slots (lw_Z below #[Value.ref b] s) (F0 m 1080 ls [.int k1, .ref xa]) := by
  obtain ⟨hx, hb, hr, hml, hown, hts, hX, hbl, hlocks, hgv⟩ := id C0
  have hg : ∀ w ∈ lw_good, w.before #[Value.ref b] s = true := fun w h => hts w (List.mem_filter.mp h).1
  have hown : s.vm.findClass RL = some m.cls := hown
  obtain ⟨hSV, hHI, hTN⟩ := hSH
  obtain ⟨x0, x2, x4, x5, x6, x7, x8, x9, x10, K, L, M, rfl, i0, b1, i2, b3, i4, i5, i6, i8, hW, ⟨Bo, hC⟩, hPX, hWH, hRG, hSC⟩ := hXS
  have hFc : ∀ q, va_A ([(xa, (b11_1 x0 (nI x1) x2 (nI x3) x4 x5 x6 x7 x8 x9 x10))] ++ va_pl L M) H.size q → A q := pg_free hD1 hS hA
  refine va_calli (va_runV (As := [.int k1]) (rest := []) ⟨hx, hb, hml, hown, hg⟩ (x_close l D cy K L M H.size xa x0 x1 x2 x3 x4 x5 x6 x7 x8 x9 x10 k1 Bo T PK PT SX SY hW i0 b1 i2 b3 i4 i5 i6 i8 hC hSV hHI hT hSC) (cwV 1 hg (gV wd_1011 wd_1012 wd_1013 wd_3 wd_1014) rfl rfl rfl (by decide +kernel) ⟨(Nat.le_of_ble_eq_true rfl), (Nat.le_of_ble_eq_true rfl)⟩) ⟨PG.blind, va_recv hK hP1 (ci := 11) (q0 := 0) rfl rfl, fun U hU hW9 => ⟨rfl, PG.at hP1 hK hD1 hN hU hW9⟩⟩ rfl rfl hl.1 rfl (lv_room (Nat.le_of_ble_eq_true rfl)) dL_law_1080 hcs) hS (fun q _ h => hFc q h) hFc (fun r u t H1 locs1 ht hvm hw hB hz1 hk1 hS1 => ?_)
  obtain ⟨K9, L9, M9⟩ := u
  dsimp only at hw hB
  obtain ⟨hx9, hW9, hF9, gT2, gT9, gT1, gT10, hpost⟩ := hw
  obtain ⟨w9, w10, hg0, hg1, hg2, hP9, hD9⟩ := hB
  rw [ht] at hP9
  obtain ⟨hQ9, hap9⟩ := hap.step hP2 hk1 hD9
  exact kk r _ H1 locs1 hpost ⟨x0, x2, x4, x5, x6, x7, x8, w9, w10, K9, L9, M9, rfl, (i0.ext hx9), b1, (i2.ext hx9), b3, (i4.ext hx9), (i5.ext hx9), (i6.ext hx9), (i8.ext hx9), hW9, ⟨(fun X9 Y9 h9 => ⟨Bo, hg0 X9 Y9 h9⟩), (PX.mv hPX hW i0 i2 b3 hF9 (by decide) (by decide) (by decide)), hg1, (hRG.mv (RGS.of hW i5 hF9 (by decide) (by decide))), hg2⟩⟩ hP9 hQ9 (hD9.mono hFc) hap9 hS1
set_option maxHeartbeats 4000000 in
set_option maxRecDepth 100000 in
theorem cx_mend {p : Program} {l : Launch} {e : Env} {s : State} {m : MethodId} {below : List Frame} {meth : Method} {c : Code} {b Ln : Nat} {xs : Nat → Int32} (C0 : lw_At p s m meth c b Ln xs) {D : va_G} {cy : Nat → ClassId} {A : Nat → Prop} (hA : ∀ q, s.heap.size ≤ q → A q) (hN : NW s) (hK : va_K D vwCl (tysC cy) s) (hST : STAT A s) {xa x1 x3 : Nat} {T : Int} {PK PT : Nat → Int32} {SX : Nat → Nat → Int} {SY : Nat → Nat → Nat → Int32} {WH : Int32} {CA : Nat → Int32} {Wa Wb : va_W} {H : Heap} {locs : List Loc} {cells slots : Nat} {ls : Array Slot} {lv : List (Nat × Value)} (k1 : Int32) (k2 : Int32) (k3 : Int32)  (hcs : cells + 0 ≤ 600000 ∧ slots + 0 ≤ 7302250) (hT : 0 ≤ T ∧ T ≤ 900000) (hSH : (∀ k, k < x1 → SV (SX k) (SY k)) ∧ (∀ k, k < x1 → HI (SX k) (SY k)) ∧ TNN x1 SX SY) (hXS : XSg cy xa x1 x3 (PS x1 x3 T PK PT SX SY WH CA) Wa) (hP1 : va_P D vwCl Wa H) (hP2 : va_P D vwCl Wb H) (hD1 : va_D A Wa) (hap : APT Wa Wb) (hS : va_S A s.heap H locs) (hl : lv_has ls 4 lv) (kk : ∀ (r : Int32) (Wc : va_W) (H1 : Heap) (locs1 : List Loc), r = anMe x1 SX k1 k2 k3 → XSg cy xa x1 x3 (fun x0 x2 x5 x6 x8 x7 x9 x10 K L M => (∃ Bo, CX Bo K L x0 x1 (T + 1) x3 PK PT (sxMe x1 SX k1 k2 k3) (syMe x1 SX SY k1 k2 k3) M) ∧ PX x0 x1 x2 x3 PK PT M ∧ x10 = (-1) ∧ RGC M x5 CA ∧ (SCX x0 x1 (sxMe x1 SX k1 k2 k3) M)) Wc → va_P D vwCl Wc H1 → va_P D vwCl Wb H1 → va_D A Wc → APT Wc Wb → va_S A s.heap H1 locs1 → W p l e room_1 s m #[Value.ref b] below meth c H1 locs1 (cells + 0) (slots + 0) (lw_Z below #[Value.ref b] s) (F0 m 1116 ls [.int r])) : W p l e room_1 s m #[Value.ref b] below meth c H locs cells slots (lw_Z below #[Value.ref b] s) (F0 m 1113 ls [.int k3, .int k2, .int k1, .ref xa]) := by
  obtain ⟨hx, hb, hr, hml, hown, hts, hX, hbl, hlocks, hgv⟩ := id C0
  have hg : ∀ w ∈ lw_good, w.before #[Value.ref b] s = true := fun w h => hts w (List.mem_filter.mp h).1
  have hown : s.vm.findClass RL = some m.cls := hown
  obtain ⟨hSV, hHI, hTN⟩ := hSH
  obtain ⟨x0, x2, x4, x5, x6, x7, x8, x9, x10, K, L, M, rfl, i0, b1, i2, b3, i4, i5, i6, i8, hW, ⟨Bo, hC⟩, hPX, hWH, hRG, hSC⟩ := hXS
  have hFc : ∀ q, va_A ([(xa, (b11_1 x0 (nI x1) x2 (nI x3) x4 x5 x6 x7 x8 x9 x10))] ++ va_pl L M) H.size q → A q := pg_free hD1 hS hA
  refine va_calli (va_runV (As := [.int k1, .int k2, .int k3]) (rest := []) ⟨hx, hb, hml, hown, hg⟩ (x_mend l D cy K L M H.size xa x0 x1 x2 x3 x4 x5 x6 x7 x8 x9 x10 k1 k2 k3 Bo T PK PT SX SY hW i0 b1 i2 b3 i4 i5 i6 i8 hC hSV hHI hT) (cwV 3 hg (gV wd_1015 wd_1016 wd_1017 wd_3 wd_1018) rfl rfl rfl (by decide +kernel) ⟨(Nat.le_of_ble_eq_true rfl), (Nat.le_of_ble_eq_true rfl)⟩) ⟨PG.blind, va_recv hK hP1 (ci := 11) (q0 := 0) rfl rfl, fun U hU hW9 => ⟨rfl, PG.at hP1 hK hD1 hN hU hW9⟩⟩ rfl rfl hl.1 rfl (lv_room (Nat.le_of_ble_eq_true rfl)) dL_law_1113 hcs) hS (fun q _ h => hFc q h) hFc (fun r u t H1 locs1 ht hvm hw hB hz1 hk1 hS1 => ?_)
  obtain ⟨hW9, hF9, gT1, hVP, hpost⟩ := hw
  obtain ⟨w9, hP9, hD9⟩ := hB
  rw [ht] at hP9
  obtain ⟨hQ9, hap9⟩ := hap.step hP2 hk1 hD9
  exact kk r _ H1 locs1 hpost ⟨x0, x2, x4, x5, x6, x7, x8, w9, (-1), K, L, u, rfl, i0, b1, i2, b3, i4, i5, i6, i8, hW9, ⟨⟨Bo, hVP⟩, (PX.mv hPX hW i0 i2 b3 hF9 (by decide) (by decide) (by decide)), rfl, (hRG.mv (RGS.of hW i5 hF9 (by decide) (by decide))), (SCX.mv hSC hW i0 b1 (by rw [hF9.at i0 (by decide)]) (fr19 hF9 (by decide)) (fun c ic => hF9.at ic (by decide)) (fun j => by unfold sxMe; repeat' (first | rfl | exact va17 (by rfl) j | exact va17 (lKdn _ _ _ _ _ (by decide)) j | exact va17 ((va_up_ne _ _ (by decide)).trans (lKdn _ _ _ _ _ (by decide))) j | refine ite17 ?_ ?_)))⟩⟩ hP9 hQ9 (hD9.mono hFc) hap9 hS1
set_option maxHeartbeats 4000000 in
set_option maxRecDepth 100000 in
theorem cx_hidden {p : Program} {l : Launch} {e : Env} {s : State} {m : MethodId} {below : List Frame} {meth : Method} {c : Code} {b Ln : Nat} {xs : Nat → Int32} (C0 : lw_At p s m meth c b Ln xs) {D : va_G} {cy : Nat → ClassId} {A : Nat → Prop} (hA : ∀ q, s.heap.size ≤ q → A q) (hN : NW s) (hK : va_K D vwCl (tysC cy) s) (hST : STAT A s) {xa x1 x3 : Nat} {T : Int} {PK PT : Nat → Int32} {SX : Nat → Nat → Int} {SY : Nat → Nat → Nat → Int32} {WH : Int32} {CA : Nat → Int32} {Wa Wb : va_W} {H : Heap} {locs : List Loc} {cells slots : Nat} {ls : Array Slot} {lv : List (Nat × Value)} (k1 : Int32) (k2 : Int32) (k3 : Int32)  (hcs : cells + 0 ≤ 600000 ∧ slots + 0 ≤ 7302250) (hT : 0 ≤ T ∧ T ≤ 900000) (hSH : (∀ k, k < x1 → SV (SX k) (SY k)) ∧ (∀ k, k < x1 → HI (SX k) (SY k)) ∧ TNN x1 SX SY) (hXS : XSg cy xa x1 x3 (PS x1 x3 T PK PT SX SY WH CA) Wa) (hP1 : va_P D vwCl Wa H) (hP2 : va_P D vwCl Wb H) (hD1 : va_D A Wa) (hap : APT Wa Wb) (hS : va_S A s.heap H locs) (hl : lv_has ls 4 lv) (kk : ∀ (r : Int32) (Wc : va_W) (H1 : Heap) (locs1 : List Loc), r = anHi x1 SX SY k1 k2 k3 → XSg cy xa x1 x3 (fun x0 x2 x5 x6 x8 x7 x9 x10 K L M => (∃ Bo, CX Bo K L x0 x1 (T + 1) x3 PK PT SX SY M) ∧ PX x0 x1 x2 x3 PK PT M ∧ x10 = (-1) ∧ RGC M x5 CA ∧ (SCX x0 x1 SX M)) Wc → va_P D vwCl Wc H1 → va_P D vwCl Wb H1 → va_D A Wc → APT Wc Wb → va_S A s.heap H1 locs1 → W p l e room_1 s m #[Value.ref b] below meth c H1 locs1 (cells + 0) (slots + 0) (lw_Z below #[Value.ref b] s) (F0 m 1159 ls [.int r])) : W p l e room_1 s m #[Value.ref b] below meth c H locs cells slots (lw_Z below #[Value.ref b] s) (F0 m 1156 ls [.int k3, .int k2, .int k1, .ref xa]) := by
  obtain ⟨hx, hb, hr, hml, hown, hts, hX, hbl, hlocks, hgv⟩ := id C0
  have hg : ∀ w ∈ lw_good, w.before #[Value.ref b] s = true := fun w h => hts w (List.mem_filter.mp h).1
  have hown : s.vm.findClass RL = some m.cls := hown
  obtain ⟨hSV, hHI, hTN⟩ := hSH
  obtain ⟨x0, x2, x4, x5, x6, x7, x8, x9, x10, K, L, M, rfl, i0, b1, i2, b3, i4, i5, i6, i8, hW, ⟨Bo, hC⟩, hPX, hWH, hRG, hSC⟩ := hXS
  have hFc : ∀ q, va_A ([(xa, (b11_1 x0 (nI x1) x2 (nI x3) x4 x5 x6 x7 x8 x9 x10))] ++ va_pl L M) H.size q → A q := pg_free hD1 hS hA
  refine va_calli (va_runV (As := [.int k1, .int k2, .int k3]) (rest := []) ⟨hx, hb, hml, hown, hg⟩ (x_hidden l D cy K L M H.size xa x0 x1 x2 x3 x4 x5 x6 x7 x8 x9 x10 k1 k2 k3 Bo T PK PT SX SY hW i0 b1 i2 b3 i4 i5 i6 i8 hC hSV hHI hT hTN) (cwV 3 hg (gV wd_1019 wd_1020 wd_1021 wd_3 wd_1022) rfl rfl rfl (by decide +kernel) ⟨(Nat.le_of_ble_eq_true rfl), (Nat.le_of_ble_eq_true rfl)⟩) ⟨PG.blind, va_recv hK hP1 (ci := 11) (q0 := 0) rfl rfl, fun U hU hW9 => ⟨rfl, PG.at hP1 hK hD1 hN hU hW9⟩⟩ rfl rfl hl.1 rfl (lv_room (Nat.le_of_ble_eq_true rfl)) dL_law_1156 hcs) hS (fun q _ h => hFc q h) hFc (fun r u t H1 locs1 ht hvm hw hB hz1 hk1 hS1 => ?_)
  obtain ⟨hW9, hF9, gT9, hVP, hpost⟩ := hw
  obtain ⟨w9, hP9, hD9⟩ := hB
  rw [ht] at hP9
  obtain ⟨hQ9, hap9⟩ := hap.step hP2 hk1 hD9
  exact kk r _ H1 locs1 hpost ⟨x0, x2, x4, x5, x6, x7, x8, w9, (-1), K, L, u, rfl, i0, b1, i2, b3, i4, i5, i6, i8, hW9, ⟨⟨Bo, hVP⟩, (PX.mv hPX hW i0 i2 b3 hF9 (by decide) (by decide) (by decide)), rfl, (hRG.mv (RGS.of hW i5 hF9 (by decide) (by decide))), (SCX.mv hSC hW i0 b1 (by rw [hF9.at i0 (by decide)]) (fr19 hF9 (by decide)) (fun c ic => hF9.at ic (by decide)) (fun _ => rfl))⟩⟩ hP9 hQ9 (hD9.mono hFc) hap9 hS1
set_option maxHeartbeats 4000000 in
set_option maxRecDepth 100000 in
theorem cx_bear {p : Program} {l : Launch} {e : Env} {s : State} {m : MethodId} {below : List Frame} {meth : Method} {c : Code} {b Ln : Nat} {xs : Nat → Int32} (C0 : lw_At p s m meth c b Ln xs) {D : va_G} {cy : Nat → ClassId} {A : Nat → Prop} (hA : ∀ q, s.heap.size ≤ q → A q) (hN : NW s) (hK : va_K D vwCl (tysC cy) s) (hST : STAT A s) {xa x1 x3 : Nat} {T : Int} {PK PT : Nat → Int32} {SX : Nat → Nat → Int} {SY : Nat → Nat → Nat → Int32} {WH : Int32} {CA : Nat → Int32} {Wa Wb : va_W} {H : Heap} {locs : List Loc} {cells slots : Nat} {ls : Array Slot} {lv : List (Nat × Value)} (k1 : Int32) (k2 : Int32) (k3 : Int32)  (hcs : cells + 0 ≤ 600000 ∧ slots + 0 ≤ 7302250) (hT : 0 ≤ T ∧ T ≤ 900000) (hSH : (∀ k, k < x1 → SV (SX k) (SY k)) ∧ (∀ k, k < x1 → HI (SX k) (SY k)) ∧ TNN x1 SX SY) (hXS : XSg cy xa x1 x3 (PS x1 x3 T PK PT SX SY WH CA) Wa) (hP1 : va_P D vwCl Wa H) (hP2 : va_P D vwCl Wb H) (hD1 : va_D A Wa) (hap : APT Wa Wb) (hS : va_S A s.heap H locs) (hl : lv_has ls 4 lv) (kk : ∀ (r : Int32) (Wc : va_W) (H1 : Heap) (locs1 : List Loc), XSg cy xa x1 x3 (fun x0 x2 x5 x6 x8 x7 x9 x10 K L M => (∃ Bo, CX Bo K L x0 x1 (T + 1) x3 PK PT SX SY M) ∧ PX x0 x1 x2 x3 PK PT M ∧ x10 = (-1) ∧ RGC M x5 CA ∧ (SCX x0 x1 SX M)) Wc → va_P D vwCl Wc H1 → va_P D vwCl Wb H1 → va_D A Wc → APT Wc Wb → va_S A s.heap H1 locs1 → W p l e room_1 s m #[Value.ref b] below meth c H1 locs1 (cells + 0) (slots + 0) (lw_Z below #[Value.ref b] s) (F0 m 1202 ls [.int r])) : W p l e room_1 s m #[Value.ref b] below meth c H locs cells slots (lw_Z below #[Value.ref b] s) (F0 m 1199 ls [.int k3, .int k2, .int k1, .ref xa]) := by
  obtain ⟨hx, hb, hr, hml, hown, hts, hX, hbl, hlocks, hgv⟩ := id C0
  have hg : ∀ w ∈ lw_good, w.before #[Value.ref b] s = true := fun w h => hts w (List.mem_filter.mp h).1
  have hown : s.vm.findClass RL = some m.cls := hown
  obtain ⟨hSV, hHI, hTN⟩ := hSH
  obtain ⟨x0, x2, x4, x5, x6, x7, x8, x9, x10, K, L, M, rfl, i0, b1, i2, b3, i4, i5, i6, i8, hW, ⟨Bo, hC⟩, hPX, hWH, hRG, hSC⟩ := hXS
  have hFc : ∀ q, va_A ([(xa, (b11_1 x0 (nI x1) x2 (nI x3) x4 x5 x6 x7 x8 x9 x10))] ++ va_pl L M) H.size q → A q := pg_free hD1 hS hA
  refine va_calli (va_runV (As := [.int k1, .int k2, .int k3]) (rest := []) ⟨hx, hb, hml, hown, hg⟩ (s_X11_bear l D cy K L M H.size xa x0 x1 x2 x3 x4 x5 x6 x7 x8 x9 x10 k1 k2 k3 hW i0 b1 i2 b3 i4 i5 i6 i8) (cwV 3 hg (gV wd_1023 wd_1024 wd_1025 wd_3 wd_1026) rfl rfl rfl (by decide +kernel) ⟨(Nat.le_of_ble_eq_true rfl), (Nat.le_of_ble_eq_true rfl)⟩) ⟨PG.blind, va_recv hK hP1 (ci := 11) (q0 := 0) rfl rfl, fun U hU hW9 => ⟨rfl, PG.at hP1 hK hD1 hN hU hW9⟩⟩ rfl rfl hl.1 rfl (lv_room (Nat.le_of_ble_eq_true rfl)) dL_law_1199 hcs) hS (fun q _ h => hFc q h) hFc (fun r u t H1 locs1 ht hvm hw hB hz1 hk1 hS1 => ?_)
  obtain ⟨hW9, hF9, hpost⟩ := hw
  obtain ⟨w7, w9, hP9, hD9⟩ := hB
  rw [ht] at hP9
  obtain ⟨hQ9, hap9⟩ := hap.step hP2 hk1 hD9
  exact kk r _ H1 locs1 ⟨x0, x2, x4, x5, x6, w7, x8, w9, (-1), K, L, u, rfl, i0, b1, i2, b3, i4, i5, i6, i8, hW9, ⟨⟨Bo, CX.same hC hW i0 b1 (SAME.fr (fr.cv hF9 (by decide)) (fr.cv hF9 (by decide)) (fr.cv hF9 (by decide)) (fr.cv hF9 (by decide)) (fr.cv hF9 (by decide)) (fr.cv hF9 (by decide)) (fr.cv hF9 (by decide)) hF9 (by decide)) (by rw [hF9.at i0 (by decide)])⟩, (PX.mv hPX hW i0 i2 b3 hF9 (by decide) (by decide) (by decide)), rfl, (hRG.mv (RGS.of hW i5 hF9 (by decide) (by decide))), (SCX.mv hSC hW i0 b1 (by rw [hF9.at i0 (by decide)]) (fr19 hF9 (by decide)) (fun c ic => hF9.at ic (by decide)) (fun _ => rfl))⟩⟩ hP9 hQ9 (hD9.mono hFc) hap9 hS1
set_option maxHeartbeats 4000000 in
set_option maxRecDepth 100000 in
theorem cx_borne {p : Program} {l : Launch} {e : Env} {s : State} {m : MethodId} {below : List Frame} {meth : Method} {c : Code} {b Ln : Nat} {xs : Nat → Int32} (C0 : lw_At p s m meth c b Ln xs) {D : va_G} {cy : Nat → ClassId} {A : Nat → Prop} (hA : ∀ q, s.heap.size ≤ q → A q) (hN : NW s) (hK : va_K D vwCl (tysC cy) s) (hST : STAT A s) {xa x1 x3 : Nat} {T : Int} {PK PT : Nat → Int32} {SX : Nat → Nat → Int} {SY : Nat → Nat → Nat → Int32} {WH : Int32} {CA : Nat → Int32} {Wa Wb : va_W} {H : Heap} {locs : List Loc} {cells slots : Nat} {ls : Array Slot} {lv : List (Nat × Value)} (k1 : Int32)  (hcs : cells + 0 ≤ 600000 ∧ slots + 0 ≤ 7302250) (hT : 0 ≤ T ∧ T ≤ 900000) (hSH : (∀ k, k < x1 → SV (SX k) (SY k)) ∧ (∀ k, k < x1 → HI (SX k) (SY k)) ∧ TNN x1 SX SY) (hXS : XSg cy xa x1 x3 (PS x1 x3 T PK PT SX SY WH CA) Wa) (hP1 : va_P D vwCl Wa H) (hP2 : va_P D vwCl Wb H) (hD1 : va_D A Wa) (hap : APT Wa Wb) (hS : va_S A s.heap H locs) (hl : lv_has ls 4 lv) (kk : ∀ (r : Int32) (Wc : va_W) (H1 : Heap) (locs1 : List Loc), XSg cy xa x1 x3 (fun x0 x2 x5 x6 x8 x7 x9 x10 K L M => (∃ Bo, CX Bo K L x0 x1 (T + 1) x3 PK PT SX SY M) ∧ PX x0 x1 x2 x3 PK PT M ∧ x10 = WH ∧ RGC M x5 CA ∧ (SCX x0 x1 SX M)) Wc → va_P D vwCl Wc H1 → va_P D vwCl Wb H1 → va_D A Wc → APT Wc Wb → va_S A s.heap H1 locs1 → W p l e room_1 s m #[Value.ref b] below meth c H1 locs1 (cells + 0) (slots + 0) (lw_Z below #[Value.ref b] s) (F0 m 1235 ls [.int r])) : W p l e room_1 s m #[Value.ref b] below meth c H locs cells slots (lw_Z below #[Value.ref b] s) (F0 m 1232 ls [.int k1, .ref xa]) := by
  obtain ⟨hx, hb, hr, hml, hown, hts, hX, hbl, hlocks, hgv⟩ := id C0
  have hg : ∀ w ∈ lw_good, w.before #[Value.ref b] s = true := fun w h => hts w (List.mem_filter.mp h).1
  have hown : s.vm.findClass RL = some m.cls := hown
  obtain ⟨hSV, hHI, hTN⟩ := hSH
  obtain ⟨x0, x2, x4, x5, x6, x7, x8, x9, x10, K, L, M, rfl, i0, b1, i2, b3, i4, i5, i6, i8, hW, ⟨Bo, hC⟩, hPX, hWH, hRG, hSC⟩ := hXS
  have hFc : ∀ q, va_A ([(xa, (b11_1 x0 (nI x1) x2 (nI x3) x4 x5 x6 x7 x8 x9 x10))] ++ va_pl L M) H.size q → A q := pg_free hD1 hS hA
  refine va_calli (va_runV (As := [.int k1]) (rest := []) ⟨hx, hb, hml, hown, hg⟩ (s_X11_borne l D cy K L M H.size xa x0 x1 x2 x3 x4 x5 x6 x7 x8 x9 x10 k1 hW i0 b1 i2 b3 i4 i5 i6 i8) (cwV 1 hg (gV wd_1027 wd_1028 wd_1029 wd_3 wd_1030) rfl rfl rfl (by decide +kernel) ⟨(Nat.le_of_ble_eq_true rfl), (Nat.le_of_ble_eq_true rfl)⟩) ⟨PG.blind, va_recv hK hP1 (ci := 11) (q0 := 0) rfl rfl, fun U hU hW9 => ⟨rfl, PG.at hP1 hK hD1 hN hU hW9⟩⟩ rfl rfl hl.1 rfl (lv_room (Nat.le_of_ble_eq_true rfl)) dL_law_1232 hcs) hS (fun q _ h => hFc q h) hFc (fun r u t H1 locs1 ht hvm hw hB hz1 hk1 hS1 => ?_)
  have hpost := hw
  have hW9 := hW
  obtain ⟨hP9, hD9⟩ := hB
  rw [ht] at hP9
  obtain ⟨hQ9, hap9⟩ := hap.step hP2 hk1 hD9
  exact kk r _ H1 locs1 ⟨x0, x2, x4, x5, x6, x7, x8, x9, x10, K, L, M, rfl, i0, b1, i2, b3, i4, i5, i6, i8, hW9, ⟨⟨Bo, hC.mono⟩, hPX, hWH, hRG, hSC⟩⟩ hP9 hQ9 (hD9.mono hFc) hap9 hS1
set_option maxHeartbeats 4000000 in
set_option maxRecDepth 100000 in
theorem cx_account {p : Program} {l : Launch} {e : Env} {s : State} {m : MethodId} {below : List Frame} {meth : Method} {c : Code} {b Ln : Nat} {xs : Nat → Int32} (C0 : lw_At p s m meth c b Ln xs) {D : va_G} {cy : Nat → ClassId} {A : Nat → Prop} (hA : ∀ q, s.heap.size ≤ q → A q) (hN : NW s) (hK : va_K D vwCl (tysC cy) s) (hST : STAT A s) {xa x1 x3 : Nat} {T : Int} {PK PT : Nat → Int32} {SX : Nat → Nat → Int} {SY : Nat → Nat → Nat → Int32} {WH : Int32} {CA : Nat → Int32} {Wa Wb : va_W} {H : Heap} {locs : List Loc} {cells slots : Nat} {ls : Array Slot} {lv : List (Nat × Value)} (k1 : Int32) (k2 : Int32) (k3 : Int32)  (hcs : cells + 0 ≤ 600000 ∧ slots + 0 ≤ 7302250) (hT : 0 ≤ T ∧ T ≤ 900000) (hSH : (∀ k, k < x1 → SV (SX k) (SY k)) ∧ (∀ k, k < x1 → HI (SX k) (SY k)) ∧ TNN x1 SX SY) (hXS : XSg cy xa x1 x3 (PS x1 x3 T PK PT SX SY WH CA) Wa) (hP1 : va_P D vwCl Wa H) (hP2 : va_P D vwCl Wb H) (hD1 : va_D A Wa) (hap : APT Wa Wb) (hS : va_S A s.heap H locs) (hl : lv_has ls 4 lv) (kk : ∀ (r : Int64) (Wc : va_W) (H1 : Heap) (locs1 : List Loc), XSg cy xa x1 x3 (fun x0 x2 x5 x6 x8 x7 x9 x10 K L M => (∃ Bo, CX Bo K L x0 x1 (T + 1) x3 PK PT SX SY M) ∧ PX x0 x1 x2 x3 PK PT M ∧ x10 = WH ∧ RGC M x5 CA ∧ (SCX x0 x1 SX M)) Wc → va_P D vwCl Wc H1 → va_P D vwCl Wb H1 → va_D A Wc → APT Wc Wb → va_S A s.heap H1 locs1 → W p l e room_1 s m #[Value.ref b] below meth c H1 locs1 (cells + 0) (slots + 0) (lw_Z below #[Value.ref b] s) (F0 m 1268 ls [.long r])) : W p l e room_1 s m #[Value.ref b] below meth c H locs cells slots (lw_Z below #[Value.ref b] s) (F0 m 1265 ls [.int k3, .int k2, .int k1, .ref xa]) := by
  obtain ⟨hx, hb, hr, hml, hown, hts, hX, hbl, hlocks, hgv⟩ := id C0
  have hg : ∀ w ∈ lw_good, w.before #[Value.ref b] s = true := fun w h => hts w (List.mem_filter.mp h).1
  have hown : s.vm.findClass RL = some m.cls := hown
  obtain ⟨hSV, hHI, hTN⟩ := hSH
  obtain ⟨x0, x2, x4, x5, x6, x7, x8, x9, x10, K, L, M, rfl, i0, b1, i2, b3, i4, i5, i6, i8, hW, ⟨Bo, hC⟩, hPX, hWH, hRG, hSC⟩ := hXS
  have hFc : ∀ q, va_A ([(xa, (b11_1 x0 (nI x1) x2 (nI x3) x4 x5 x6 x7 x8 x9 x10))] ++ va_pl L M) H.size q → A q := pg_free hD1 hS hA
  refine va_calll (va_runV (As := [.int k1, .int k2, .int k3]) (rest := []) ⟨hx, hb, hml, hown, hg⟩ (s_X11_account l D cy K L M H.size xa x0 x1 x2 x3 x4 x5 x6 x7 x8 x9 x10 k1 k2 k3 hW i0 b1 i2 b3 i4 i5 i6 i8) (cwV 3 hg (gV wd_1031 wd_1032 wd_1033 wd_3 wd_1034) rfl rfl rfl (by decide +kernel) ⟨(Nat.le_of_ble_eq_true rfl), (Nat.le_of_ble_eq_true rfl)⟩) ⟨PG.blind, va_recv hK hP1 (ci := 11) (q0 := 0) rfl rfl, fun U hU hW9 => ⟨rfl, PG.at hP1 hK hD1 hN hU hW9⟩⟩ rfl rfl hl.1 rfl (lv_room (Nat.le_of_ble_eq_true rfl)) dL_law_1265 hcs) hS (fun q _ h => hFc q h) hFc (fun r u t H1 locs1 ht hvm hw hB hz1 hk1 hS1 => ?_)
  have hpost := hw
  have hW9 := hW
  obtain ⟨hP9, hD9⟩ := hB
  rw [ht] at hP9
  obtain ⟨hQ9, hap9⟩ := hap.step hP2 hk1 hD9
  exact kk r _ H1 locs1 ⟨x0, x2, x4, x5, x6, x7, x8, x9, x10, K, L, M, rfl, i0, b1, i2, b3, i4, i5, i6, i8, hW9, ⟨⟨Bo, hC.mono⟩, hPX, hWH, hRG, hSC⟩⟩ hP9 hQ9 (hD9.mono hFc) hap9 hS1
set_option maxHeartbeats 4000000 in
set_option maxRecDepth 100000 in
theorem cx_tenure {p : Program} {l : Launch} {e : Env} {s : State} {m : MethodId} {below : List Frame} {meth : Method} {c : Code} {b Ln : Nat} {xs : Nat → Int32} (C0 : lw_At p s m meth c b Ln xs) {D : va_G} {cy : Nat → ClassId} {A : Nat → Prop} (hA : ∀ q, s.heap.size ≤ q → A q) (hN : NW s) (hK : va_K D vwCl (tysC cy) s) (hST : STAT A s) {xa x1 x3 : Nat} {T : Int} {PK PT : Nat → Int32} {SX : Nat → Nat → Int} {SY : Nat → Nat → Nat → Int32} {WH : Int32} {CA : Nat → Int32} {Wa Wb : va_W} {H : Heap} {locs : List Loc} {cells slots : Nat} {ls : Array Slot} {lv : List (Nat × Value)} (k1 : Int32) (k2 : Int32) (k3 : Int32)  (hcs : cells + 0 ≤ 600000 ∧ slots + 0 ≤ 7302250) (hT : 0 ≤ T ∧ T ≤ 900000) (hSH : (∀ k, k < x1 → SV (SX k) (SY k)) ∧ (∀ k, k < x1 → HI (SX k) (SY k)) ∧ TNN x1 SX SY) (hXS : XSg cy xa x1 x3 (PS x1 x3 T PK PT SX SY WH CA) Wa) (hP1 : va_P D vwCl Wa H) (hP2 : va_P D vwCl Wb H) (hD1 : va_D A Wa) (hap : APT Wa Wb) (hS : va_S A s.heap H locs) (hl : lv_has ls 4 lv) (kk : ∀ (r : Int32) (Wc : va_W) (H1 : Heap) (locs1 : List Loc), r = anTn x1 PK SX SY k1 k2 k3 → XSg cy xa x1 x3 (fun x0 x2 x5 x6 x8 x7 x9 x10 K L M => (∃ Bo, CX Bo K L x0 x1 (T + 1) x3 PK PT SX SY M) ∧ PX x0 x1 x2 x3 PK PT M ∧ x10 = WH ∧ RGC M x5 CA ∧ (SCX x0 x1 SX M)) Wc → va_P D vwCl Wc H1 → va_P D vwCl Wb H1 → va_D A Wc → APT Wc Wb → va_S A s.heap H1 locs1 → W p l e room_1 s m #[Value.ref b] below meth c H1 locs1 (cells + 0) (slots + 0) (lw_Z below #[Value.ref b] s) (F0 m 1311 ls [.int r])) : W p l e room_1 s m #[Value.ref b] below meth c H locs cells slots (lw_Z below #[Value.ref b] s) (F0 m 1308 ls [.int k3, .int k2, .int k1, .ref xa]) := by
  obtain ⟨hx, hb, hr, hml, hown, hts, hX, hbl, hlocks, hgv⟩ := id C0
  have hg : ∀ w ∈ lw_good, w.before #[Value.ref b] s = true := fun w h => hts w (List.mem_filter.mp h).1
  have hown : s.vm.findClass RL = some m.cls := hown
  obtain ⟨hSV, hHI, hTN⟩ := hSH
  obtain ⟨x0, x2, x4, x5, x6, x7, x8, x9, x10, K, L, M, rfl, i0, b1, i2, b3, i4, i5, i6, i8, hW, ⟨Bo, hC⟩, hPX, hWH, hRG, hSC⟩ := hXS
  have hFc : ∀ q, va_A ([(xa, (b11_1 x0 (nI x1) x2 (nI x3) x4 x5 x6 x7 x8 x9 x10))] ++ va_pl L M) H.size q → A q := pg_free hD1 hS hA
  refine va_calli (va_runV (As := [.int k1, .int k2, .int k3]) (rest := []) ⟨hx, hb, hml, hown, hg⟩ (x_tenure l D cy K L M H.size xa x0 x1 x2 x3 x4 x5 x6 x7 x8 x9 x10 k1 k2 k3 Bo T PK PT SX SY hW i0 b1 i2 b3 i4 i5 i6 i8 hC hSV hHI hT) (cwV 3 hg (gV wd_1035 wd_1036 wd_1037 wd_3 wd_1038) rfl rfl rfl (by decide +kernel) ⟨(Nat.le_of_ble_eq_true rfl), (Nat.le_of_ble_eq_true rfl)⟩) ⟨PG.blind, va_recv hK hP1 (ci := 11) (q0 := 0) rfl rfl, fun U hU hW9 => ⟨rfl, PG.at hP1 hK hD1 hN hU hW9⟩⟩ rfl rfl hl.1 rfl (lv_room (Nat.le_of_ble_eq_true rfl)) dL_law_1308 hcs) hS (fun q _ h => hFc q h) hFc (fun r u t H1 locs1 ht hvm hw hB hz1 hk1 hS1 => ?_)
  have hpost := hw
  have hW9 := hW
  obtain ⟨hP9, hD9⟩ := hB
  rw [ht] at hP9
  obtain ⟨hQ9, hap9⟩ := hap.step hP2 hk1 hD9
  exact kk r _ H1 locs1 hpost ⟨x0, x2, x4, x5, x6, x7, x8, x9, x10, K, L, M, rfl, i0, b1, i2, b3, i4, i5, i6, i8, hW9, ⟨⟨Bo, hC.mono⟩, hPX, hWH, hRG, hSC⟩⟩ hP9 hQ9 (hD9.mono hFc) hap9 hS1
set_option maxHeartbeats 4000000 in
set_option maxRecDepth 100000 in
theorem cx_who {p : Program} {l : Launch} {e : Env} {s : State} {m : MethodId} {below : List Frame} {meth : Method} {c : Code} {b Ln : Nat} {xs : Nat → Int32} (C0 : lw_At p s m meth c b Ln xs) {D : va_G} {cy : Nat → ClassId} {A : Nat → Prop} (hA : ∀ q, s.heap.size ≤ q → A q) (hN : NW s) (hK : va_K D vwCl (tysC cy) s) (hST : STAT A s) {xa x1 x3 : Nat} {T : Int} {PK PT : Nat → Int32} {SX : Nat → Nat → Int} {SY : Nat → Nat → Nat → Int32} {WH : Int32} {CA : Nat → Int32} {Wa Wb : va_W} {H : Heap} {locs : List Loc} {cells slots : Nat} {ls : Array Slot} {lv : List (Nat × Value)} (k1 : Int32) (k2 : Int32) (k3 : Int32)  (hcs : cells + 0 ≤ 600000 ∧ slots + 0 ≤ 7302250) (hT : 0 ≤ T ∧ T ≤ 900000) (hSH : (∀ k, k < x1 → SV (SX k) (SY k)) ∧ (∀ k, k < x1 → HI (SX k) (SY k)) ∧ TNN x1 SX SY) (hXS : XSg cy xa x1 x3 (PS x1 x3 T PK PT SX SY WH CA) Wa) (hP1 : va_P D vwCl Wa H) (hP2 : va_P D vwCl Wb H) (hD1 : va_D A Wa) (hap : APT Wa Wb) (hS : va_S A s.heap H locs) (hl : lv_has ls 4 lv) (kk : ∀ (r : Int32) (Wc : va_W) (H1 : Heap) (locs1 : List Loc), XSg cy xa x1 x3 (fun x0 x2 x5 x6 x8 x7 x9 x10 K L M => (∃ Bo, CX Bo K L x0 x1 (T + 1) x3 PK PT SX SY M) ∧ PX x0 x1 x2 x3 PK PT M ∧ x10 = WH ∧ RGC M x5 CA ∧ (SCX x0 x1 SX M)) Wc → va_P D vwCl Wc H1 → va_P D vwCl Wb H1 → va_D A Wc → APT Wc Wb → va_S A s.heap H1 locs1 → W p l e room_1 s m #[Value.ref b] below meth c H1 locs1 (cells + 0) (slots + 0) (lw_Z below #[Value.ref b] s) (F0 m 1354 ls [.int r])) : W p l e room_1 s m #[Value.ref b] below meth c H locs cells slots (lw_Z below #[Value.ref b] s) (F0 m 1351 ls [.int k3, .int k2, .int k1, .ref xa]) := by
  obtain ⟨hx, hb, hr, hml, hown, hts, hX, hbl, hlocks, hgv⟩ := id C0
  have hg : ∀ w ∈ lw_good, w.before #[Value.ref b] s = true := fun w h => hts w (List.mem_filter.mp h).1
  have hown : s.vm.findClass RL = some m.cls := hown
  obtain ⟨hSV, hHI, hTN⟩ := hSH
  obtain ⟨x0, x2, x4, x5, x6, x7, x8, x9, x10, K, L, M, rfl, i0, b1, i2, b3, i4, i5, i6, i8, hW, ⟨Bo, hC⟩, hPX, hWH, hRG, hSC⟩ := hXS
  have hFc : ∀ q, va_A ([(xa, (b11_1 x0 (nI x1) x2 (nI x3) x4 x5 x6 x7 x8 x9 x10))] ++ va_pl L M) H.size q → A q := pg_free hD1 hS hA
  refine va_calli (va_runV (As := [.int k1, .int k2, .int k3]) (rest := []) ⟨hx, hb, hml, hown, hg⟩ (s_X11_who l D cy K L M H.size xa x0 x1 x2 x3 x4 x5 x6 x7 x8 x9 x10 k1 k2 k3 hW i0 b1 i2 b3 i4 i5 i6 i8) (cwV 3 hg (gV wd_1039 wd_1040 wd_1041 wd_3 wd_1042) rfl rfl rfl (by decide +kernel) ⟨(Nat.le_of_ble_eq_true rfl), (Nat.le_of_ble_eq_true rfl)⟩) ⟨PG.blind, va_recv hK hP1 (ci := 11) (q0 := 0) rfl rfl, fun U hU hW9 => ⟨rfl, PG.at hP1 hK hD1 hN hU hW9⟩⟩ rfl rfl hl.1 rfl (lv_room (Nat.le_of_ble_eq_true rfl)) dL_law_1351 hcs) hS (fun q _ h => hFc q h) hFc (fun r u t H1 locs1 ht hvm hw hB hz1 hk1 hS1 => ?_)
  have hpost := hw
  have hW9 := hW
  obtain ⟨hP9, hD9⟩ := hB
  rw [ht] at hP9
  obtain ⟨hQ9, hap9⟩ := hap.step hP2 hk1 hD9
  exact kk r _ H1 locs1 ⟨x0, x2, x4, x5, x6, x7, x8, x9, x10, K, L, M, rfl, i0, b1, i2, b3, i4, i5, i6, i8, hW9, ⟨⟨Bo, hC.mono⟩, hPX, hWH, hRG, hSC⟩⟩ hP9 hQ9 (hD9.mono hFc) hap9 hS1
set_option maxHeartbeats 4000000 in
set_option maxRecDepth 100000 in
theorem cx_stretch {p : Program} {l : Launch} {e : Env} {s : State} {m : MethodId} {below : List Frame} {meth : Method} {c : Code} {b Ln : Nat} {xs : Nat → Int32} (C0 : lw_At p s m meth c b Ln xs) {D : va_G} {cy : Nat → ClassId} {A : Nat → Prop} (hA : ∀ q, s.heap.size ≤ q → A q) (hN : NW s) (hK : va_K D vwCl (tysC cy) s) (hST : STAT A s) {xa x1 x3 : Nat} {T : Int} {PK PT : Nat → Int32} {SX : Nat → Nat → Int} {SY : Nat → Nat → Nat → Int32} {WH : Int32} {CA : Nat → Int32} {Wa Wb : va_W} {H : Heap} {locs : List Loc} {cells slots : Nat} {ls : Array Slot} {lv : List (Nat × Value)} (k1 : Int32) (k2 : Int32) (k3 : Int32)  (hcs : cells + 0 ≤ 600000 ∧ slots + 0 ≤ 7302250) (hT : 0 ≤ T ∧ T ≤ 900000) (hSH : (∀ k, k < x1 → SV (SX k) (SY k)) ∧ (∀ k, k < x1 → HI (SX k) (SY k)) ∧ TNN x1 SX SY) (hXS : XSg cy xa x1 x3 (PS x1 x3 T PK PT SX SY WH CA) Wa) (hP1 : va_P D vwCl Wa H) (hP2 : va_P D vwCl Wb H) (hD1 : va_D A Wa) (hap : APT Wa Wb) (hS : va_S A s.heap H locs) (hl : lv_has ls 4 lv) (kk : ∀ (r : Int64) (Wc : va_W) (H1 : Heap) (locs1 : List Loc), XSg cy xa x1 x3 (fun x0 x2 x5 x6 x8 x7 x9 x10 K L M => (∃ Bo, CX Bo K L x0 x1 (T + 1) x3 PK PT SX SY M) ∧ PX x0 x1 x2 x3 PK PT M ∧ x10 = WH ∧ RGC M x5 CA ∧ (SCX x0 x1 SX M)) Wc → va_P D vwCl Wc H1 → va_P D vwCl Wb H1 → va_D A Wc → APT Wc Wb → va_S A s.heap H1 locs1 → W p l e room_1 s m #[Value.ref b] below meth c H1 locs1 (cells + 0) (slots + 0) (lw_Z below #[Value.ref b] s) (F0 m 1397 ls [.long r])) : W p l e room_1 s m #[Value.ref b] below meth c H locs cells slots (lw_Z below #[Value.ref b] s) (F0 m 1394 ls [.int k3, .int k2, .int k1, .ref xa]) := by
  obtain ⟨hx, hb, hr, hml, hown, hts, hX, hbl, hlocks, hgv⟩ := id C0
  have hg : ∀ w ∈ lw_good, w.before #[Value.ref b] s = true := fun w h => hts w (List.mem_filter.mp h).1
  have hown : s.vm.findClass RL = some m.cls := hown
  obtain ⟨hSV, hHI, hTN⟩ := hSH
  obtain ⟨x0, x2, x4, x5, x6, x7, x8, x9, x10, K, L, M, rfl, i0, b1, i2, b3, i4, i5, i6, i8, hW, ⟨Bo, hC⟩, hPX, hWH, hRG, hSC⟩ := hXS
  have hFc : ∀ q, va_A ([(xa, (b11_1 x0 (nI x1) x2 (nI x3) x4 x5 x6 x7 x8 x9 x10))] ++ va_pl L M) H.size q → A q := pg_free hD1 hS hA
  refine va_calll (va_runV (As := [.int k1, .int k2, .int k3]) (rest := []) ⟨hx, hb, hml, hown, hg⟩ (s_X11_stretch l D cy K L M H.size xa x0 x1 x2 x3 x4 x5 x6 x7 x8 x9 x10 k1 k2 k3 hW i0 b1 i2 b3 i4 i5 i6 i8) (cwV 3 hg (gV wd_1043 wd_1044 wd_1045 wd_3 wd_1046) rfl rfl rfl (by decide +kernel) ⟨(Nat.le_of_ble_eq_true rfl), (Nat.le_of_ble_eq_true rfl)⟩) ⟨PG.blind, va_recv hK hP1 (ci := 11) (q0 := 0) rfl rfl, fun U hU hW9 => ⟨rfl, PG.at hP1 hK hD1 hN hU hW9⟩⟩ rfl rfl hl.1 rfl (lv_room (Nat.le_of_ble_eq_true rfl)) dL_law_1394 hcs) hS (fun q _ h => hFc q h) hFc (fun r u t H1 locs1 ht hvm hw hB hz1 hk1 hS1 => ?_)
  have hpost := hw
  have hW9 := hW
  obtain ⟨hP9, hD9⟩ := hB
  rw [ht] at hP9
  obtain ⟨hQ9, hap9⟩ := hap.step hP2 hk1 hD9
  exact kk r _ H1 locs1 ⟨x0, x2, x4, x5, x6, x7, x8, x9, x10, K, L, M, rfl, i0, b1, i2, b3, i4, i5, i6, i8, hW9, ⟨⟨Bo, hC.mono⟩, hPX, hWH, hRG, hSC⟩⟩ hP9 hQ9 (hD9.mono hFc) hap9 hS1
set_option maxHeartbeats 4000000 in
set_option maxRecDepth 100000 in
theorem cx_due {p : Program} {l : Launch} {e : Env} {s : State} {m : MethodId} {below : List Frame} {meth : Method} {c : Code} {b Ln : Nat} {xs : Nat → Int32} (C0 : lw_At p s m meth c b Ln xs) {D : va_G} {cy : Nat → ClassId} {A : Nat → Prop} (hA : ∀ q, s.heap.size ≤ q → A q) (hN : NW s) (hK : va_K D vwCl (tysC cy) s) (hST : STAT A s) {xa x1 x3 : Nat} {T : Int} {PK PT : Nat → Int32} {SX : Nat → Nat → Int} {SY : Nat → Nat → Nat → Int32} {WH : Int32} {CA : Nat → Int32} {Wa Wb : va_W} {H : Heap} {locs : List Loc} {cells slots : Nat} {ls : Array Slot} {lv : List (Nat × Value)} (k1 : Int32) (k2 : Int32) (k3 : Int32)  (hcs : cells + 0 ≤ 600000 ∧ slots + 0 ≤ 7302250) (hT : 0 ≤ T ∧ T ≤ 900000) (hSH : (∀ k, k < x1 → SV (SX k) (SY k)) ∧ (∀ k, k < x1 → HI (SX k) (SY k)) ∧ TNN x1 SX SY) (hXS : XSg cy xa x1 x3 (PS x1 x3 T PK PT SX SY WH CA) Wa) (hP1 : va_P D vwCl Wa H) (hP2 : va_P D vwCl Wb H) (hD1 : va_D A Wa) (hap : APT Wa Wb) (hS : va_S A s.heap H locs) (hl : lv_has ls 4 lv) (kk : ∀ (r : Int64) (Wc : va_W) (H1 : Heap) (locs1 : List Loc), XSg cy xa x1 x3 (fun x0 x2 x5 x6 x8 x7 x9 x10 K L M => (∃ Bo, CX Bo K L x0 x1 (T + 1) x3 PK PT SX SY M) ∧ PX x0 x1 x2 x3 PK PT M ∧ x10 = WH ∧ RGC M x5 CA ∧ (SCX x0 x1 SX M)) Wc → va_P D vwCl Wc H1 → va_P D vwCl Wb H1 → va_D A Wc → APT Wc Wb → va_S A s.heap H1 locs1 → W p l e room_1 s m #[Value.ref b] below meth c H1 locs1 (cells + 0) (slots + 0) (lw_Z below #[Value.ref b] s) (F0 m 1440 ls [.long r])) : W p l e room_1 s m #[Value.ref b] below meth c H locs cells slots (lw_Z below #[Value.ref b] s) (F0 m 1437 ls [.int k3, .int k2, .int k1, .ref xa]) := by
  obtain ⟨hx, hb, hr, hml, hown, hts, hX, hbl, hlocks, hgv⟩ := id C0
  have hg : ∀ w ∈ lw_good, w.before #[Value.ref b] s = true := fun w h => hts w (List.mem_filter.mp h).1
  have hown : s.vm.findClass RL = some m.cls := hown
  obtain ⟨hSV, hHI, hTN⟩ := hSH
  obtain ⟨x0, x2, x4, x5, x6, x7, x8, x9, x10, K, L, M, rfl, i0, b1, i2, b3, i4, i5, i6, i8, hW, ⟨Bo, hC⟩, hPX, hWH, hRG, hSC⟩ := hXS
  have hFc : ∀ q, va_A ([(xa, (b11_1 x0 (nI x1) x2 (nI x3) x4 x5 x6 x7 x8 x9 x10))] ++ va_pl L M) H.size q → A q := pg_free hD1 hS hA
  refine va_calll (va_runV (As := [.int k1, .int k2, .int k3]) (rest := []) ⟨hx, hb, hml, hown, hg⟩ (s_X11_due l D cy K L M H.size xa x0 x1 x2 x3 x4 x5 x6 x7 x8 x9 x10 k1 k2 k3 hW i0 b1 i2 b3 i4 i5 i6 i8) (cwV 3 hg (gV wd_1047 wd_1048 wd_1049 wd_3 wd_1050) rfl rfl rfl (by decide +kernel) ⟨(Nat.le_of_ble_eq_true rfl), (Nat.le_of_ble_eq_true rfl)⟩) ⟨PG.blind, va_recv hK hP1 (ci := 11) (q0 := 0) rfl rfl, fun U hU hW9 => ⟨rfl, PG.at hP1 hK hD1 hN hU hW9⟩⟩ rfl rfl hl.1 rfl (lv_room (Nat.le_of_ble_eq_true rfl)) dL_law_1437 hcs) hS (fun q _ h => hFc q h) hFc (fun r u t H1 locs1 ht hvm hw hB hz1 hk1 hS1 => ?_)
  have hpost := hw
  have hW9 := hW
  obtain ⟨hP9, hD9⟩ := hB
  rw [ht] at hP9
  obtain ⟨hQ9, hap9⟩ := hap.step hP2 hk1 hD9
  exact kk r _ H1 locs1 ⟨x0, x2, x4, x5, x6, x7, x8, x9, x10, K, L, M, rfl, i0, b1, i2, b3, i4, i5, i6, i8, hW9, ⟨⟨Bo, hC.mono⟩, hPX, hWH, hRG, hSC⟩⟩ hP9 hQ9 (hD9.mono hFc) hap9 hS1
set_option maxHeartbeats 4000000 in
set_option maxRecDepth 100000 in
theorem cx_told {p : Program} {l : Launch} {e : Env} {s : State} {m : MethodId} {below : List Frame} {meth : Method} {c : Code} {b Ln : Nat} {xs : Nat → Int32} (C0 : lw_At p s m meth c b Ln xs) {D : va_G} {cy : Nat → ClassId} {A : Nat → Prop} (hA : ∀ q, s.heap.size ≤ q → A q) (hN : NW s) (hK : va_K D vwCl (tysC cy) s) (hST : STAT A s) {xa x1 x3 : Nat} {T : Int} {PK PT : Nat → Int32} {SX : Nat → Nat → Int} {SY : Nat → Nat → Nat → Int32} {WH : Int32} {CA : Nat → Int32} {Wa Wb : va_W} {H : Heap} {locs : List Loc} {cells slots : Nat} {ls : Array Slot} {lv : List (Nat × Value)} (k1 : Int32) (k2 : Int32)  (hcs : cells + 0 ≤ 600000 ∧ slots + 0 ≤ 7302250) (hT : 0 ≤ T ∧ T ≤ 900000) (hSH : (∀ k, k < x1 → SV (SX k) (SY k)) ∧ (∀ k, k < x1 → HI (SX k) (SY k)) ∧ TNN x1 SX SY) (hXS : XSg cy xa x1 x3 (PS x1 x3 T PK PT SX SY WH CA) Wa) (hP1 : va_P D vwCl Wa H) (hP2 : va_P D vwCl Wb H) (hD1 : va_D A Wa) (hap : APT Wa Wb) (hS : va_S A s.heap H locs) (hl : lv_has ls 4 lv) (kk : ∀ (r : Int32) (Wc : va_W) (H1 : Heap) (locs1 : List Loc), r = anTd x1 SX SY k1 k2 → XSg cy xa x1 x3 (fun x0 x2 x5 x6 x8 x7 x9 x10 K L M => (∃ Bo, CX Bo K L x0 x1 (T + 1) x3 PK PT SX SY M) ∧ PX x0 x1 x2 x3 PK PT M ∧ x10 = WH ∧ RGC M x5 CA ∧ (SCX x0 x1 SX M)) Wc → va_P D vwCl Wc H1 → va_P D vwCl Wb H1 → va_D A Wc → APT Wc Wb → va_S A s.heap H1 locs1 → W p l e room_1 s m #[Value.ref b] below meth c H1 locs1 (cells + 0) (slots + 0) (lw_Z below #[Value.ref b] s) (F0 m 1478 ls [.int r])) : W p l e room_1 s m #[Value.ref b] below meth c H locs cells slots (lw_Z below #[Value.ref b] s) (F0 m 1475 ls [.int k2, .int k1, .ref xa]) := by
  obtain ⟨hx, hb, hr, hml, hown, hts, hX, hbl, hlocks, hgv⟩ := id C0
  have hg : ∀ w ∈ lw_good, w.before #[Value.ref b] s = true := fun w h => hts w (List.mem_filter.mp h).1
  have hown : s.vm.findClass RL = some m.cls := hown
  obtain ⟨hSV, hHI, hTN⟩ := hSH
  obtain ⟨x0, x2, x4, x5, x6, x7, x8, x9, x10, K, L, M, rfl, i0, b1, i2, b3, i4, i5, i6, i8, hW, ⟨Bo, hC⟩, hPX, hWH, hRG, hSC⟩ := hXS
  have hFc : ∀ q, va_A ([(xa, (b11_1 x0 (nI x1) x2 (nI x3) x4 x5 x6 x7 x8 x9 x10))] ++ va_pl L M) H.size q → A q := pg_free hD1 hS hA
  refine va_calli (va_runV (As := [.int k1, .int k2]) (rest := []) ⟨hx, hb, hml, hown, hg⟩ (x_told l D cy K L M H.size xa x0 x1 x2 x3 x4 x5 x6 x7 x8 x9 x10 k1 k2 Bo T PK PT SX SY hW i0 b1 i2 b3 i4 i5 i6 i8 hC hSV hHI hT hSC) (cwV 2 hg (gV wd_1051 wd_1052 wd_1053 wd_3 wd_1054) rfl rfl rfl (by decide +kernel) ⟨(Nat.le_of_ble_eq_true rfl), (Nat.le_of_ble_eq_true rfl)⟩) ⟨PG.blind, va_recv hK hP1 (ci := 11) (q0 := 0) rfl rfl, fun U hU hW9 => ⟨rfl, PG.at hP1 hK hD1 hN hU hW9⟩⟩ rfl rfl hl.1 rfl (lv_room (Nat.le_of_ble_eq_true rfl)) dL_law_1475 hcs) hS (fun q _ h => hFc q h) hFc (fun r u t H1 locs1 ht hvm hw hB hz1 hk1 hS1 => ?_)
  have hpost := hw
  have hW9 := hW
  obtain ⟨hP9, hD9⟩ := hB
  rw [ht] at hP9
  obtain ⟨hQ9, hap9⟩ := hap.step hP2 hk1 hD9
  exact kk r _ H1 locs1 hpost ⟨x0, x2, x4, x5, x6, x7, x8, x9, x10, K, L, M, rfl, i0, b1, i2, b3, i4, i5, i6, i8, hW9, ⟨⟨Bo, hC.mono⟩, hPX, hWH, hRG, hSC⟩⟩ hP9 hQ9 (hD9.mono hFc) hap9 hS1
set_option maxHeartbeats 4000000 in
set_option maxRecDepth 100000 in
theorem cx_sum {p : Program} {l : Launch} {e : Env} {s : State} {m : MethodId} {below : List Frame} {meth : Method} {c : Code} {b Ln : Nat} {xs : Nat → Int32} (C0 : lw_At p s m meth c b Ln xs) {D : va_G} {cy : Nat → ClassId} {A : Nat → Prop} (hA : ∀ q, s.heap.size ≤ q → A q) (hN : NW s) (hK : va_K D vwCl (tysC cy) s) (hST : STAT A s) {xa x1 x3 : Nat} {T : Int} {PK PT : Nat → Int32} {SX : Nat → Nat → Int} {SY : Nat → Nat → Nat → Int32} {WH : Int32} {CA : Nat → Int32} {Wa Wb : va_W} {H : Heap} {locs : List Loc} {cells slots : Nat} {ls : Array Slot} {lv : List (Nat × Value)} (k1 : Int32) (k2 : Int32) (k3 : Int32)  (hcs : cells + 0 ≤ 600000 ∧ slots + 0 ≤ 7302250) (hT : 0 ≤ T ∧ T ≤ 900000) (hSH : (∀ k, k < x1 → SV (SX k) (SY k)) ∧ (∀ k, k < x1 → HI (SX k) (SY k)) ∧ TNN x1 SX SY) (hXS : XSg cy xa x1 x3 (PS x1 x3 T PK PT SX SY WH CA) Wa) (hP1 : va_P D vwCl Wa H) (hP2 : va_P D vwCl Wb H) (hD1 : va_D A Wa) (hap : APT Wa Wb) (hS : va_S A s.heap H locs) (hl : lv_has ls 4 lv) (kk : ∀ (r : Int64) (Wc : va_W) (H1 : Heap) (locs1 : List Loc), XSg cy xa x1 x3 (fun x0 x2 x5 x6 x8 x7 x9 x10 K L M => (∃ Bo, CX Bo K L x0 x1 (T + 1) x3 PK PT SX SY M) ∧ PX x0 x1 x2 x3 PK PT M ∧ x10 = WH ∧ RGC M x5 CA ∧ (SCX x0 x1 SX M)) Wc → va_P D vwCl Wc H1 → va_P D vwCl Wb H1 → va_D A Wc → APT Wc Wb → va_S A s.heap H1 locs1 → W p l e room_1 s m #[Value.ref b] below meth c H1 locs1 (cells + 0) (slots + 0) (lw_Z below #[Value.ref b] s) (F0 m 1516 ls [.long r])) : W p l e room_1 s m #[Value.ref b] below meth c H locs cells slots (lw_Z below #[Value.ref b] s) (F0 m 1513 ls [.int k3, .int k2, .int k1, .ref xa]) := by
  obtain ⟨hx, hb, hr, hml, hown, hts, hX, hbl, hlocks, hgv⟩ := id C0
  have hg : ∀ w ∈ lw_good, w.before #[Value.ref b] s = true := fun w h => hts w (List.mem_filter.mp h).1
  have hown : s.vm.findClass RL = some m.cls := hown
  obtain ⟨hSV, hHI, hTN⟩ := hSH
  obtain ⟨x0, x2, x4, x5, x6, x7, x8, x9, x10, K, L, M, rfl, i0, b1, i2, b3, i4, i5, i6, i8, hW, ⟨Bo, hC⟩, hPX, hWH, hRG, hSC⟩ := hXS
  have hFc : ∀ q, va_A ([(xa, (b11_1 x0 (nI x1) x2 (nI x3) x4 x5 x6 x7 x8 x9 x10))] ++ va_pl L M) H.size q → A q := pg_free hD1 hS hA
  refine va_calll (va_runV (As := [.int k1, .int k2, .int k3]) (rest := []) ⟨hx, hb, hml, hown, hg⟩ (s_X11_sum l D cy K L M H.size xa x0 x1 x2 x3 x4 x5 x6 x7 x8 x9 x10 k1 k2 k3 hW i0 b1 i2 b3 i4 i5 i6 i8) (cwV 3 hg (gV wd_1055 wd_1056 wd_1057 wd_3 wd_1058) rfl rfl rfl (by decide +kernel) ⟨(Nat.le_of_ble_eq_true rfl), (Nat.le_of_ble_eq_true rfl)⟩) ⟨PG.blind, va_recv hK hP1 (ci := 11) (q0 := 0) rfl rfl, fun U hU hW9 => ⟨rfl, PG.at hP1 hK hD1 hN hU hW9⟩⟩ rfl rfl hl.1 rfl (lv_room (Nat.le_of_ble_eq_true rfl)) dL_law_1513 hcs) hS (fun q _ h => hFc q h) hFc (fun r u t H1 locs1 ht hvm hw hB hz1 hk1 hS1 => ?_)
  have hpost := hw
  have hW9 := hW
  obtain ⟨hP9, hD9⟩ := hB
  rw [ht] at hP9
  obtain ⟨hQ9, hap9⟩ := hap.step hP2 hk1 hD9
  exact kk r _ H1 locs1 ⟨x0, x2, x4, x5, x6, x7, x8, x9, x10, K, L, M, rfl, i0, b1, i2, b3, i4, i5, i6, i8, hW9, ⟨⟨Bo, hC.mono⟩, hPX, hWH, hRG, hSC⟩⟩ hP9 hQ9 (hD9.mono hFc) hap9 hS1
set_option maxHeartbeats 4000000 in
set_option maxRecDepth 100000 in
theorem cx_entry {p : Program} {l : Launch} {e : Env} {s : State} {m : MethodId} {below : List Frame} {meth : Method} {c : Code} {b Ln : Nat} {xs : Nat → Int32} (C0 : lw_At p s m meth c b Ln xs) {D : va_G} {cy : Nat → ClassId} {A : Nat → Prop} (hA : ∀ q, s.heap.size ≤ q → A q) (hN : NW s) (hK : va_K D vwCl (tysC cy) s) (hST : STAT A s) {xa x1 x3 : Nat} {T : Int} {PK PT : Nat → Int32} {SX : Nat → Nat → Int} {SY : Nat → Nat → Nat → Int32} {WH : Int32} {CA : Nat → Int32} {Wa Wb : va_W} {H : Heap} {locs : List Loc} {cells slots : Nat} {ls : Array Slot} {lv : List (Nat × Value)} (k1 : Int32) (k2 : Int32) (k3 : Int32)  (hcs : cells + 0 ≤ 600000 ∧ slots + 0 ≤ 7302250) (hT : 0 ≤ T ∧ T ≤ 900000) (hSH : (∀ k, k < x1 → SV (SX k) (SY k)) ∧ (∀ k, k < x1 → HI (SX k) (SY k)) ∧ TNN x1 SX SY) (hXS : XSg cy xa x1 x3 (PS x1 x3 T PK PT SX SY WH CA) Wa) (hP1 : va_P D vwCl Wa H) (hP2 : va_P D vwCl Wb H) (hD1 : va_D A Wa) (hap : APT Wa Wb) (hS : va_S A s.heap H locs) (hl : lv_has ls 4 lv) (kk : ∀ (r : Int64) (Wc : va_W) (H1 : Heap) (locs1 : List Loc), r = (anEy x1 SX SY k1 k2 k3) → XSg cy xa x1 x3 (fun x0 x2 x5 x6 x8 x7 x9 x10 K L M => (∃ Bo, CX Bo K L x0 x1 (T + 1) x3 PK PT SX SY M) ∧ PX x0 x1 x2 x3 PK PT M ∧ x10 = WH ∧ RGC M x5 CA ∧ (SCX x0 x1 SX M)) Wc → va_P D vwCl Wc H1 → va_P D vwCl Wb H1 → va_D A Wc → APT Wc Wb → va_S A s.heap H1 locs1 → W p l e room_1 s m #[Value.ref b] below meth c H1 locs1 (cells + 0) (slots + 0) (lw_Z below #[Value.ref b] s) (F0 m 1559 ls [.long r])) : W p l e room_1 s m #[Value.ref b] below meth c H locs cells slots (lw_Z below #[Value.ref b] s) (F0 m 1556 ls [.int k3, .int k2, .int k1, .ref xa]) := by
  obtain ⟨hx, hb, hr, hml, hown, hts, hX, hbl, hlocks, hgv⟩ := id C0
  have hg : ∀ w ∈ lw_good, w.before #[Value.ref b] s = true := fun w h => hts w (List.mem_filter.mp h).1
  have hown : s.vm.findClass RL = some m.cls := hown
  obtain ⟨hSV, hHI, hTN⟩ := hSH
  obtain ⟨x0, x2, x4, x5, x6, x7, x8, x9, x10, K, L, M, rfl, i0, b1, i2, b3, i4, i5, i6, i8, hW, ⟨Bo, hC⟩, hPX, hWH, hRG, hSC⟩ := hXS
  have hFc : ∀ q, va_A ([(xa, (b11_1 x0 (nI x1) x2 (nI x3) x4 x5 x6 x7 x8 x9 x10))] ++ va_pl L M) H.size q → A q := pg_free hD1 hS hA
  refine va_calll (va_runV (As := [.int k1, .int k2, .int k3]) (rest := []) ⟨hx, hb, hml, hown, hg⟩ (x_entry l D cy K L M H.size xa x0 x1 x2 x3 x4 x5 x6 x7 x8 x9 x10 k1 k2 k3 Bo T PK PT SX SY hW i0 b1 i2 b3 i4 i5 i6 i8 hC hSV hHI hT) (cwV 3 hg (gV wd_1059 wd_1060 wd_1061 wd_3 wd_1062) rfl rfl rfl (by decide +kernel) ⟨(Nat.le_of_ble_eq_true rfl), (Nat.le_of_ble_eq_true rfl)⟩) ⟨PG.blind, va_recv hK hP1 (ci := 11) (q0 := 0) rfl rfl, fun U hU hW9 => ⟨rfl, PG.at hP1 hK hD1 hN hU hW9⟩⟩ rfl rfl hl.1 rfl (lv_room (Nat.le_of_ble_eq_true rfl)) dL_law_1556 hcs) hS (fun q _ h => hFc q h) hFc (fun r u t H1 locs1 ht hvm hw hB hz1 hk1 hS1 => ?_)
  have hpost := hw
  have hW9 := hW
  obtain ⟨hP9, hD9⟩ := hB
  rw [ht] at hP9
  obtain ⟨hQ9, hap9⟩ := hap.step hP2 hk1 hD9
  exact kk r _ H1 locs1 hpost ⟨x0, x2, x4, x5, x6, x7, x8, x9, x10, K, L, M, rfl, i0, b1, i2, b3, i4, i5, i6, i8, hW9, ⟨⟨Bo, hC.mono⟩, hPX, hWH, hRG, hSC⟩⟩ hP9 hQ9 (hD9.mono hFc) hap9 hS1
set_option maxHeartbeats 4000000 in
set_option maxRecDepth 100000 in
theorem cx_sheet {p : Program} {l : Launch} {e : Env} {s : State} {m : MethodId} {below : List Frame} {meth : Method} {c : Code} {b Ln : Nat} {xs : Nat → Int32} (C0 : lw_At p s m meth c b Ln xs) {D : va_G} {cy : Nat → ClassId} {A : Nat → Prop} (hA : ∀ q, s.heap.size ≤ q → A q) (hN : NW s) (hK : va_K D vwCl (tysC cy) s) (hST : STAT A s) {xa x1 x3 : Nat} {T : Int} {PK PT : Nat → Int32} {SX : Nat → Nat → Int} {SY : Nat → Nat → Nat → Int32} {WH : Int32} {CA : Nat → Int32} {Wa Wb : va_W} {H : Heap} {locs : List Loc} {cells slots : Nat} {ls : Array Slot} {lv : List (Nat × Value)} (k1 : Int32) (k2 : Int64)  (hcs : cells + 0 ≤ 600000 ∧ slots + 0 ≤ 7302250) (hT : 0 ≤ T ∧ T ≤ 900000) (hSH : (∀ k, k < x1 → SV (SX k) (SY k)) ∧ (∀ k, k < x1 → HI (SX k) (SY k)) ∧ TNN x1 SX SY) (hXS : XSg cy xa x1 x3 (PS x1 x3 T PK PT SX SY WH CA) Wa) (hP1 : va_P D vwCl Wa H) (hP2 : va_P D vwCl Wb H) (hD1 : va_D A Wa) (hap : APT Wa Wb) (hS : va_S A s.heap H locs) (hl : lv_has ls 4 lv) (kk : ∀ (r : Int32) (Wc : va_W) (H1 : Heap) (locs1 : List Loc), XSg cy xa x1 x3 (fun x0 x2 x5 x6 x8 x7 x9 x10 K L M => (∃ Bo, CX Bo K L x0 x1 (T + 1) x3 PK PT SX SY M) ∧ PX x0 x1 x2 x3 PK PT M ∧ x10 = (-1) ∧ RGC M x5 CA ∧ (SCX x0 x1 SX M)) Wc → va_P D vwCl Wc H1 → va_P D vwCl Wb H1 → va_D A Wc → APT Wc Wb → va_S A s.heap H1 locs1 → W p l e room_1 s m #[Value.ref b] below meth c H1 locs1 (cells + 0) (slots + 0) (lw_Z below #[Value.ref b] s) (F0 m 1612 ls [.int r])) : W p l e room_1 s m #[Value.ref b] below meth c H locs cells slots (lw_Z below #[Value.ref b] s) (F0 m 1609 ls [.long k2, .int k1, .ref xa]) := by
  obtain ⟨hx, hb, hr, hml, hown, hts, hX, hbl, hlocks, hgv⟩ := id C0
  have hg : ∀ w ∈ lw_good, w.before #[Value.ref b] s = true := fun w h => hts w (List.mem_filter.mp h).1
  have hown : s.vm.findClass RL = some m.cls := hown
  obtain ⟨hSV, hHI, hTN⟩ := hSH
  obtain ⟨x0, x2, x4, x5, x6, x7, x8, x9, x10, K, L, M, rfl, i0, b1, i2, b3, i4, i5, i6, i8, hW, ⟨Bo, hC⟩, hPX, hWH, hRG, hSC⟩ := hXS
  have hFc : ∀ q, va_A ([(xa, (b11_1 x0 (nI x1) x2 (nI x3) x4 x5 x6 x7 x8 x9 x10))] ++ va_pl L M) H.size q → A q := pg_free hD1 hS hA
  refine va_calli (va_runV (As := [.int k1, .long k2]) (rest := []) ⟨hx, hb, hml, hown, hg⟩ (s_X11_sheet l D cy K L M H.size xa x0 x1 x2 x3 x4 x5 x6 x7 x8 x9 x10 k1 k2 hW i0 b1 i2 b3 i4 i5 i6 i8) (cwV 2 hg (gV wd_1063 wd_1064 wd_1065 wd_3 wd_1066) rfl rfl rfl (by decide +kernel) ⟨(Nat.le_of_ble_eq_true rfl), (Nat.le_of_ble_eq_true rfl)⟩) ⟨PG.blind, va_recv hK hP1 (ci := 11) (q0 := 0) rfl rfl, fun U hU hW9 => ⟨rfl, PG.at hP1 hK hD1 hN hU hW9⟩⟩ rfl rfl hl.1 rfl (lv_room (Nat.le_of_ble_eq_true rfl)) dL_law_1609 hcs) hS (fun q _ h => hFc q h) hFc (fun r u t H1 locs1 ht hvm hw hB hz1 hk1 hS1 => ?_)
  obtain ⟨hW9, hF9, hpost⟩ := hw
  obtain ⟨w9, hP9, hD9⟩ := hB
  rw [ht] at hP9
  obtain ⟨hQ9, hap9⟩ := hap.step hP2 hk1 hD9
  exact kk r _ H1 locs1 ⟨x0, x2, x4, x5, x6, x7, x8, w9, (-1), K, L, u, rfl, i0, b1, i2, b3, i4, i5, i6, i8, hW9, ⟨⟨Bo, CX.same hC hW i0 b1 (SAME.fr (fr.cv hF9 (by decide)) (fr.cv hF9 (by decide)) (fr.cv hF9 (by decide)) (fr.cv hF9 (by decide)) (fr.cv hF9 (by decide)) (fr.cv hF9 (by decide)) (fr.cv hF9 (by decide)) hF9 (by decide)) (by rw [hF9.at i0 (by decide)])⟩, (PX.mv hPX hW i0 i2 b3 hF9 (by decide) (by decide) (by decide)), rfl, (hRG.mv (RGS.of hW i5 hF9 (by decide) (by decide))), (SCX.mv hSC hW i0 b1 (by rw [hF9.at i0 (by decide)]) (fr19 hF9 (by decide)) (fun c ic => hF9.at ic (by decide)) (fun _ => rfl))⟩⟩ hP9 hQ9 (hD9.mono hFc) hap9 hS1
set_option maxHeartbeats 4000000 in
set_option maxRecDepth 100000 in
theorem cx_check {p : Program} {l : Launch} {e : Env} {s : State} {m : MethodId} {below : List Frame} {meth : Method} {c : Code} {b Ln : Nat} {xs : Nat → Int32} (C0 : lw_At p s m meth c b Ln xs) {D : va_G} {cy : Nat → ClassId} {A : Nat → Prop} (hA : ∀ q, s.heap.size ≤ q → A q) (hN : NW s) (hK : va_K D vwCl (tysC cy) s) (hST : STAT A s) {xa x1 x3 : Nat} {T : Int} {PK PT : Nat → Int32} {SX : Nat → Nat → Int} {SY : Nat → Nat → Nat → Int32} {WH : Int32} {CA : Nat → Int32} {Wa Wb : va_W} {H : Heap} {locs : List Loc} {cells slots : Nat} {ls : Array Slot} {lv : List (Nat × Value)} (k1 : Int32)  (hcs : cells + 0 ≤ 600000 ∧ slots + 0 ≤ 7302250) (hT : 0 ≤ T ∧ T ≤ 900000) (hSH : (∀ k, k < x1 → SV (SX k) (SY k)) ∧ (∀ k, k < x1 → HI (SX k) (SY k)) ∧ TNN x1 SX SY) (hXS : XSg cy xa x1 x3 (PS x1 x3 T PK PT SX SY WH CA) Wa) (hP1 : va_P D vwCl Wa H) (hP2 : va_P D vwCl Wb H) (hD1 : va_D A Wa) (hap : APT Wa Wb) (hS : va_S A s.heap H locs) (hl : lv_has ls 4 lv) (kk : ∀ (r : Int32) (Wc : va_W) (H1 : Heap) (locs1 : List Loc), XSg cy xa x1 x3 (fun x0 x2 x5 x6 x8 x7 x9 x10 K L M => (∃ Bo, CX Bo K L x0 x1 (T + 1) x3 PK PT SX SY M) ∧ PX x0 x1 x2 x3 PK PT M ∧ x10 = (-1) ∧ RGC M x5 CA ∧ (SCX x0 x1 SX M)) Wc → va_P D vwCl Wc H1 → va_P D vwCl Wb H1 → va_D A Wc → APT Wc Wb → va_S A s.heap H1 locs1 → W p l e room_1 s m #[Value.ref b] below meth c H1 locs1 (cells + 0) (slots + 0) (lw_Z below #[Value.ref b] s) (F0 m 1655 ls [.int r])) : W p l e room_1 s m #[Value.ref b] below meth c H locs cells slots (lw_Z below #[Value.ref b] s) (F0 m 1652 ls [.int k1, .ref xa]) := by
  obtain ⟨hx, hb, hr, hml, hown, hts, hX, hbl, hlocks, hgv⟩ := id C0
  have hg : ∀ w ∈ lw_good, w.before #[Value.ref b] s = true := fun w h => hts w (List.mem_filter.mp h).1
  have hown : s.vm.findClass RL = some m.cls := hown
  obtain ⟨hSV, hHI, hTN⟩ := hSH
  obtain ⟨x0, x2, x4, x5, x6, x7, x8, x9, x10, K, L, M, rfl, i0, b1, i2, b3, i4, i5, i6, i8, hW, ⟨Bo, hC⟩, hPX, hWH, hRG, hSC⟩ := hXS
  have hFc : ∀ q, va_A ([(xa, (b11_1 x0 (nI x1) x2 (nI x3) x4 x5 x6 x7 x8 x9 x10))] ++ va_pl L M) H.size q → A q := pg_free hD1 hS hA
  refine va_calli (va_runV (As := [.int k1]) (rest := []) ⟨hx, hb, hml, hown, hg⟩ (s_X11_check l D cy K L M H.size xa x0 x1 x2 x3 x4 x5 x6 x7 x8 x9 x10 k1 hW i0 b1 i2 b3 i4 i5 i6 i8) (cwV 1 hg (gV wd_1067 wd_1068 wd_1069 wd_3 wd_1070) rfl rfl rfl (by decide +kernel) ⟨(Nat.le_of_ble_eq_true rfl), (Nat.le_of_ble_eq_true rfl)⟩) ⟨PG.blind, va_recv hK hP1 (ci := 11) (q0 := 0) rfl rfl, fun U hU hW9 => ⟨rfl, PG.at hP1 hK hD1 hN hU hW9⟩⟩ rfl rfl hl.1 rfl (lv_room (Nat.le_of_ble_eq_true rfl)) dL_law_1652 hcs) hS (fun q _ h => hFc q h) hFc (fun r u t H1 locs1 ht hvm hw hB hz1 hk1 hS1 => ?_)
  have hpost := hw
  have hW9 := hW
  obtain ⟨w9, hP9, hD9⟩ := hB
  rw [ht] at hP9
  obtain ⟨hQ9, hap9⟩ := hap.step hP2 hk1 hD9
  exact kk r _ H1 locs1 ⟨x0, x2, x4, x5, x6, x7, x8, w9, (-1), K, L, M, rfl, i0, b1, i2, b3, i4, i5, i6, i8, hW9, ⟨⟨Bo, hC.mono⟩, hPX, rfl, hRG, hSC⟩⟩ hP9 hQ9 (hD9.mono hFc) hap9 hS1
set_option maxHeartbeats 4000000 in
set_option maxRecDepth 100000 in
theorem cx_status {p : Program} {l : Launch} {e : Env} {s : State} {m : MethodId} {below : List Frame} {meth : Method} {c : Code} {b Ln : Nat} {xs : Nat → Int32} (C0 : lw_At p s m meth c b Ln xs) {D : va_G} {cy : Nat → ClassId} {A : Nat → Prop} (hA : ∀ q, s.heap.size ≤ q → A q) (hN : NW s) (hK : va_K D vwCl (tysC cy) s) (hST : STAT A s) {xa x1 x3 : Nat} {T : Int} {PK PT : Nat → Int32} {SX : Nat → Nat → Int} {SY : Nat → Nat → Nat → Int32} {WH : Int32} {CA : Nat → Int32} {Wa Wb : va_W} {H : Heap} {locs : List Loc} {cells slots : Nat} {ls : Array Slot} {lv : List (Nat × Value)}   (hcs : cells + 0 ≤ 600000 ∧ slots + 0 ≤ 7302250) (hT : 0 ≤ T ∧ T ≤ 900000) (hSH : (∀ k, k < x1 → SV (SX k) (SY k)) ∧ (∀ k, k < x1 → HI (SX k) (SY k)) ∧ TNN x1 SX SY) (hXS : XSg cy xa x1 x3 (PS x1 x3 T PK PT SX SY WH CA) Wa) (hP1 : va_P D vwCl Wa H) (hP2 : va_P D vwCl Wb H) (hD1 : va_D A Wa) (hap : APT Wa Wb) (hS : va_S A s.heap H locs) (hl : lv_has ls 4 lv) (kk : ∀ (r : Int32) (Wc : va_W) (H1 : Heap) (locs1 : List Loc), XSg cy xa x1 x3 (fun x0 x2 x5 x6 x8 x7 x9 x10 K L M => (∃ Bo, CX Bo K L x0 x1 (T + 1) x3 PK PT SX SY M) ∧ PX x0 x1 x2 x3 PK PT M ∧ x10 = WH ∧ RGC M x5 CA ∧ (SCX x0 x1 SX M)) Wc → va_P D vwCl Wc H1 → va_P D vwCl Wb H1 → va_D A Wc → APT Wc Wb → va_S A s.heap H1 locs1 → W p l e room_1 s m #[Value.ref b] below meth c H1 locs1 (cells + 0) (slots + 0) (lw_Z below #[Value.ref b] s) (F0 m 1673 ls [.int r])) : W p l e room_1 s m #[Value.ref b] below meth c H locs cells slots (lw_Z below #[Value.ref b] s) (F0 m 1670 ls [.ref xa]) := by
  obtain ⟨hx, hb, hr, hml, hown, hts, hX, hbl, hlocks, hgv⟩ := id C0
  have hg : ∀ w ∈ lw_good, w.before #[Value.ref b] s = true := fun w h => hts w (List.mem_filter.mp h).1
  have hown : s.vm.findClass RL = some m.cls := hown
  obtain ⟨hSV, hHI, hTN⟩ := hSH
  obtain ⟨x0, x2, x4, x5, x6, x7, x8, x9, x10, K, L, M, rfl, i0, b1, i2, b3, i4, i5, i6, i8, hW, ⟨Bo, hC⟩, hPX, hWH, hRG, hSC⟩ := hXS
  have hFc : ∀ q, va_A ([(xa, (b11_1 x0 (nI x1) x2 (nI x3) x4 x5 x6 x7 x8 x9 x10))] ++ va_pl L M) H.size q → A q := pg_free hD1 hS hA
  refine va_calli (va_runV (As := []) (rest := []) ⟨hx, hb, hml, hown, hg⟩ (s_X11_status l D cy K L M H.size xa x0 x1 x2 x3 x4 x5 x6 x7 x8 x9 x10 hW i0 b1 i2 b3 i4 i5 i6 i8) (cwV 0 hg (gV wd_1071 wd_1072 wd_1073 wd_3 wd_1074) rfl rfl rfl (by decide +kernel) ⟨(Nat.le_of_ble_eq_true rfl), (Nat.le_of_ble_eq_true rfl)⟩) ⟨PG.blind, va_recv hK hP1 (ci := 11) (q0 := 0) rfl rfl, fun U hU hW9 => ⟨rfl, PG.at hP1 hK hD1 hN hU hW9⟩⟩ rfl rfl hl.1 rfl (lv_room (Nat.le_of_ble_eq_true rfl)) dL_law_1670 hcs) hS (fun q _ h => hFc q h) hFc (fun r u t H1 locs1 ht hvm hw hB hz1 hk1 hS1 => ?_)
  have hpost := hw
  have hW9 := hW
  obtain ⟨hP9, hD9⟩ := hB
  rw [ht] at hP9
  obtain ⟨hQ9, hap9⟩ := hap.step hP2 hk1 hD9
  exact kk r _ H1 locs1 ⟨x0, x2, x4, x5, x6, x7, x8, x9, x10, K, L, M, rfl, i0, b1, i2, b3, i4, i5, i6, i8, hW9, ⟨⟨Bo, hC.mono⟩, hPX, hWH, hRG, hSC⟩⟩ hP9 hQ9 (hD9.mono hFc) hap9 hS1
set_option maxHeartbeats 4000000 in
set_option maxRecDepth 100000 in
theorem cx_where {p : Program} {l : Launch} {e : Env} {s : State} {m : MethodId} {below : List Frame} {meth : Method} {c : Code} {b Ln : Nat} {xs : Nat → Int32} (C0 : lw_At p s m meth c b Ln xs) {D : va_G} {cy : Nat → ClassId} {A : Nat → Prop} (hA : ∀ q, s.heap.size ≤ q → A q) (hN : NW s) (hK : va_K D vwCl (tysC cy) s) (hST : STAT A s) {xa x1 x3 : Nat} {T : Int} {PK PT : Nat → Int32} {SX : Nat → Nat → Int} {SY : Nat → Nat → Nat → Int32} {WH : Int32} {CA : Nat → Int32} {Wa Wb : va_W} {H : Heap} {locs : List Loc} {cells slots : Nat} {ls : Array Slot} {lv : List (Nat × Value)}   (hcs : cells + 0 ≤ 600000 ∧ slots + 0 ≤ 7302250) (hT : 0 ≤ T ∧ T ≤ 900000) (hSH : (∀ k, k < x1 → SV (SX k) (SY k)) ∧ (∀ k, k < x1 → HI (SX k) (SY k)) ∧ TNN x1 SX SY) (hXS : XSg cy xa x1 x3 (PS x1 x3 T PK PT SX SY WH CA) Wa) (hP1 : va_P D vwCl Wa H) (hP2 : va_P D vwCl Wb H) (hD1 : va_D A Wa) (hap : APT Wa Wb) (hS : va_S A s.heap H locs) (hl : lv_has ls 4 lv) (kk : ∀ (r : Int32) (Wc : va_W) (H1 : Heap) (locs1 : List Loc), r = WH → XSg cy xa x1 x3 (fun x0 x2 x5 x6 x8 x7 x9 x10 K L M => (∃ Bo, CX Bo K L x0 x1 (T + 1) x3 PK PT SX SY M) ∧ PX x0 x1 x2 x3 PK PT M ∧ x10 = WH ∧ RGC M x5 CA ∧ (SCX x0 x1 SX M)) Wc → va_P D vwCl Wc H1 → va_P D vwCl Wb H1 → va_D A Wc → APT Wc Wb → va_S A s.heap H1 locs1 → W p l e room_1 s m #[Value.ref b] below meth c H1 locs1 (cells + 0) (slots + 0) (lw_Z below #[Value.ref b] s) (F0 m 1686 ls [.int r])) : W p l e room_1 s m #[Value.ref b] below meth c H locs cells slots (lw_Z below #[Value.ref b] s) (F0 m 1683 ls [.ref xa]) := by
  obtain ⟨hx, hb, hr, hml, hown, hts, hX, hbl, hlocks, hgv⟩ := id C0
  have hg : ∀ w ∈ lw_good, w.before #[Value.ref b] s = true := fun w h => hts w (List.mem_filter.mp h).1
  have hown : s.vm.findClass RL = some m.cls := hown
  obtain ⟨hSV, hHI, hTN⟩ := hSH
  obtain ⟨x0, x2, x4, x5, x6, x7, x8, x9, x10, K, L, M, rfl, i0, b1, i2, b3, i4, i5, i6, i8, hW, ⟨Bo, hC⟩, hPX, hWH, hRG, hSC⟩ := hXS
  have hFc : ∀ q, va_A ([(xa, (b11_1 x0 (nI x1) x2 (nI x3) x4 x5 x6 x7 x8 x9 x10))] ++ va_pl L M) H.size q → A q := pg_free hD1 hS hA
  refine va_calli (va_runV (As := []) (rest := []) ⟨hx, hb, hml, hown, hg⟩ (x_where l D cy K L M H.size xa x0 x1 x2 x3 x4 x5 x6 x7 x8 x9 x10 hW i0 b1 i2 b3 i4 i5 i6 i8) (cwV 0 hg (gV wd_1075 wd_1076 wd_1077 wd_3 wd_1078) rfl rfl rfl (by decide +kernel) ⟨(Nat.le_of_ble_eq_true rfl), (Nat.le_of_ble_eq_true rfl)⟩) ⟨PG.blind, va_recv hK hP1 (ci := 11) (q0 := 0) rfl rfl, fun U hU hW9 => ⟨rfl, PG.at hP1 hK hD1 hN hU hW9⟩⟩ rfl rfl hl.1 rfl (lv_room (Nat.le_of_ble_eq_true rfl)) dL_law_1683 hcs) hS (fun q _ h => hFc q h) hFc (fun r u t H1 locs1 ht hvm hw hB hz1 hk1 hS1 => ?_)
  have hpost := hw
  have hW9 := hW
  obtain ⟨hP9, hD9⟩ := hB
  rw [ht] at hP9
  obtain ⟨hQ9, hap9⟩ := hap.step hP2 hk1 hD9
  exact kk r _ H1 locs1 (hpost.trans hWH) ⟨x0, x2, x4, x5, x6, x7, x8, x9, x10, K, L, M, rfl, i0, b1, i2, b3, i4, i5, i6, i8, hW9, ⟨⟨Bo, hC.mono⟩, hPX, hWH, hRG, hSC⟩⟩ hP9 hQ9 (hD9.mono hFc) hap9 hS1
