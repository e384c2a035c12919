theorem dX12_findHistories_88 : decode cX12_findHistories 88 = .ok (.idiv, 1) := by decide +kernel
theorem dX12_findHistories_89 : decode cX12_findHistories 89 = .ok (.aload_n 0, 1) := by decide +kernel
theorem dX12_findHistories_90 : decode cX12_findHistories 90 = .ok (.getfield 100, 3) := by decide +kernel
theorem dX12_findHistories_93 : decode cX12_findHistories 93 = .ok (.if_icmp .ge 68, 3) := by decide +kernel
theorem dX12_findHistories_96 : decode cX12_findHistories 96 = .ok (.aload_n 0, 1) := by decide +kernel
theorem dX12_findHistories_97 : decode cX12_findHistories 97 = .ok (.iload_n 3, 1) := by decide +kernel
theorem dX12_findHistories_98 : decode cX12_findHistories 98 = .ok (.iload 4, 2) := by decide +kernel
theorem dX12_findHistories_100 : decode cX12_findHistories 100 = .ok (.invokevirtual 233, 3) := by decide +kernel
theorem dX12_findHistories_103 : decode cX12_findHistories 103 = .ok (.istore 5, 2) := by decide +kernel
theorem dX12_findHistories_105 : decode cX12_findHistories 105 = .ok (.aload_n 0, 1) := by decide +kernel
theorem dX12_findHistories_106 : decode cX12_findHistories 106 = .ok (.getfield 60, 3) := by decide +kernel
theorem dX12_findHistories_109 : decode cX12_findHistories 109 = .ok (.bipush 49, 2) := by decide +kernel
theorem dX12_findHistories_111 : decode cX12_findHistories 111 = .ok (.iload_n 2, 1) := by decide +kernel
theorem dX12_findHistories_112 : decode cX12_findHistories 112 = .ok (.imul, 1) := by decide +kernel
theorem dX12_findHistories_113 : decode cX12_findHistories 113 = .ok (.iload_n 3, 1) := by decide +kernel
theorem dX12_findHistories_114 : decode cX12_findHistories 114 = .ok (.iadd, 1) := by decide +kernel
theorem dX12_findHistories_115 : decode cX12_findHistories 115 = .ok (.dup2, 1) := by decide +kernel
theorem dX12_findHistories_116 : decode cX12_findHistories 116 = .ok (.iaload, 1) := by decide +kernel
theorem dX12_findHistories_117 : decode cX12_findHistories 117 = .ok (.iload 5, 2) := by decide +kernel
theorem dX12_findHistories_119 : decode cX12_findHistories 119 = .ok (.bipush 7, 2) := by decide +kernel
theorem dX12_findHistories_121 : decode cX12_findHistories 121 = .ok (.irem, 1) := by decide +kernel
theorem dX12_findHistories_122 : decode cX12_findHistories 122 = .ok (.aload_n 0, 1) := by decide +kernel
theorem dX12_findHistories_123 : decode cX12_findHistories 123 = .ok (.getfield 7, 3) := by decide +kernel
theorem dX12_findHistories_126 : decode cX12_findHistories 126 = .ok (.bipush 32, 2) := by decide +kernel
theorem dX12_findHistories_128 : decode cX12_findHistories 128 = .ok (.iload_n 2, 1) := by decide +kernel
theorem dX12_findHistories_129 : decode cX12_findHistories 129 = .ok (.iadd, 1) := by decide +kernel
theorem dX12_findHistories_130 : decode cX12_findHistories 130 = .ok (.iaload, 1) := by decide +kernel
theorem dX12_findHistories_131 : decode cX12_findHistories 131 = .ok (.if_icmp .ne 21, 3) := by decide +kernel
theorem dX12_findHistories_134 : decode cX12_findHistories 134 = .ok (.aload_n 0, 1) := by decide +kernel
theorem dX12_findHistories_135 : decode cX12_findHistories 135 = .ok (.getfield 60, 3) := by decide +kernel
theorem dX12_findHistories_138 : decode cX12_findHistories 138 = .ok (.bipush 49, 2) := by decide +kernel
theorem dX12_findHistories_140 : decode cX12_findHistories 140 = .ok (.iload_n 2, 1) := by decide +kernel
theorem dX12_findHistories_141 : decode cX12_findHistories 141 = .ok (.imul, 1) := by decide +kernel
theorem dX12_findHistories_142 : decode cX12_findHistories 142 = .ok (.bipush 49, 2) := by decide +kernel
theorem dX12_findHistories_144 : decode cX12_findHistories 144 = .ok (.iadd, 1) := by decide +kernel
theorem dX12_findHistories_145 : decode cX12_findHistories 145 = .ok (.iload 5, 2) := by decide +kernel
theorem dX12_findHistories_147 : decode cX12_findHistories 147 = .ok (.iadd, 1) := by decide +kernel
theorem dX12_findHistories_148 : decode cX12_findHistories 148 = .ok (.iaload, 1) := by decide +kernel
theorem dX12_findHistories_149 : decode cX12_findHistories 149 = .ok (.goto 4, 3) := by decide +kernel
theorem dX12_findHistories_152 : decode cX12_findHistories 152 = .ok (.iconst 0, 1) := by decide +kernel
theorem dX12_findHistories_153 : decode cX12_findHistories 153 = .ok (.iadd, 1) := by decide +kernel
theorem dX12_findHistories_154 : decode cX12_findHistories 154 = .ok (.iastore, 1) := by decide +kernel
theorem dX12_findHistories_155 : decode cX12_findHistories 155 = .ok (.iinc 4 1, 3) := by decide +kernel
theorem dX12_findHistories_158 : decode cX12_findHistories 158 = .ok (.goto (-93), 3) := by decide +kernel
theorem dX12_findHistories_161 : decode cX12_findHistories 161 = .ok (.iinc 3 1, 3) := by decide +kernel
theorem dX12_findHistories_164 : decode cX12_findHistories 164 = .ok (.goto (-120), 3) := by decide +kernel
theorem dX12_findHistories_167 : decode cX12_findHistories 167 = .ok (.iinc 2 (-1), 3) := by decide +kernel
theorem dX12_findHistories_170 : decode cX12_findHistories 170 = .ok (.goto (-132), 3) := by decide +kernel
theorem dX12_findHistories_173 : decode cX12_findHistories 173 = .ok (.return_, 1) := by decide +kernel
set_option maxRecDepth 20000 in
theorem ggX12_canGo_X12_then : GoodIn wsX12_canGo wsX12_then := goodIn_r _ [7, 8, 9, 10, 11, 6, 12, 13, 14, 15, 16, 17, 18, 1, 19, 20, 21, 22, 23, 24, 25, 26, 27, 28, 29, 30, 31, 32, 33, 34, 35, 36, 37, 38, 39, 40, 41, 42, 43, 44, 45, 46, 47, 48, 49, 50, 51, 52, 53, 54, 55, 56, 57, 58] (by decide +kernel) (by decide +kernel)
set_option maxRecDepth 20000 in
theorem gX12_canGo_X12_then : GoodIn wsX12_canGo (wsV RX12 233 RX12 yX12_then wsX12_then) := goodIn_app (goodIn_of _ (by decide +kernel)) ggX12_canGo_X12_then
theorem dX12_canGo_0 : decode cX12_canGo 0 = .ok (.aload_n 0, 1) := by decide +kernel
theorem dX12_canGo_1 : decode cX12_canGo 1 = .ok (.iload_n 2, 1) := by decide +kernel
theorem dX12_canGo_2 : decode cX12_canGo 2 = .ok (.iload_n 3, 1) := by decide +kernel
theorem dX12_canGo_3 : decode cX12_canGo 3 = .ok (.invokevirtual 233, 3) := by decide +kernel
theorem dX12_canGo_6 : decode cX12_canGo 6 = .ok (.istore 4, 2) := by decide +kernel
theorem dX12_canGo_8 : decode cX12_canGo 8 = .ok (.iload 4, 2) := by decide +kernel
theorem dX12_canGo_10 : decode cX12_canGo 10 = .ok (.bipush 7, 2) := by decide +kernel
theorem dX12_canGo_12 : decode cX12_canGo 12 = .ok (.irem, 1) := by decide +kernel
theorem dX12_canGo_13 : decode cX12_canGo 13 = .ok (.aload_n 0, 1) := by decide +kernel
theorem dX12_canGo_14 : decode cX12_canGo 14 = .ok (.getfield 7, 3) := by decide +kernel
theorem dX12_canGo_17 : decode cX12_canGo 17 = .ok (.bipush 32, 2) := by decide +kernel
theorem dX12_canGo_19 : decode cX12_canGo 19 = .ok (.iload_n 1, 1) := by decide +kernel
theorem dX12_canGo_20 : decode cX12_canGo 20 = .ok (.iadd, 1) := by decide +kernel
theorem dX12_canGo_21 : decode cX12_canGo 21 = .ok (.iaload, 1) := by decide +kernel
theorem dX12_canGo_22 : decode cX12_canGo 22 = .ok (.if_icmp .ne 25, 3) := by decide +kernel
theorem dX12_canGo_25 : decode cX12_canGo 25 = .ok (.aload_n 0, 1) := by decide +kernel
theorem dX12_canGo_26 : decode cX12_canGo 26 = .ok (.getfield 60, 3) := by decide +kernel
theorem dX12_canGo_29 : decode cX12_canGo 29 = .ok (.bipush 49, 2) := by decide +kernel
theorem dX12_canGo_31 : decode cX12_canGo 31 = .ok (.iload_n 1, 1) := by decide +kernel
theorem dX12_canGo_32 : decode cX12_canGo 32 = .ok (.imul, 1) := by decide +kernel
theorem dX12_canGo_33 : decode cX12_canGo 33 = .ok (.bipush 49, 2) := by decide +kernel
theorem dX12_canGo_35 : decode cX12_canGo 35 = .ok (.iadd, 1) := by decide +kernel
theorem dX12_canGo_36 : decode cX12_canGo 36 = .ok (.iload 4, 2) := by decide +kernel
theorem dX12_canGo_38 : decode cX12_canGo 38 = .ok (.iadd, 1) := by decide +kernel
theorem dX12_canGo_39 : decode cX12_canGo 39 = .ok (.iaload, 1) := by decide +kernel
theorem dX12_canGo_40 : decode cX12_canGo 40 = .ok (.ifCond .le 7, 3) := by decide +kernel
theorem dX12_canGo_43 : decode cX12_canGo 43 = .ok (.iconst 1, 1) := by decide +kernel
theorem dX12_canGo_44 : decode cX12_canGo 44 = .ok (.goto 4, 3) := by decide +kernel
theorem dX12_canGo_47 : decode cX12_canGo 47 = .ok (.iconst 0, 1) := by decide +kernel
theorem dX12_canGo_48 : decode cX12_canGo 48 = .ok (.ireturn, 1) := by decide +kernel
set_option maxRecDepth 20000 in
theorem ggX12_histories_X12_in : GoodIn wsX12_histories wsX12_in := goodIn_r _ [9] (by decide +kernel) (by decide +kernel)
set_option maxRecDepth 20000 in
theorem gX12_histories_X12_in : GoodIn wsX12_histories (va_wsS RX12 115 yX12_in wsX12_in) := goodIn_app (goodIn_of _ (by decide +kernel)) ggX12_histories_X12_in
set_option maxRecDepth 20000 in
theorem ggX12_histories_X12_findHistories : GoodIn wsX12_histories wsX12_findHistories := goodIn_r _ [13, 4, 3, 5, 14, 15, 16, 17, 8, 18, 19, 20, 21, 22, 23, 24, 25, 26, 27, 28, 29, 30, 31, 40, 41, 42, 43, 44, 45, 46, 47, 48, 49, 50, 51, 52, 53, 54, 55, 56, 57, 58, 59, 60, 61, 62, 63, 64, 65, 66, 67, 68, 69, 70, 71, 72, 73, 74, 75, 76] (by decide +kernel) (by decide +kernel)
set_option maxRecDepth 20000 in
theorem gX12_histories_X12_findHistories : GoodIn wsX12_histories (wsV RX12 290 RX12 yX12_findHistories wsX12_findHistories) := goodIn_app (goodIn_of _ (by decide +kernel)) ggX12_histories_X12_findHistories
set_option maxRecDepth 20000 in
theorem ggX12_histories_X12_stateNow : GoodIn wsX12_histories wsX12_stateNow := goodIn_r _ [35, 4, 40, 41, 42, 43, 44, 45, 46, 47, 48, 49, 50, 51, 52, 53, 54, 55, 56, 57, 58, 59, 60, 61, 62, 63, 64, 65, 66, 67, 68, 69, 70, 71, 72, 73, 74, 75, 76] (by decide +kernel) (by decide +kernel)
set_option maxRecDepth 20000 in
theorem gX12_histories_X12_stateNow : GoodIn wsX12_histories (wsV RX12 268 RX12 yX12_stateNow wsX12_stateNow) := goodIn_app (goodIn_of _ (by decide +kernel)) ggX12_histories_X12_stateNow
set_option maxRecDepth 20000 in
theorem ggX12_histories_X12_canGo : GoodIn wsX12_histories wsX12_canGo := goodIn_r _ [39, 4, 3, 15, 16, 17, 8, 18, 19, 20, 21, 22, 23, 24, 25, 26, 27, 28, 14, 29, 30, 31, 40, 41, 42, 43, 44, 45, 46, 47, 48, 49, 50, 51, 52, 53, 54, 55, 56, 57, 58, 59, 60, 61, 62, 63, 64, 65, 66, 67, 68, 69, 70, 71, 72, 73, 74, 75, 76] (by decide +kernel) (by decide +kernel)
set_option maxRecDepth 20000 in
theorem gX12_histories_X12_canGo : GoodIn wsX12_histories (wsV RX12 293 RX12 yX12_canGo wsX12_canGo) := goodIn_app (goodIn_of _ (by decide +kernel)) ggX12_histories_X12_canGo
set_option maxRecDepth 20000 in
theorem ggX12_histories_X12_then : GoodIn wsX12_histories wsX12_then := goodIn_r _ [18, 19, 20, 21, 22, 8, 23, 24, 25, 26, 27, 28, 14, 4, 29, 30, 31, 40, 41, 42, 43, 44, 45, 46, 47, 48, 49, 50, 51, 52, 53, 54, 55, 56, 57, 58, 59, 60, 61, 62, 63, 64, 65, 66, 67, 68, 69, 70, 71, 72, 73, 74, 75, 76] (by decide +kernel) (by decide +kernel)
set_option maxRecDepth 20000 in
theorem gX12_histories_X12_then : GoodIn wsX12_histories (wsV RX12 233 RX12 yX12_then wsX12_then) := goodIn_app (goodIn_of _ (by decide +kernel)) ggX12_histories_X12_then
theorem dX12_histories_0 : decode cX12_histories 0 = .ok (.iload_n 1, 1) := by decide +kernel
theorem dX12_histories_1 : decode cX12_histories 1 = .ok (.ifCond .eq 19, 3) := by decide +kernel
theorem dX12_histories_4 : decode cX12_histories 4 = .ok (.iload_n 1, 1) := by decide +kernel
theorem dX12_histories_5 : decode cX12_histories 5 = .ok (.i2l, 1) := by decide +kernel
theorem dX12_histories_6 : decode cX12_histories 6 = .ok (.ldc2_w 236, 3) := by decide +kernel
theorem dX12_histories_9 : decode cX12_histories 9 = .ok (.ldc2_w 288, 3) := by decide +kernel
theorem dX12_histories_12 : decode cX12_histories 12 = .ok (.invokestatic 115, 3) := by decide +kernel
theorem dX12_histories_15 : decode cX12_histories 15 = .ok (.ifCond .ne 5, 3) := by decide +kernel
theorem dX12_histories_18 : decode cX12_histories 18 = .ok (.iconst (-1), 1) := by decide +kernel
theorem dX12_histories_19 : decode cX12_histories 19 = .ok (.ireturn, 1) := by decide +kernel
theorem dX12_histories_20 : decode cX12_histories 20 = .ok (.aload_n 0, 1) := by decide +kernel
theorem dX12_histories_21 : decode cX12_histories 21 = .ok (.invokevirtual 290, 3) := by decide +kernel
theorem dX12_histories_24 : decode cX12_histories 24 = .ok (.aload_n 0, 1) := by decide +kernel
theorem dX12_histories_25 : decode cX12_histories 25 = .ok (.invokevirtual 268, 3) := by decide +kernel
theorem dX12_histories_28 : decode cX12_histories 28 = .ok (.istore_n 2, 1) := by decide +kernel
theorem dX12_histories_29 : decode cX12_histories 29 = .ok (.iload_n 1, 1) := by decide +kernel
theorem dX12_histories_30 : decode cX12_histories 30 = .ok (.ifCond .ne 10, 3) := by decide +kernel
theorem dX12_histories_33 : decode cX12_histories 33 = .ok (.aload_n 0, 1) := by decide +kernel
theorem dX12_histories_34 : decode cX12_histories 34 = .ok (.getfield 60, 3) := by decide +kernel
theorem dX12_histories_37 : decode cX12_histories 37 = .ok (.iload_n 2, 1) := by decide +kernel
theorem dX12_histories_38 : decode cX12_histories 38 = .ok (.iaload, 1) := by decide +kernel
theorem dX12_histories_39 : decode cX12_histories 39 = .ok (.ireturn, 1) := by decide +kernel
theorem dX12_histories_40 : decode cX12_histories 40 = .ok (.aload_n 0, 1) := by decide +kernel
theorem dX12_histories_41 : decode cX12_histories 41 = .ok (.getfield 60, 3) := by decide +kernel
theorem dX12_histories_44 : decode cX12_histories 44 = .ok (.iload_n 2, 1) := by decide +kernel
theorem dX12_histories_45 : decode cX12_histories 45 = .ok (.iaload, 1) := by decide +kernel
theorem dX12_histories_46 : decode cX12_histories 46 = .ok (.ifCond .eq 17, 3) := by decide +kernel
theorem dX12_histories_49 : decode cX12_histories 49 = .ok (.iload_n 1, 1) := by decide +kernel
theorem dX12_histories_50 : decode cX12_histories 50 = .ok (.bipush 10, 2) := by decide +kernel
theorem dX12_histories_52 : decode cX12_histories 52 = .ok (.isub, 1) := by decide +kernel
theorem dX12_histories_53 : decode cX12_histories 53 = .ok (.aload_n 0, 1) := by decide +kernel
theorem dX12_histories_54 : decode cX12_histories 54 = .ok (.getfield 7, 3) := by decide +kernel
theorem dX12_histories_57 : decode cX12_histories 57 = .ok (.bipush 31, 2) := by decide +kernel
theorem dX12_histories_59 : decode cX12_histories 59 = .ok (.iaload, 1) := by decide +kernel
theorem dX12_histories_60 : decode cX12_histories 60 = .ok (.if_icmp .lt 6, 3) := by decide +kernel
theorem dX12_histories_63 : decode cX12_histories 63 = .ok (.bipush (-4), 2) := by decide +kernel
theorem dX12_histories_65 : decode cX12_histories 65 = .ok (.ireturn, 1) := by decide +kernel
theorem dX12_histories_66 : decode cX12_histories 66 = .ok (.bipush (-4), 2) := by decide +kernel
theorem dX12_histories_68 : decode cX12_histories 68 = .ok (.istore_n 3, 1) := by decide +kernel
theorem dX12_histories_69 : decode cX12_histories 69 = .ok (.iconst 0, 1) := by decide +kernel
theorem dX12_histories_70 : decode cX12_histories 70 = .ok (.istore 4, 2) := by decide +kernel
theorem dX12_histories_72 : decode cX12_histories 72 = .ok (.iload 4, 2) := by decide +kernel
theorem dX12_histories_74 : decode cX12_histories 74 = .ok (.iload_n 1, 1) := by decide +kernel
theorem dX12_histories_75 : decode cX12_histories 75 = .ok (.bipush 10, 2) := by decide +kernel
theorem dX12_histories_77 : decode cX12_histories 77 = .ok (.isub, 1) := by decide +kernel
theorem dX12_histories_78 : decode cX12_histories 78 = .ok (.if_icmp .gt 57, 3) := by decide +kernel
theorem dX12_histories_81 : decode cX12_histories 81 = .ok (.bipush (-4), 2) := by decide +kernel
theorem dX12_histories_83 : decode cX12_histories 83 = .ok (.istore_n 3, 1) := by decide +kernel
theorem dX12_histories_84 : decode cX12_histories 84 = .ok (.aload_n 0, 1) := by decide +kernel
theorem dX12_histories_85 : decode cX12_histories 85 = .ok (.getfield 103, 3) := by decide +kernel
theorem dX12_histories_88 : decode cX12_histories 88 = .ok (.iconst 1, 1) := by decide +kernel
theorem dX12_histories_89 : decode cX12_histories 89 = .ok (.isub, 1) := by decide +kernel
theorem dX12_histories_90 : decode cX12_histories 90 = .ok (.istore 5, 2) := by decide +kernel
theorem dX12_histories_92 : decode cX12_histories 92 = .ok (.iload 5, 2) := by decide +kernel
theorem dX12_histories_94 : decode cX12_histories 94 = .ok (.ifCond .lt 28, 3) := by decide +kernel
theorem dX12_histories_97 : decode cX12_histories 97 = .ok (.aload_n 0, 1) := by decide +kernel
theorem dX12_histories_98 : decode cX12_histories 98 = .ok (.iload 4, 2) := by decide +kernel
theorem dX12_histories_100 : decode cX12_histories 100 = .ok (.iload_n 2, 1) := by decide +kernel
theorem dX12_histories_101 : decode cX12_histories 101 = .ok (.iload 5, 2) := by decide +kernel
theorem dX12_histories_103 : decode cX12_histories 103 = .ok (.invokevirtual 293, 3) := by decide +kernel
theorem dX12_histories_106 : decode cX12_histories 106 = .ok (.ifCond .eq 8, 3) := by decide +kernel
theorem dX12_histories_109 : decode cX12_histories 109 = .ok (.iload 5, 2) := by decide +kernel
theorem dX12_histories_111 : decode cX12_histories 111 = .ok (.goto 4, 3) := by decide +kernel
theorem dX12_histories_114 : decode cX12_histories 114 = .ok (.iload_n 3, 1) := by decide +kernel
theorem dX12_histories_115 : decode cX12_histories 115 = .ok (.istore_n 3, 1) := by decide +kernel
theorem dX12_histories_116 : decode cX12_histories 116 = .ok (.iinc 5 (-1), 3) := by decide +kernel
theorem dX12_histories_119 : decode cX12_histories 119 = .ok (.goto (-27), 3) := by decide +kernel
theorem dX12_histories_122 : decode cX12_histories 122 = .ok (.aload_n 0, 1) := by decide +kernel
theorem dX12_histories_123 : decode cX12_histories 123 = .ok (.iload_n 2, 1) := by decide +kernel
theorem dX12_histories_124 : decode cX12_histories 124 = .ok (.iload_n 3, 1) := by decide +kernel
theorem dX12_histories_125 : decode cX12_histories 125 = .ok (.invokevirtual 233, 3) := by decide +kernel
theorem dX12_histories_128 : decode cX12_histories 128 = .ok (.istore_n 2, 1) := by decide +kernel
theorem dX12_histories_129 : decode cX12_histories 129 = .ok (.iinc 4 1, 3) := by decide +kernel
theorem dX12_histories_132 : decode cX12_histories 132 = .ok (.goto (-60), 3) := by decide +kernel
theorem dX12_histories_135 : decode cX12_histories 135 = .ok (.iload_n 3, 1) := by decide +kernel
theorem dX12_histories_136 : decode cX12_histories 136 = .ok (.ireturn, 1) := by decide +kernel
set_option maxRecDepth 20000 in
theorem ggX12_could_X12_in : GoodIn wsX12_could wsX12_in := goodIn_r _ [8] (by decide +kernel) (by decide +kernel)
set_option maxRecDepth 20000 in
theorem gX12_could_X12_in : GoodIn wsX12_could (va_wsS RX12 115 yX12_in wsX12_in) := goodIn_app (goodIn_of _ (by decide +kernel)) ggX12_could_X12_in
set_option maxRecDepth 20000 in
theorem ggX12_could_X12_findHistories : GoodIn wsX12_could wsX12_findHistories := goodIn_r _ [12, 1, 13, 4, 14, 15, 16, 17, 7, 18, 19, 20, 21, 22, 23, 24, 25, 26, 27, 28, 29, 30, 31, 40, 41, 42, 43, 44, 45, 46, 47, 48, 49, 50, 51, 52, 53, 54, 55, 56, 57, 58, 59, 60, 61, 62, 63, 64, 65, 66, 67, 68, 69, 70, 71, 72, 73, 74, 75, 76] (by decide +kernel) (by decide +kernel)
set_option maxRecDepth 20000 in
theorem gX12_could_X12_findHistories : GoodIn wsX12_could (wsV RX12 290 RX12 yX12_findHistories wsX12_findHistories) := goodIn_app (goodIn_of _ (by decide +kernel)) ggX12_could_X12_findHistories
set_option maxRecDepth 20000 in
theorem ggX12_could_X12_stateNow : GoodIn wsX12_could wsX12_stateNow := goodIn_r _ [35, 1, 40, 41, 42, 43, 44, 45, 46, 47, 48, 49, 50, 51, 52, 53, 54, 55, 56, 57, 58, 59, 60, 61, 62, 63, 64, 65, 66, 67, 68, 69, 70, 71, 72, 73, 74, 75, 76] (by decide +kernel) (by decide +kernel)
set_option maxRecDepth 20000 in
theorem gX12_could_X12_stateNow : GoodIn wsX12_could (wsV RX12 268 RX12 yX12_stateNow wsX12_stateNow) := goodIn_app (goodIn_of _ (by decide +kernel)) ggX12_could_X12_stateNow
set_option maxRecDepth 20000 in
theorem ggX12_could_X12_canGo : GoodIn wsX12_could wsX12_canGo := goodIn_r _ [39, 1, 13, 15, 16, 17, 7, 18, 19, 20, 21, 22, 23, 24, 25, 26, 27, 28, 14, 29, 30, 31, 40, 41, 42, 43, 44, 45, 46, 47, 48, 49, 50, 51, 52, 53, 54, 55, 56, 57, 58, 59, 60, 61, 62, 63, 64, 65, 66, 67, 68, 69, 70, 71, 72, 73, 74, 75, 76] (by decide +kernel) (by decide +kernel)
set_option maxRecDepth 20000 in
theorem gX12_could_X12_canGo : GoodIn wsX12_could (wsV RX12 293 RX12 yX12_canGo wsX12_canGo) := goodIn_app (goodIn_of _ (by decide +kernel)) ggX12_could_X12_canGo
set_option maxRecDepth 20000 in
theorem ggX12_could_X12_then : GoodIn wsX12_could wsX12_then := goodIn_r _ [18, 19, 20, 21, 22, 7, 23, 24, 25, 26, 27, 28, 14, 1, 29, 30, 31, 40, 41, 42, 43, 44, 45, 46, 47, 48, 49, 50, 51, 52, 53, 54, 55, 56, 57, 58, 59, 60, 61, 62, 63, 64, 65, 66, 67, 68, 69, 70, 71, 72, 73, 74, 75, 76] (by decide +kernel) (by decide +kernel)
set_option maxRecDepth 20000 in
theorem gX12_could_X12_then : GoodIn wsX12_could (wsV RX12 233 RX12 yX12_then wsX12_then) := goodIn_app (goodIn_of _ (by decide +kernel)) ggX12_could_X12_then
theorem dX12_could_0 : decode cX12_could 0 = .ok (.iload_n 1, 1) := by decide +kernel
theorem dX12_could_1 : decode cX12_could 1 = .ok (.i2l, 1) := by decide +kernel
theorem dX12_could_2 : decode cX12_could 2 = .ok (.lconst 0, 1) := by decide +kernel
theorem dX12_could_3 : decode cX12_could 3 = .ok (.aload_n 0, 1) := by decide +kernel
theorem dX12_could_4 : decode cX12_could 4 = .ok (.getfield 7, 3) := by decide +kernel
theorem dX12_could_7 : decode cX12_could 7 = .ok (.bipush 31, 2) := by decide +kernel
theorem dX12_could_9 : decode cX12_could 9 = .ok (.iaload, 1) := by decide +kernel
theorem dX12_could_10 : decode cX12_could 10 = .ok (.iconst 1, 1) := by decide +kernel
theorem dX12_could_11 : decode cX12_could 11 = .ok (.isub, 1) := by decide +kernel
theorem dX12_could_12 : decode cX12_could 12 = .ok (.i2l, 1) := by decide +kernel
theorem dX12_could_13 : decode cX12_could 13 = .ok (.invokestatic 115, 3) := by decide +kernel
theorem dX12_could_16 : decode cX12_could 16 = .ok (.ifCond .ne 5, 3) := by decide +kernel
theorem dX12_could_19 : decode cX12_could 19 = .ok (.iconst (-1), 1) := by decide +kernel
theorem dX12_could_20 : decode cX12_could 20 = .ok (.ireturn, 1) := by decide +kernel
theorem dX12_could_21 : decode cX12_could 21 = .ok (.aload_n 0, 1) := by decide +kernel
theorem dX12_could_22 : decode cX12_could 22 = .ok (.invokevirtual 290, 3) := by decide +kernel
theorem dX12_could_25 : decode cX12_could 25 = .ok (.iconst 0, 1) := by decide +kernel
theorem dX12_could_26 : decode cX12_could 26 = .ok (.istore_n 2, 1) := by decide +kernel
theorem dX12_could_27 : decode cX12_could 27 = .ok (.iconst 0, 1) := by decide +kernel
theorem dX12_could_28 : decode cX12_could 28 = .ok (.istore_n 3, 1) := by decide +kernel
theorem dX12_could_29 : decode cX12_could 29 = .ok (.iload_n 3, 1) := by decide +kernel
theorem dX12_could_30 : decode cX12_could 30 = .ok (.bipush 49, 2) := by decide +kernel
theorem dX12_could_32 : decode cX12_could 32 = .ok (.if_icmp .ge 28, 3) := by decide +kernel
theorem dX12_could_35 : decode cX12_could 35 = .ok (.aload_n 0, 1) := by decide +kernel
theorem dX12_could_36 : decode cX12_could 36 = .ok (.getfield 63, 3) := by decide +kernel
theorem dX12_could_39 : decode cX12_could 39 = .ok (.iload_n 3, 1) := by decide +kernel
theorem dX12_could_40 : decode cX12_could 40 = .ok (.iload_n 3, 1) := by decide +kernel
theorem dX12_could_41 : decode cX12_could 41 = .ok (.aload_n 0, 1) := by decide +kernel
theorem dX12_could_42 : decode cX12_could 42 = .ok (.invokevirtual 268, 3) := by decide +kernel
theorem dX12_could_45 : decode cX12_could 45 = .ok (.if_icmp .ne 7, 3) := by decide +kernel
theorem dX12_could_48 : decode cX12_could 48 = .ok (.iconst 1, 1) := by decide +kernel
theorem dX12_could_49 : decode cX12_could 49 = .ok (.goto 4, 3) := by decide +kernel
theorem dX12_could_52 : decode cX12_could 52 = .ok (.iconst 0, 1) := by decide +kernel
theorem dX12_could_53 : decode cX12_could 53 = .ok (.bastore, 1) := by decide +kernel
theorem dX12_could_54 : decode cX12_could 54 = .ok (.iinc 3 1, 3) := by decide +kernel
theorem dX12_could_57 : decode cX12_could 57 = .ok (.goto (-28), 3) := by decide +kernel
theorem dX12_could_60 : decode cX12_could 60 = .ok (.iconst 0, 1) := by decide +kernel
theorem dX12_could_61 : decode cX12_could 61 = .ok (.istore_n 3, 1) := by decide +kernel
theorem dX12_could_62 : decode cX12_could 62 = .ok (.iload_n 3, 1) := by decide +kernel
theorem dX12_could_63 : decode cX12_could 63 = .ok (.iload_n 1, 1) := by decide +kernel
theorem dX12_could_64 : decode cX12_could 64 = .ok (.if_icmp .gt 142, 3) := by decide +kernel
theorem dX12_could_67 : decode cX12_could 67 = .ok (.iconst 0, 1) := by decide +kernel
theorem dX12_could_68 : decode cX12_could 68 = .ok (.istore_n 2, 1) := by decide +kernel
theorem dX12_could_69 : decode cX12_could 69 = .ok (.iconst 0, 1) := by decide +kernel
theorem dX12_could_70 : decode cX12_could 70 = .ok (.istore 4, 2) := by decide +kernel
theorem dX12_could_72 : decode cX12_could 72 = .ok (.iload 4, 2) := by decide +kernel
theorem dX12_could_74 : decode cX12_could 74 = .ok (.bipush 49, 2) := by decide +kernel
theorem dX12_could_76 : decode cX12_could 76 = .ok (.if_icmp .ge 17, 3) := by decide +kernel
theorem dX12_could_79 : decode cX12_could 79 = .ok (.aload_n 0, 1) := by decide +kernel
theorem dX12_could_80 : decode cX12_could 80 = .ok (.getfield 66, 3) := by decide +kernel
theorem dX12_could_83 : decode cX12_could 83 = .ok (.iload 4, 2) := by decide +kernel
theorem dX12_could_85 : decode cX12_could 85 = .ok (.iconst 0, 1) := by decide +kernel
theorem dX12_could_86 : decode cX12_could 86 = .ok (.bastore, 1) := by decide +kernel
theorem dX12_could_87 : decode cX12_could 87 = .ok (.iinc 4 1, 3) := by decide +kernel
theorem dX12_could_90 : decode cX12_could 90 = .ok (.goto (-18), 3) := by decide +kernel
theorem dX12_could_93 : decode cX12_could 93 = .ok (.iconst 0, 1) := by decide +kernel
theorem dX12_could_94 : decode cX12_could 94 = .ok (.istore 4, 2) := by decide +kernel
theorem dX12_could_96 : decode cX12_could 96 = .ok (.iload 4, 2) := by decide +kernel
theorem dX12_could_98 : decode cX12_could 98 = .ok (.bipush 49, 2) := by decide +kernel
theorem dX12_could_100 : decode cX12_could 100 = .ok (.if_icmp .ge 70, 3) := by decide +kernel
theorem dX12_could_103 : decode cX12_could 103 = .ok (.iconst 0, 1) := by decide +kernel
theorem dX12_could_104 : decode cX12_could 104 = .ok (.istore 5, 2) := by decide +kernel
theorem dX12_could_106 : decode cX12_could 106 = .ok (.iload 5, 2) := by decide +kernel
theorem dX12_could_108 : decode cX12_could 108 = .ok (.aload_n 0, 1) := by decide +kernel
theorem dX12_could_109 : decode cX12_could 109 = .ok (.getfield 103, 3) := by decide +kernel
theorem dX12_could_112 : decode cX12_could 112 = .ok (.if_icmp .ge 52, 3) := by decide +kernel
theorem dX12_could_115 : decode cX12_could 115 = .ok (.aload_n 0, 1) := by decide +kernel
theorem dX12_could_116 : decode cX12_could 116 = .ok (.getfield 63, 3) := by decide +kernel
theorem dX12_could_119 : decode cX12_could 119 = .ok (.iload 4, 2) := by decide +kernel
theorem dX12_could_121 : decode cX12_could 121 = .ok (.baload, 1) := by decide +kernel
theorem dX12_could_122 : decode cX12_could 122 = .ok (.ifCond .eq 42, 3) := by decide +kernel
theorem dX12_could_125 : decode cX12_could 125 = .ok (.aload_n 0, 1) := by decide +kernel
theorem dX12_could_126 : decode cX12_could 126 = .ok (.iload_n 3, 1) := by decide +kernel
theorem dX12_could_127 : decode cX12_could 127 = .ok (.iload 4, 2) := by decide +kernel
theorem dX12_could_129 : decode cX12_could 129 = .ok (.iload 5, 2) := by decide +kernel
theorem dX12_could_131 : decode cX12_could 131 = .ok (.invokevirtual 293, 3) := by decide +kernel
theorem dX12_could_134 : decode cX12_could 134 = .ok (.ifCond .eq 24, 3) := by decide +kernel
theorem dX12_could_137 : decode cX12_could 137 = .ok (.iload_n 2, 1) := by decide +kernel
theorem dX12_could_138 : decode cX12_could 138 = .ok (.iconst 1, 1) := by decide +kernel
theorem dX12_could_139 : decode cX12_could 139 = .ok (.iload 5, 2) := by decide +kernel
theorem dX12_could_141 : decode cX12_could 141 = .ok (.ishl, 1) := by decide +kernel
theorem dX12_could_142 : decode cX12_could 142 = .ok (.ior, 1) := by decide +kernel
theorem dX12_could_143 : decode cX12_could 143 = .ok (.istore_n 2, 1) := by decide +kernel
theorem dX12_could_144 : decode cX12_could 144 = .ok (.aload_n 0, 1) := by decide +kernel
theorem dX12_could_145 : decode cX12_could 145 = .ok (.getfield 66, 3) := by decide +kernel
theorem dX12_could_148 : decode cX12_could 148 = .ok (.aload_n 0, 1) := by decide +kernel
theorem dX12_could_149 : decode cX12_could 149 = .ok (.iload 4, 2) := by decide +kernel
theorem dX12_could_151 : decode cX12_could 151 = .ok (.iload 5, 2) := by decide +kernel
theorem dX12_could_153 : decode cX12_could 153 = .ok (.invokevirtual 233, 3) := by decide +kernel
theorem dX12_could_156 : decode cX12_could 156 = .ok (.iconst 1, 1) := by decide +kernel
theorem dX12_could_157 : decode cX12_could 157 = .ok (.bastore, 1) := by decide +kernel
theorem dX12_could_158 : decode cX12_could 158 = .ok (.iinc 5 1, 3) := by decide +kernel
theorem dX12_could_161 : decode cX12_could 161 = .ok (.goto (-55), 3) := by decide +kernel
theorem dX12_could_164 : decode cX12_could 164 = .ok (.iinc 4 1, 3) := by decide +kernel
theorem dX12_could_167 : decode cX12_could 167 = .ok (.goto (-71), 3) := by decide +kernel
theorem dX12_could_170 : decode cX12_could 170 = .ok (.iconst 0, 1) := by decide +kernel
theorem dX12_could_171 : decode cX12_could 171 = .ok (.istore 4, 2) := by decide +kernel
theorem dX12_could_173 : decode cX12_could 173 = .ok (.iload 4, 2) := by decide +kernel
theorem dX12_could_175 : decode cX12_could 175 = .ok (.bipush 49, 2) := by decide +kernel
theorem dX12_could_177 : decode cX12_could 177 = .ok (.if_icmp .ge 23, 3) := by decide +kernel
theorem dX12_could_180 : decode cX12_could 180 = .ok (.aload_n 0, 1) := by decide +kernel
theorem dX12_could_181 : decode cX12_could 181 = .ok (.getfield 63, 3) := by decide +kernel
theorem dX12_could_184 : decode cX12_could 184 = .ok (.iload 4, 2) := by decide +kernel
theorem dX12_could_186 : decode cX12_could 186 = .ok (.aload_n 0, 1) := by decide +kernel
theorem dX12_could_187 : decode cX12_could 187 = .ok (.getfield 66, 3) := by decide +kernel
theorem dX12_could_190 : decode cX12_could 190 = .ok (.iload 4, 2) := by decide +kernel
theorem dX12_could_192 : decode cX12_could 192 = .ok (.baload, 1) := by decide +kernel
theorem dX12_could_193 : decode cX12_could 193 = .ok (.bastore, 1) := by decide +kernel
theorem dX12_could_194 : decode cX12_could 194 = .ok (.iinc 4 1, 3) := by decide +kernel
theorem dX12_could_197 : decode cX12_could 197 = .ok (.goto (-24), 3) := by decide +kernel
theorem dX12_could_200 : decode cX12_could 200 = .ok (.iinc 3 1, 3) := by decide +kernel
theorem dX12_could_203 : decode cX12_could 203 = .ok (.goto (-141), 3) := by decide +kernel
theorem dX12_could_206 : decode cX12_could 206 = .ok (.iload_n 2, 1) := by decide +kernel
theorem dX12_could_207 : decode cX12_could 207 = .ok (.ireturn, 1) := by decide +kernel
set_option maxRecDepth 20000 in
theorem ggX12_blind_X12_in : GoodIn wsX12_blind wsX12_in := goodIn_r _ [7] (by decide +kernel) (by decide +kernel)
set_option maxRecDepth 20000 in
theorem gX12_blind_X12_in : GoodIn wsX12_blind (va_wsS RX12 115 yX12_in wsX12_in) := goodIn_app (goodIn_of _ (by decide +kernel)) ggX12_blind_X12_in
set_option maxRecDepth 20000 in
theorem ggX12_blind_X12_isTold : GoodIn wsX12_blind wsX12_isTold := goodIn_r _ [10, 4, 5, 6, 7] (by decide +kernel) (by decide +kernel)
set_option maxRecDepth 20000 in
theorem gX12_blind_X12_isTold : GoodIn wsX12_blind (va_wsS RX12 238 yX12_isTold wsX12_isTold) := goodIn_app (goodIn_of _ (by decide +kernel)) ggX12_blind_X12_isTold
set_option maxRecDepth 20000 in
theorem ggX12_blind_X12_power : GoodIn wsX12_blind wsX12_power := goodIn_r _ [14] (by decide +kernel) (by decide +kernel)
set_option maxRecDepth 20000 in
theorem gX12_blind_X12_power : GoodIn wsX12_blind (wsV RX12 252 RX12 yX12_power wsX12_power) := goodIn_app (goodIn_of _ (by decide +kernel)) ggX12_blind_X12_power
set_option maxRecDepth 20000 in
theorem ggX12_blind_X12_lowest : GoodIn wsX12_blind wsX12_lowest := goodIn_r _ [17, 18, 19, 6, 20] (by decide +kernel) (by decide +kernel)
set_option maxRecDepth 20000 in
theorem gX12_blind_X12_lowest : GoodIn wsX12_blind (va_wsS RX12 256 yX12_lowest wsX12_lowest) := goodIn_app (goodIn_of _ (by decide +kernel)) ggX12_blind_X12_lowest
theorem dX12_blind_0 : decode cX12_blind 0 = .ok (.iload_n 2, 1) := by decide +kernel
theorem dX12_blind_1 : decode cX12_blind 1 = .ok (.i2l, 1) := by decide +kernel
theorem dX12_blind_2 : decode cX12_blind 2 = .ok (.lconst 1, 1) := by decide +kernel
theorem dX12_blind_3 : decode cX12_blind 3 = .ok (.ldc2_w 296, 3) := by decide +kernel
theorem dX12_blind_6 : decode cX12_blind 6 = .ok (.invokestatic 115, 3) := by decide +kernel
theorem dX12_blind_9 : decode cX12_blind 9 = .ok (.ifCond .eq 21, 3) := by decide +kernel
theorem dX12_blind_12 : decode cX12_blind 12 = .ok (.iload_n 1, 1) := by decide +kernel
theorem dX12_blind_13 : decode cX12_blind 13 = .ok (.i2l, 1) := by decide +kernel
theorem dX12_blind_14 : decode cX12_blind 14 = .ok (.lconst 0, 1) := by decide +kernel
theorem dX12_blind_15 : decode cX12_blind 15 = .ok (.iload_n 2, 1) := by decide +kernel
theorem dX12_blind_16 : decode cX12_blind 16 = .ok (.i2l, 1) := by decide +kernel
theorem dX12_blind_17 : decode cX12_blind 17 = .ok (.invokestatic 115, 3) := by decide +kernel
theorem dX12_blind_20 : decode cX12_blind 20 = .ok (.ifCond .eq 10, 3) := by decide +kernel
theorem dX12_blind_23 : decode cX12_blind 23 = .ok (.iload_n 3, 1) := by decide +kernel
theorem dX12_blind_24 : decode cX12_blind 24 = .ok (.invokestatic 238, 3) := by decide +kernel
theorem dX12_blind_27 : decode cX12_blind 27 = .ok (.ifCond .ne 7, 3) := by decide +kernel
theorem dX12_blind_30 : decode cX12_blind 30 = .ok (.ldc2_w 241, 3) := by decide +kernel
theorem dX12_blind_33 : decode cX12_blind 33 = .ok (.lreturn, 1) := by decide +kernel
theorem dX12_blind_34 : decode cX12_blind 34 = .ok (.lconst 0, 1) := by decide +kernel
theorem dX12_blind_35 : decode cX12_blind 35 = .ok (.lstore 4, 2) := by decide +kernel
theorem dX12_blind_37 : decode cX12_blind 37 = .ok (.lconst 1, 1) := by decide +kernel
theorem dX12_blind_38 : decode cX12_blind 38 = .ok (.lstore 6, 2) := by decide +kernel
theorem dX12_blind_40 : decode cX12_blind 40 = .ok (.iconst 0, 1) := by decide +kernel
theorem dX12_blind_41 : decode cX12_blind 41 = .ok (.istore 8, 2) := by decide +kernel
theorem dX12_blind_43 : decode cX12_blind 43 = .ok (.iload 8, 2) := by decide +kernel
theorem dX12_blind_45 : decode cX12_blind 45 = .ok (.iload_n 2, 1) := by decide +kernel
theorem dX12_blind_46 : decode cX12_blind 46 = .ok (.if_icmp .gt 58, 3) := by decide +kernel
theorem dX12_blind_49 : decode cX12_blind 49 = .ok (.lload 4, 2) := by decide +kernel
theorem dX12_blind_51 : decode cX12_blind 51 = .ok (.iload 8, 2) := by decide +kernel
theorem dX12_blind_53 : decode cX12_blind 53 = .ok (.iload_n 1, 1) := by decide +kernel
theorem dX12_blind_54 : decode cX12_blind 54 = .ok (.if_icmp .lt 24, 3) := by decide +kernel
theorem dX12_blind_57 : decode cX12_blind 57 = .ok (.lload 6, 2) := by decide +kernel
theorem dX12_blind_59 : decode cX12_blind 59 = .ok (.aload_n 0, 1) := by decide +kernel
theorem dX12_blind_60 : decode cX12_blind 60 = .ok (.aload_n 0, 1) := by decide +kernel
theorem dX12_blind_61 : decode cX12_blind 61 = .ok (.getfield 100, 3) := by decide +kernel
theorem dX12_blind_64 : decode cX12_blind 64 = .ok (.i2l, 1) := by decide +kernel
theorem dX12_blind_65 : decode cX12_blind 65 = .ok (.lconst 1, 1) := by decide +kernel
theorem dX12_blind_66 : decode cX12_blind 66 = .ok (.lsub, 1) := by decide +kernel
theorem dX12_blind_67 : decode cX12_blind 67 = .ok (.iload_n 2, 1) := by decide +kernel
theorem dX12_blind_68 : decode cX12_blind 68 = .ok (.iload 8, 2) := by decide +kernel
theorem dX12_blind_70 : decode cX12_blind 70 = .ok (.isub, 1) := by decide +kernel
theorem dX12_blind_71 : decode cX12_blind 71 = .ok (.invokevirtual 252, 3) := by decide +kernel
theorem dX12_blind_74 : decode cX12_blind 74 = .ok (.lmul, 1) := by decide +kernel
theorem dX12_blind_75 : decode cX12_blind 75 = .ok (.goto 4, 3) := by decide +kernel
theorem dX12_blind_78 : decode cX12_blind 78 = .ok (.lconst 0, 1) := by decide +kernel
theorem dX12_blind_79 : decode cX12_blind 79 = .ok (.ladd, 1) := by decide +kernel
theorem dX12_blind_80 : decode cX12_blind 80 = .ok (.lstore 4, 2) := by decide +kernel
theorem dX12_blind_82 : decode cX12_blind 82 = .ok (.lload 6, 2) := by decide +kernel
theorem dX12_blind_84 : decode cX12_blind 84 = .ok (.iload_n 2, 1) := by decide +kernel
theorem dX12_blind_85 : decode cX12_blind 85 = .ok (.iload 8, 2) := by decide +kernel
theorem dX12_blind_87 : decode cX12_blind 87 = .ok (.isub, 1) := by decide +kernel
theorem dX12_blind_88 : decode cX12_blind 88 = .ok (.i2l, 1) := by decide +kernel
theorem dX12_blind_89 : decode cX12_blind 89 = .ok (.lmul, 1) := by decide +kernel
theorem dX12_blind_90 : decode cX12_blind 90 = .ok (.iload 8, 2) := by decide +kernel
theorem dX12_blind_92 : decode cX12_blind 92 = .ok (.iconst 1, 1) := by decide +kernel
theorem dX12_blind_93 : decode cX12_blind 93 = .ok (.iadd, 1) := by decide +kernel
theorem dX12_blind_94 : decode cX12_blind 94 = .ok (.i2l, 1) := by decide +kernel
theorem dX12_blind_95 : decode cX12_blind 95 = .ok (.ldiv, 1) := by decide +kernel
theorem dX12_blind_96 : decode cX12_blind 96 = .ok (.lstore 6, 2) := by decide +kernel
theorem dX12_blind_98 : decode cX12_blind 98 = .ok (.iinc 8 1, 3) := by decide +kernel
theorem dX12_blind_101 : decode cX12_blind 101 = .ok (.goto (-58), 3) := by decide +kernel
theorem dX12_blind_104 : decode cX12_blind 104 = .ok (.lload 4, 2) := by decide +kernel
theorem dX12_blind_106 : decode cX12_blind 106 = .ok (.aload_n 0, 1) := by decide +kernel
theorem dX12_blind_107 : decode cX12_blind 107 = .ok (.aload_n 0, 1) := by decide +kernel
theorem dX12_blind_108 : decode cX12_blind 108 = .ok (.getfield 100, 3) := by decide +kernel
theorem dX12_blind_111 : decode cX12_blind 111 = .ok (.i2l, 1) := by decide +kernel
theorem dX12_blind_112 : decode cX12_blind 112 = .ok (.iload_n 2, 1) := by decide +kernel
theorem dX12_blind_113 : decode cX12_blind 113 = .ok (.invokevirtual 252, 3) := by decide +kernel
theorem dX12_blind_116 : decode cX12_blind 116 = .ok (.iload_n 3, 1) := by decide +kernel
theorem dX12_blind_117 : decode cX12_blind 117 = .ok (.invokestatic 256, 3) := by decide +kernel
theorem dX12_blind_120 : decode cX12_blind 120 = .ok (.lreturn, 1) := by decide +kernel
theorem dX12_copies_0 : decode cX12_copies 0 = .ok (.iconst 0, 1) := by decide +kernel
theorem dX12_copies_1 : decode cX12_copies 1 = .ok (.istore_n 3, 1) := by decide +kernel
theorem dX12_copies_2 : decode cX12_copies 2 = .ok (.iload_n 3, 1) := by decide +kernel
theorem dX12_copies_3 : decode cX12_copies 3 = .ok (.bipush 38, 2) := by decide +kernel
theorem dX12_copies_5 : decode cX12_copies 5 = .ok (.if_icmp .ge 25, 3) := by decide +kernel
theorem dX12_copies_8 : decode cX12_copies 8 = .ok (.aload_n 0, 1) := by decide +kernel
theorem dX12_copies_9 : decode cX12_copies 9 = .ok (.getfield 7, 3) := by decide +kernel
theorem dX12_copies_12 : decode cX12_copies 12 = .ok (.iload_n 1, 1) := by decide +kernel
theorem dX12_copies_13 : decode cX12_copies 13 = .ok (.iload_n 3, 1) := by decide +kernel
theorem dX12_copies_14 : decode cX12_copies 14 = .ok (.iadd, 1) := by decide +kernel
theorem dX12_copies_15 : decode cX12_copies 15 = .ok (.aload_n 0, 1) := by decide +kernel
theorem dX12_copies_16 : decode cX12_copies 16 = .ok (.getfield 7, 3) := by decide +kernel
theorem dX12_copies_19 : decode cX12_copies 19 = .ok (.iload_n 2, 1) := by decide +kernel
theorem dX12_copies_20 : decode cX12_copies 20 = .ok (.iload_n 3, 1) := by decide +kernel
theorem dX12_copies_21 : decode cX12_copies 21 = .ok (.iadd, 1) := by decide +kernel
theorem dX12_copies_22 : decode cX12_copies 22 = .ok (.iaload, 1) := by decide +kernel
theorem dX12_copies_23 : decode cX12_copies 23 = .ok (.iastore, 1) := by decide +kernel
theorem dX12_copies_24 : decode cX12_copies 24 = .ok (.iinc 3 1, 3) := by decide +kernel
theorem dX12_copies_27 : decode cX12_copies 27 = .ok (.goto (-25), 3) := by decide +kernel
theorem dX12_copies_30 : decode cX12_copies 30 = .ok (.return_, 1) := by decide +kernel
set_option maxRecDepth 20000 in
theorem ggX12_unlikeBy_X12_copies : GoodIn wsX12_unlikeBy wsX12_copies := goodIn_r _ [8, 2, 27, 28, 29, 30, 31, 32, 33, 34, 35, 36, 37, 38, 39, 40, 41, 42, 43, 44, 45, 46, 47, 48, 49, 50, 51, 52, 53, 54, 55, 56, 57, 58, 59, 60, 61, 62, 63] (by decide +kernel) (by decide +kernel)
set_option maxRecDepth 20000 in
theorem gX12_unlikeBy_X12_copies : GoodIn wsX12_unlikeBy (wsV RX12 298 RX12 yX12_copies wsX12_copies) := goodIn_app (goodIn_of _ (by decide +kernel)) ggX12_unlikeBy_X12_copies
set_option maxRecDepth 20000 in
theorem ggX12_unlikeBy_X12_goesDay : GoodIn wsX12_unlikeBy wsX12_goesDay := goodIn_r _ [12, 2, 1, 13, 14, 15, 16, 17, 18, 7, 19, 20, 21, 22, 23, 24, 25, 26, 27, 28, 29, 30, 31, 32, 33, 34, 35, 36, 37, 38, 39, 40, 41, 42, 43, 44, 45, 46, 47, 48, 49, 50, 51, 52, 53, 54, 55, 56, 57, 58, 59, 60, 61, 62, 63] (by decide +kernel) (by decide +kernel)
set_option maxRecDepth 20000 in
theorem gX12_unlikeBy_X12_goesDay : GoodIn wsX12_unlikeBy (wsV RX12 226 RX12 yX12_goesDay wsX12_goesDay) := goodIn_app (goodIn_of _ (by decide +kernel)) ggX12_unlikeBy_X12_goesDay
theorem dX12_unlikeBy_0 : decode cX12_unlikeBy 0 = .ok (.aload_n 0, 1) := by decide +kernel
theorem dX12_unlikeBy_1 : decode cX12_unlikeBy 1 = .ok (.bipush 114, 2) := by decide +kernel
theorem dX12_unlikeBy_3 : decode cX12_unlikeBy 3 = .ok (.iconst 0, 1) := by decide +kernel
theorem dX12_unlikeBy_4 : decode cX12_unlikeBy 4 = .ok (.invokevirtual 298, 3) := by decide +kernel
theorem dX12_unlikeBy_7 : decode cX12_unlikeBy 7 = .ok (.iconst 0, 1) := by decide +kernel
theorem dX12_unlikeBy_8 : decode cX12_unlikeBy 8 = .ok (.istore_n 3, 1) := by decide +kernel
theorem dX12_unlikeBy_9 : decode cX12_unlikeBy 9 = .ok (.iload_n 3, 1) := by decide +kernel
theorem dX12_unlikeBy_10 : decode cX12_unlikeBy 10 = .ok (.aload_n 0, 1) := by decide +kernel
theorem dX12_unlikeBy_11 : decode cX12_unlikeBy 11 = .ok (.getfield 100, 3) := by decide +kernel
theorem dX12_unlikeBy_14 : decode cX12_unlikeBy 14 = .ok (.if_icmp .ge 19, 3) := by decide +kernel
theorem dX12_unlikeBy_17 : decode cX12_unlikeBy 17 = .ok (.aload_n 0, 1) := by decide +kernel
theorem dX12_unlikeBy_18 : decode cX12_unlikeBy 18 = .ok (.getfield 7, 3) := by decide +kernel
theorem dX12_unlikeBy_21 : decode cX12_unlikeBy 21 = .ok (.bipush 23, 2) := by decide +kernel
theorem dX12_unlikeBy_23 : decode cX12_unlikeBy 23 = .ok (.iload_n 3, 1) := by decide +kernel
theorem dX12_unlikeBy_24 : decode cX12_unlikeBy 24 = .ok (.iadd, 1) := by decide +kernel
theorem dX12_unlikeBy_25 : decode cX12_unlikeBy 25 = .ok (.iconst 0, 1) := by decide +kernel
theorem dX12_unlikeBy_26 : decode cX12_unlikeBy 26 = .ok (.iastore, 1) := by decide +kernel
theorem dX12_unlikeBy_27 : decode cX12_unlikeBy 27 = .ok (.iinc 3 1, 3) := by decide +kernel
theorem dX12_unlikeBy_30 : decode cX12_unlikeBy 30 = .ok (.goto (-21), 3) := by decide +kernel
theorem dX12_unlikeBy_33 : decode cX12_unlikeBy 33 = .ok (.iconst 1, 1) := by decide +kernel
theorem dX12_unlikeBy_34 : decode cX12_unlikeBy 34 = .ok (.istore_n 3, 1) := by decide +kernel
theorem dX12_unlikeBy_35 : decode cX12_unlikeBy 35 = .ok (.iconst 1, 1) := by decide +kernel
theorem dX12_unlikeBy_36 : decode cX12_unlikeBy 36 = .ok (.istore 4, 2) := by decide +kernel
theorem dX12_unlikeBy_38 : decode cX12_unlikeBy 38 = .ok (.iload 4, 2) := by decide +kernel
theorem dX12_unlikeBy_40 : decode cX12_unlikeBy 40 = .ok (.iload_n 2, 1) := by decide +kernel
theorem dX12_unlikeBy_41 : decode cX12_unlikeBy 41 = .ok (.if_icmp .ge 16, 3) := by decide +kernel
theorem dX12_unlikeBy_44 : decode cX12_unlikeBy 44 = .ok (.iload_n 3, 1) := by decide +kernel
theorem dX12_unlikeBy_45 : decode cX12_unlikeBy 45 = .ok (.aload_n 0, 1) := by decide +kernel
theorem dX12_unlikeBy_46 : decode cX12_unlikeBy 46 = .ok (.getfield 103, 3) := by decide +kernel
theorem dX12_unlikeBy_49 : decode cX12_unlikeBy 49 = .ok (.imul, 1) := by decide +kernel
theorem dX12_unlikeBy_50 : decode cX12_unlikeBy 50 = .ok (.istore_n 3, 1) := by decide +kernel
theorem dX12_unlikeBy_51 : decode cX12_unlikeBy 51 = .ok (.iinc 4 1, 3) := by decide +kernel
theorem dX12_unlikeBy_54 : decode cX12_unlikeBy 54 = .ok (.goto (-16), 3) := by decide +kernel
theorem dX12_unlikeBy_57 : decode cX12_unlikeBy 57 = .ok (.iconst 0, 1) := by decide +kernel
theorem dX12_unlikeBy_58 : decode cX12_unlikeBy 58 = .ok (.istore 4, 2) := by decide +kernel
theorem dX12_unlikeBy_60 : decode cX12_unlikeBy 60 = .ok (.iload 4, 2) := by decide +kernel
theorem dX12_unlikeBy_62 : decode cX12_unlikeBy 62 = .ok (.iload_n 2, 1) := by decide +kernel
theorem dX12_unlikeBy_63 : decode cX12_unlikeBy 63 = .ok (.if_icmp .ge 37, 3) := by decide +kernel
theorem dX12_unlikeBy_66 : decode cX12_unlikeBy 66 = .ok (.aload_n 0, 1) := by decide +kernel
theorem dX12_unlikeBy_67 : decode cX12_unlikeBy 67 = .ok (.iload_n 1, 1) := by decide +kernel
theorem dX12_unlikeBy_68 : decode cX12_unlikeBy 68 = .ok (.iload_n 3, 1) := by decide +kernel
theorem dX12_unlikeBy_69 : decode cX12_unlikeBy 69 = .ok (.idiv, 1) := by decide +kernel
theorem dX12_unlikeBy_70 : decode cX12_unlikeBy 70 = .ok (.aload_n 0, 1) := by decide +kernel
theorem dX12_unlikeBy_71 : decode cX12_unlikeBy 71 = .ok (.getfield 103, 3) := by decide +kernel
theorem dX12_unlikeBy_74 : decode cX12_unlikeBy 74 = .ok (.irem, 1) := by decide +kernel
theorem dX12_unlikeBy_75 : decode cX12_unlikeBy 75 = .ok (.invokevirtual 226, 3) := by decide +kernel
theorem dX12_unlikeBy_78 : decode cX12_unlikeBy 78 = .ok (.iload_n 3, 1) := by decide +kernel
theorem dX12_unlikeBy_79 : decode cX12_unlikeBy 79 = .ok (.iconst 1, 1) := by decide +kernel
theorem dX12_unlikeBy_80 : decode cX12_unlikeBy 80 = .ok (.if_icmp .le 12, 3) := by decide +kernel
theorem dX12_unlikeBy_83 : decode cX12_unlikeBy 83 = .ok (.iload_n 3, 1) := by decide +kernel
theorem dX12_unlikeBy_84 : decode cX12_unlikeBy 84 = .ok (.aload_n 0, 1) := by decide +kernel
theorem dX12_unlikeBy_85 : decode cX12_unlikeBy 85 = .ok (.getfield 103, 3) := by decide +kernel
theorem dX12_unlikeBy_88 : decode cX12_unlikeBy 88 = .ok (.idiv, 1) := by decide +kernel
theorem dX12_unlikeBy_89 : decode cX12_unlikeBy 89 = .ok (.goto 4, 3) := by decide +kernel
theorem dX12_unlikeBy_92 : decode cX12_unlikeBy 92 = .ok (.iconst 1, 1) := by decide +kernel
theorem dX12_unlikeBy_93 : decode cX12_unlikeBy 93 = .ok (.istore_n 3, 1) := by decide +kernel
theorem dX12_unlikeBy_94 : decode cX12_unlikeBy 94 = .ok (.iinc 4 1, 3) := by decide +kernel
theorem dX12_unlikeBy_97 : decode cX12_unlikeBy 97 = .ok (.goto (-37), 3) := by decide +kernel
theorem dX12_unlikeBy_100 : decode cX12_unlikeBy 100 = .ok (.aload_n 0, 1) := by decide +kernel
theorem dX12_unlikeBy_101 : decode cX12_unlikeBy 101 = .ok (.getfield 7, 3) := by decide +kernel
theorem dX12_unlikeBy_104 : decode cX12_unlikeBy 104 = .ok (.bipush 23, 2) := by decide +kernel
theorem dX12_unlikeBy_106 : decode cX12_unlikeBy 106 = .ok (.iaload, 1) := by decide +kernel
theorem dX12_unlikeBy_107 : decode cX12_unlikeBy 107 = .ok (.istore 4, 2) := by decide +kernel
theorem dX12_unlikeBy_109 : decode cX12_unlikeBy 109 = .ok (.aload_n 0, 1) := by decide +kernel
theorem dX12_unlikeBy_110 : decode cX12_unlikeBy 110 = .ok (.getfield 7, 3) := by decide +kernel
theorem dX12_unlikeBy_113 : decode cX12_unlikeBy 113 = .ok (.bipush 23, 2) := by decide +kernel
theorem dX12_unlikeBy_115 : decode cX12_unlikeBy 115 = .ok (.iaload, 1) := by decide +kernel
theorem dX12_unlikeBy_116 : decode cX12_unlikeBy 116 = .ok (.istore 5, 2) := by decide +kernel
theorem dX12_unlikeBy_118 : decode cX12_unlikeBy 118 = .ok (.iconst 1, 1) := by decide +kernel
theorem dX12_unlikeBy_119 : decode cX12_unlikeBy 119 = .ok (.istore 6, 2) := by decide +kernel
theorem dX12_unlikeBy_121 : decode cX12_unlikeBy 121 = .ok (.iload 6, 2) := by decide +kernel
theorem dX12_unlikeBy_123 : decode cX12_unlikeBy 123 = .ok (.aload_n 0, 1) := by decide +kernel
theorem dX12_unlikeBy_124 : decode cX12_unlikeBy 124 = .ok (.getfield 100, 3) := by decide +kernel
theorem dX12_unlikeBy_127 : decode cX12_unlikeBy 127 = .ok (.if_icmp .ge 73, 3) := by decide +kernel
theorem dX12_unlikeBy_130 : decode cX12_unlikeBy 130 = .ok (.aload_n 0, 1) := by decide +kernel
theorem dX12_unlikeBy_131 : decode cX12_unlikeBy 131 = .ok (.getfield 7, 3) := by decide +kernel
theorem dX12_unlikeBy_134 : decode cX12_unlikeBy 134 = .ok (.bipush 23, 2) := by decide +kernel
theorem dX12_unlikeBy_136 : decode cX12_unlikeBy 136 = .ok (.iload 6, 2) := by decide +kernel
theorem dX12_unlikeBy_138 : decode cX12_unlikeBy 138 = .ok (.iadd, 1) := by decide +kernel
theorem dX12_unlikeBy_139 : decode cX12_unlikeBy 139 = .ok (.iaload, 1) := by decide +kernel
theorem dX12_unlikeBy_140 : decode cX12_unlikeBy 140 = .ok (.iload 4, 2) := by decide +kernel
theorem dX12_unlikeBy_142 : decode cX12_unlikeBy 142 = .ok (.if_icmp .le 16, 3) := by decide +kernel
theorem dX12_unlikeBy_145 : decode cX12_unlikeBy 145 = .ok (.aload_n 0, 1) := by decide +kernel
theorem dX12_unlikeBy_146 : decode cX12_unlikeBy 146 = .ok (.getfield 7, 3) := by decide +kernel
theorem dX12_unlikeBy_149 : decode cX12_unlikeBy 149 = .ok (.bipush 23, 2) := by decide +kernel
theorem dX12_unlikeBy_151 : decode cX12_unlikeBy 151 = .ok (.iload 6, 2) := by decide +kernel
theorem dX12_unlikeBy_153 : decode cX12_unlikeBy 153 = .ok (.iadd, 1) := by decide +kernel
theorem dX12_unlikeBy_154 : decode cX12_unlikeBy 154 = .ok (.iaload, 1) := by decide +kernel
theorem dX12_unlikeBy_155 : decode cX12_unlikeBy 155 = .ok (.goto 5, 3) := by decide +kernel
theorem dX12_unlikeBy_158 : decode cX12_unlikeBy 158 = .ok (.iload 4, 2) := by decide +kernel
theorem dX12_unlikeBy_160 : decode cX12_unlikeBy 160 = .ok (.istore 4, 2) := by decide +kernel
theorem dX12_unlikeBy_162 : decode cX12_unlikeBy 162 = .ok (.aload_n 0, 1) := by decide +kernel
theorem dX12_unlikeBy_163 : decode cX12_unlikeBy 163 = .ok (.getfield 7, 3) := by decide +kernel
theorem dX12_unlikeBy_166 : decode cX12_unlikeBy 166 = .ok (.bipush 23, 2) := by decide +kernel
theorem dX12_unlikeBy_168 : decode cX12_unlikeBy 168 = .ok (.iload 6, 2) := by decide +kernel
theorem dX12_unlikeBy_170 : decode cX12_unlikeBy 170 = .ok (.iadd, 1) := by decide +kernel
theorem dX12_unlikeBy_171 : decode cX12_unlikeBy 171 = .ok (.iaload, 1) := by decide +kernel
theorem dX12_unlikeBy_172 : decode cX12_unlikeBy 172 = .ok (.iload 5, 2) := by decide +kernel
theorem dX12_unlikeBy_174 : decode cX12_unlikeBy 174 = .ok (.if_icmp .ge 16, 3) := by decide +kernel
theorem dX12_unlikeBy_177 : decode cX12_unlikeBy 177 = .ok (.aload_n 0, 1) := by decide +kernel
theorem dX12_unlikeBy_178 : decode cX12_unlikeBy 178 = .ok (.getfield 7, 3) := by decide +kernel
theorem dX12_unlikeBy_181 : decode cX12_unlikeBy 181 = .ok (.bipush 23, 2) := by decide +kernel
theorem dX12_unlikeBy_183 : decode cX12_unlikeBy 183 = .ok (.iload 6, 2) := by decide +kernel
theorem dX12_unlikeBy_185 : decode cX12_unlikeBy 185 = .ok (.iadd, 1) := by decide +kernel
theorem dX12_unlikeBy_186 : decode cX12_unlikeBy 186 = .ok (.iaload, 1) := by decide +kernel
theorem dX12_unlikeBy_187 : decode cX12_unlikeBy 187 = .ok (.goto 5, 3) := by decide +kernel
theorem dX12_unlikeBy_190 : decode cX12_unlikeBy 190 = .ok (.iload 5, 2) := by decide +kernel
theorem dX12_unlikeBy_192 : decode cX12_unlikeBy 192 = .ok (.istore 5, 2) := by decide +kernel
theorem dX12_unlikeBy_194 : decode cX12_unlikeBy 194 = .ok (.iinc 6 1, 3) := by decide +kernel
theorem dX12_unlikeBy_197 : decode cX12_unlikeBy 197 = .ok (.goto (-76), 3) := by decide +kernel
theorem dX12_unlikeBy_200 : decode cX12_unlikeBy 200 = .ok (.aload_n 0, 1) := by decide +kernel
theorem dX12_unlikeBy_201 : decode cX12_unlikeBy 201 = .ok (.iconst 0, 1) := by decide +kernel
theorem dX12_unlikeBy_202 : decode cX12_unlikeBy 202 = .ok (.bipush 114, 2) := by decide +kernel
theorem dX12_unlikeBy_204 : decode cX12_unlikeBy 204 = .ok (.invokevirtual 298, 3) := by decide +kernel
theorem dX12_unlikeBy_207 : decode cX12_unlikeBy 207 = .ok (.iload 4, 2) := by decide +kernel
theorem dX12_unlikeBy_209 : decode cX12_unlikeBy 209 = .ok (.iload 5, 2) := by decide +kernel
theorem dX12_unlikeBy_211 : decode cX12_unlikeBy 211 = .ok (.isub, 1) := by decide +kernel
theorem dX12_unlikeBy_212 : decode cX12_unlikeBy 212 = .ok (.ireturn, 1) := by decide +kernel
set_option maxRecDepth 20000 in
theorem ggX12_fair_X12_in : GoodIn wsX12_fair wsX12_in := goodIn_r _ [10] (by decide +kernel) (by decide +kernel)
set_option maxRecDepth 20000 in
theorem gX12_fair_X12_in : GoodIn wsX12_fair (va_wsS RX12 115 yX12_in wsX12_in) := goodIn_app (goodIn_of _ (by decide +kernel)) ggX12_fair_X12_in
set_option maxRecDepth 20000 in
theorem ggX12_fair_X12_power : GoodIn wsX12_fair wsX12_power := goodIn_r _ [14] (by decide +kernel) (by decide +kernel)
set_option maxRecDepth 20000 in
theorem gX12_fair_X12_power : GoodIn wsX12_fair (wsV RX12 252 RX12 yX12_power wsX12_power) := goodIn_app (goodIn_of _ (by decide +kernel)) ggX12_fair_X12_power
set_option maxRecDepth 20000 in
theorem ggX12_fair_X12_unlikeBy : GoodIn wsX12_fair wsX12_unlikeBy := goodIn_r _ [18, 19, 20, 4, 21, 22, 23, 9, 24, 25, 26, 27, 28, 29, 30, 31, 32, 33, 34, 35, 36, 37, 38, 39, 40, 41, 42, 43, 44, 45, 46, 47, 48, 49, 50, 51, 52, 53, 54, 55, 56, 57, 58, 59, 60, 61, 62, 63, 64, 65, 66, 67, 68, 69, 70, 71, 72, 73, 74, 75, 76, 77, 78, 79] (by decide +kernel) (by decide +kernel)
set_option maxRecDepth 20000 in
theorem gX12_fair_X12_unlikeBy : GoodIn wsX12_fair (wsV RX12 303 RX12 yX12_unlikeBy wsX12_unlikeBy) := goodIn_app (goodIn_of _ (by decide +kernel)) ggX12_fair_X12_unlikeBy
theorem dX12_fair_0 : decode cX12_fair 0 = .ok (.iload_n 1, 1) := by decide +kernel
theorem dX12_fair_1 : decode cX12_fair 1 = .ok (.i2l, 1) := by decide +kernel
theorem dX12_fair_2 : decode cX12_fair 2 = .ok (.lconst 1, 1) := by decide +kernel
theorem dX12_fair_3 : decode cX12_fair 3 = .ok (.ldc2_w 193, 3) := by decide +kernel
theorem dX12_fair_6 : decode cX12_fair 6 = .ok (.invokestatic 115, 3) := by decide +kernel
theorem dX12_fair_9 : decode cX12_fair 9 = .ok (.ifCond .eq 21, 3) := by decide +kernel
theorem dX12_fair_12 : decode cX12_fair 12 = .ok (.iload_n 2, 1) := by decide +kernel
theorem dX12_fair_13 : decode cX12_fair 13 = .ok (.ifCond .eq 19, 3) := by decide +kernel
theorem dX12_fair_16 : decode cX12_fair 16 = .ok (.iload_n 2, 1) := by decide +kernel
theorem dX12_fair_17 : decode cX12_fair 17 = .ok (.i2l, 1) := by decide +kernel
theorem dX12_fair_18 : decode cX12_fair 18 = .ok (.ldc2_w 236, 3) := by decide +kernel
theorem dX12_fair_21 : decode cX12_fair 21 = .ok (.ldc2_w 301, 3) := by decide +kernel
theorem dX12_fair_24 : decode cX12_fair 24 = .ok (.invokestatic 115, 3) := by decide +kernel
theorem dX12_fair_27 : decode cX12_fair 27 = .ok (.ifCond .ne 5, 3) := by decide +kernel
theorem dX12_fair_30 : decode cX12_fair 30 = .ok (.iconst (-1), 1) := by decide +kernel
theorem dX12_fair_31 : decode cX12_fair 31 = .ok (.ireturn, 1) := by decide +kernel
theorem dX12_fair_32 : decode cX12_fair 32 = .ok (.aload_n 0, 1) := by decide +kernel
theorem dX12_fair_33 : decode cX12_fair 33 = .ok (.getfield 103, 3) := by decide +kernel
theorem dX12_fair_36 : decode cX12_fair 36 = .ok (.ifCond .ne 6, 3) := by decide +kernel
theorem dX12_fair_39 : decode cX12_fair 39 = .ok (.bipush (-2), 2) := by decide +kernel
theorem dX12_fair_41 : decode cX12_fair 41 = .ok (.ireturn, 1) := by decide +kernel
theorem dX12_fair_42 : decode cX12_fair 42 = .ok (.iload_n 2, 1) := by decide +kernel
theorem dX12_fair_43 : decode cX12_fair 43 = .ok (.bipush 10, 2) := by decide +kernel
theorem dX12_fair_45 : decode cX12_fair 45 = .ok (.isub, 1) := by decide +kernel
theorem dX12_fair_46 : decode cX12_fair 46 = .ok (.iload_n 1, 1) := by decide +kernel
theorem dX12_fair_47 : decode cX12_fair 47 = .ok (.if_icmp .lt 6, 3) := by decide +kernel
theorem dX12_fair_50 : decode cX12_fair 50 = .ok (.bipush (-4), 2) := by decide +kernel
theorem dX12_fair_52 : decode cX12_fair 52 = .ok (.ireturn, 1) := by decide +kernel
theorem dX12_fair_53 : decode cX12_fair 53 = .ok (.aload_n 0, 1) := by decide +kernel
theorem dX12_fair_54 : decode cX12_fair 54 = .ok (.aload_n 0, 1) := by decide +kernel
theorem dX12_fair_55 : decode cX12_fair 55 = .ok (.getfield 103, 3) := by decide +kernel
theorem dX12_fair_58 : decode cX12_fair 58 = .ok (.i2l, 1) := by decide +kernel
theorem dX12_fair_59 : decode cX12_fair 59 = .ok (.iload_n 1, 1) := by decide +kernel
theorem dX12_fair_60 : decode cX12_fair 60 = .ok (.invokevirtual 252, 3) := by decide +kernel
theorem dX12_fair_63 : decode cX12_fair 63 = .ok (.l2i, 1) := by decide +kernel
theorem dX12_fair_64 : decode cX12_fair 64 = .ok (.istore_n 3, 1) := by decide +kernel
theorem dX12_fair_65 : decode cX12_fair 65 = .ok (.iconst 0, 1) := by decide +kernel
theorem dX12_fair_66 : decode cX12_fair 66 = .ok (.istore 4, 2) := by decide +kernel
theorem dX12_fair_68 : decode cX12_fair 68 = .ok (.ldc_w 271, 3) := by decide +kernel
theorem dX12_fair_71 : decode cX12_fair 71 = .ok (.istore 5, 2) := by decide +kernel
theorem dX12_fair_73 : decode cX12_fair 73 = .ok (.iconst 0, 1) := by decide +kernel
theorem dX12_fair_74 : decode cX12_fair 74 = .ok (.istore 6, 2) := by decide +kernel
theorem dX12_fair_76 : decode cX12_fair 76 = .ok (.iload 6, 2) := by decide +kernel
theorem dX12_fair_78 : decode cX12_fair 78 = .ok (.iload_n 3, 1) := by decide +kernel
theorem dX12_fair_79 : decode cX12_fair 79 = .ok (.if_icmp .ge 50, 3) := by decide +kernel
theorem dX12_fair_82 : decode cX12_fair 82 = .ok (.aload_n 0, 1) := by decide +kernel
theorem dX12_fair_83 : decode cX12_fair 83 = .ok (.iload 6, 2) := by decide +kernel
theorem dX12_fair_85 : decode cX12_fair 85 = .ok (.iload_n 1, 1) := by decide +kernel
theorem dX12_fair_86 : decode cX12_fair 86 = .ok (.invokevirtual 303, 3) := by decide +kernel
theorem dX12_fair_89 : decode cX12_fair 89 = .ok (.istore 7, 2) := by decide +kernel
theorem dX12_fair_91 : decode cX12_fair 91 = .ok (.iload 7, 2) := by decide +kernel
theorem dX12_fair_93 : decode cX12_fair 93 = .ok (.iload 5, 2) := by decide +kernel
theorem dX12_fair_95 : decode cX12_fair 95 = .ok (.if_icmp .ge 8, 3) := by decide +kernel
theorem dX12_fair_98 : decode cX12_fair 98 = .ok (.iload 6, 2) := by decide +kernel
theorem dX12_fair_100 : decode cX12_fair 100 = .ok (.goto 5, 3) := by decide +kernel
theorem dX12_fair_103 : decode cX12_fair 103 = .ok (.iload 4, 2) := by decide +kernel
theorem dX12_fair_105 : decode cX12_fair 105 = .ok (.istore 4, 2) := by decide +kernel
theorem dX12_fair_107 : decode cX12_fair 107 = .ok (.iload 7, 2) := by decide +kernel
theorem dX12_fair_109 : decode cX12_fair 109 = .ok (.iload 5, 2) := by decide +kernel
theorem dX12_fair_111 : decode cX12_fair 111 = .ok (.if_icmp .ge 8, 3) := by decide +kernel
theorem dX12_fair_114 : decode cX12_fair 114 = .ok (.iload 7, 2) := by decide +kernel
theorem dX12_fair_116 : decode cX12_fair 116 = .ok (.goto 5, 3) := by decide +kernel
theorem dX12_fair_119 : decode cX12_fair 119 = .ok (.iload 5, 2) := by decide +kernel
theorem dX12_fair_121 : decode cX12_fair 121 = .ok (.istore 5, 2) := by decide +kernel
theorem dX12_fair_123 : decode cX12_fair 123 = .ok (.iinc 6 1, 3) := by decide +kernel
theorem dX12_fair_126 : decode cX12_fair 126 = .ok (.goto (-50), 3) := by decide +kernel
theorem dX12_fair_129 : decode cX12_fair 129 = .ok (.iload_n 1, 1) := by decide +kernel
theorem dX12_fair_130 : decode cX12_fair 130 = .ok (.iconst 1, 1) := by decide +kernel
theorem dX12_fair_131 : decode cX12_fair 131 = .ok (.isub, 1) := by decide +kernel
theorem dX12_fair_132 : decode cX12_fair 132 = .ok (.istore 6, 2) := by decide +kernel
theorem dX12_fair_134 : decode cX12_fair 134 = .ok (.iload 6, 2) := by decide +kernel
theorem dX12_fair_136 : decode cX12_fair 136 = .ok (.ifCond .lt 32, 3) := by decide +kernel
theorem dX12_fair_139 : decode cX12_fair 139 = .ok (.aload_n 0, 1) := by decide +kernel
theorem dX12_fair_140 : decode cX12_fair 140 = .ok (.getfield 69, 3) := by decide +kernel
theorem dX12_fair_143 : decode cX12_fair 143 = .ok (.iload 6, 2) := by decide +kernel
theorem dX12_fair_145 : decode cX12_fair 145 = .ok (.iload 4, 2) := by decide +kernel
theorem dX12_fair_147 : decode cX12_fair 147 = .ok (.aload_n 0, 1) := by decide +kernel
theorem dX12_fair_148 : decode cX12_fair 148 = .ok (.getfield 103, 3) := by decide +kernel
theorem dX12_fair_151 : decode cX12_fair 151 = .ok (.irem, 1) := by decide +kernel
theorem dX12_fair_152 : decode cX12_fair 152 = .ok (.iastore, 1) := by decide +kernel
theorem dX12_fair_153 : decode cX12_fair 153 = .ok (.iload 4, 2) := by decide +kernel
theorem dX12_fair_155 : decode cX12_fair 155 = .ok (.aload_n 0, 1) := by decide +kernel
theorem dX12_fair_156 : decode cX12_fair 156 = .ok (.getfield 103, 3) := by decide +kernel
theorem dX12_fair_159 : decode cX12_fair 159 = .ok (.idiv, 1) := by decide +kernel
theorem dX12_fair_160 : decode cX12_fair 160 = .ok (.istore 4, 2) := by decide +kernel
theorem dX12_fair_162 : decode cX12_fair 162 = .ok (.iinc 6 (-1), 3) := by decide +kernel
theorem dX12_fair_165 : decode cX12_fair 165 = .ok (.goto (-31), 3) := by decide +kernel
theorem dX12_fair_168 : decode cX12_fair 168 = .ok (.iload_n 2, 1) := by decide +kernel
theorem dX12_fair_169 : decode cX12_fair 169 = .ok (.ifCond .ne 8, 3) := by decide +kernel
theorem dX12_fair_172 : decode cX12_fair 172 = .ok (.iload 5, 2) := by decide +kernel
theorem dX12_fair_174 : decode cX12_fair 174 = .ok (.goto 12, 3) := by decide +kernel
theorem dX12_fair_177 : decode cX12_fair 177 = .ok (.aload_n 0, 1) := by decide +kernel
theorem dX12_fair_178 : decode cX12_fair 178 = .ok (.getfield 69, 3) := by decide +kernel
theorem dX12_fair_181 : decode cX12_fair 181 = .ok (.iload_n 2, 1) := by decide +kernel
theorem dX12_fair_182 : decode cX12_fair 182 = .ok (.bipush 10, 2) := by decide +kernel
theorem dX12_fair_184 : decode cX12_fair 184 = .ok (.isub, 1) := by decide +kernel
theorem dX12_fair_185 : decode cX12_fair 185 = .ok (.iaload, 1) := by decide +kernel
theorem dX12_fair_186 : decode cX12_fair 186 = .ok (.ireturn, 1) := by decide +kernel
set_option maxRecDepth 20000 in
theorem ggX12_keep_X12_in : GoodIn wsX12_keep wsX12_in := goodIn_r _ [5] (by decide +kernel) (by decide +kernel)
set_option maxRecDepth 20000 in
theorem gX12_keep_X12_in : GoodIn wsX12_keep (va_wsS RX12 115 yX12_in wsX12_in) := goodIn_app (goodIn_of _ (by decide +kernel)) ggX12_keep_X12_in
set_option maxRecDepth 20000 in
theorem ggX12_keep_X12_flag : GoodIn wsX12_keep wsX12_flag := goodIn_r _ [8] (by decide +kernel) (by decide +kernel)
set_option maxRecDepth 20000 in
theorem gX12_keep_X12_flag : GoodIn wsX12_keep (va_wsS RX12 212 yX12_flag wsX12_flag) := goodIn_app (goodIn_of _ (by decide +kernel)) ggX12_keep_X12_flag
set_option maxRecDepth 20000 in
theorem ggX12_keep_X12_copies : GoodIn wsX12_keep wsX12_copies := goodIn_r _ [12, 13, 14, 15, 16, 17, 18, 19, 20, 21, 22, 23, 24, 25, 26, 27, 28, 29, 30, 31, 32, 33, 34, 35, 36, 37, 38, 39, 40, 41, 42, 43, 44, 45, 46, 47, 48, 49, 50] (by decide +kernel) (by decide +kernel)
set_option maxRecDepth 20000 in
theorem gX12_keep_X12_copies : GoodIn wsX12_keep (wsV RX12 298 RX12 yX12_copies wsX12_copies) := goodIn_app (goodIn_of _ (by decide +kernel)) ggX12_keep_X12_copies
theorem dX12_keep_0 : decode cX12_keep 0 = .ok (.iload_n 1, 1) := by decide +kernel
theorem dX12_keep_1 : decode cX12_keep 1 = .ok (.i2l, 1) := by decide +kernel
theorem dX12_keep_2 : decode cX12_keep 2 = .ok (.lconst 0, 1) := by decide +kernel
theorem dX12_keep_3 : decode cX12_keep 3 = .ok (.lconst 1, 1) := by decide +kernel
theorem dX12_keep_4 : decode cX12_keep 4 = .ok (.invokestatic 115, 3) := by decide +kernel
theorem dX12_keep_7 : decode cX12_keep 7 = .ok (.ifCond .ne 5, 3) := by decide +kernel
theorem dX12_keep_10 : decode cX12_keep 10 = .ok (.iconst (-1), 1) := by decide +kernel
theorem dX12_keep_11 : decode cX12_keep 11 = .ok (.ireturn, 1) := by decide +kernel
theorem dX12_keep_12 : decode cX12_keep 12 = .ok (.aload_n 0, 1) := by decide +kernel
theorem dX12_keep_13 : decode cX12_keep 13 = .ok (.getfield 13, 3) := by decide +kernel
theorem dX12_keep_16 : decode cX12_keep 16 = .ok (.iload_n 1, 1) := by decide +kernel
theorem dX12_keep_17 : decode cX12_keep 17 = .ok (.baload, 1) := by decide +kernel
theorem dX12_keep_18 : decode cX12_keep 18 = .ok (.invokestatic 212, 3) := by decide +kernel
theorem dX12_keep_21 : decode cX12_keep 21 = .ok (.istore_n 2, 1) := by decide +kernel
theorem dX12_keep_22 : decode cX12_keep 22 = .ok (.aload_n 0, 1) := by decide +kernel
theorem dX12_keep_23 : decode cX12_keep 23 = .ok (.getfield 13, 3) := by decide +kernel
theorem dX12_keep_26 : decode cX12_keep 26 = .ok (.iload_n 1, 1) := by decide +kernel
theorem dX12_keep_27 : decode cX12_keep 27 = .ok (.iconst 1, 1) := by decide +kernel
theorem dX12_keep_28 : decode cX12_keep 28 = .ok (.bastore, 1) := by decide +kernel
theorem dX12_keep_29 : decode cX12_keep 29 = .ok (.aload_n 0, 1) := by decide +kernel
theorem dX12_keep_30 : decode cX12_keep 30 = .ok (.bipush 38, 2) := by decide +kernel
theorem dX12_keep_32 : decode cX12_keep 32 = .ok (.iload_n 1, 1) := by decide +kernel
theorem dX12_keep_33 : decode cX12_keep 33 = .ok (.iconst 1, 1) := by decide +kernel
theorem dX12_keep_34 : decode cX12_keep 34 = .ok (.iadd, 1) := by decide +kernel
theorem dX12_keep_35 : decode cX12_keep 35 = .ok (.imul, 1) := by decide +kernel
theorem dX12_keep_36 : decode cX12_keep 36 = .ok (.iconst 0, 1) := by decide +kernel
theorem dX12_keep_37 : decode cX12_keep 37 = .ok (.invokevirtual 298, 3) := by decide +kernel
theorem dX12_keep_40 : decode cX12_keep 40 = .ok (.iload_n 2, 1) := by decide +kernel
theorem dX12_keep_41 : decode cX12_keep 41 = .ok (.ireturn, 1) := by decide +kernel
set_option maxRecDepth 20000 in
theorem ggX12_back_X12_in : GoodIn wsX12_back wsX12_in := goodIn_r _ [6] (by decide +kernel) (by decide +kernel)
set_option maxRecDepth 20000 in
theorem gX12_back_X12_in : GoodIn wsX12_back (va_wsS RX12 115 yX12_in wsX12_in) := goodIn_app (goodIn_of _ (by decide +kernel)) ggX12_back_X12_in
set_option maxRecDepth 20000 in
theorem ggX12_back_X12_copies : GoodIn wsX12_back wsX12_copies := goodIn_r _ [10, 2, 11, 12, 13, 14, 15, 16, 17, 18, 19, 20, 21, 22, 23, 24, 25, 26, 27, 28, 29, 30, 31, 32, 33, 34, 35, 36, 37, 38, 39, 40, 41, 42, 43, 44, 45, 46, 47] (by decide +kernel) (by decide +kernel)
set_option maxRecDepth 20000 in
theorem gX12_back_X12_copies : GoodIn wsX12_back (wsV RX12 298 RX12 yX12_copies wsX12_copies) := goodIn_app (goodIn_of _ (by decide +kernel)) ggX12_back_X12_copies
theorem dX12_back_0 : decode cX12_back 0 = .ok (.iload_n 1, 1) := by decide +kernel
theorem dX12_back_1 : decode cX12_back 1 = .ok (.i2l, 1) := by decide +kernel
theorem dX12_back_2 : decode cX12_back 2 = .ok (.lconst 0, 1) := by decide +kernel
theorem dX12_back_3 : decode cX12_back 3 = .ok (.lconst 1, 1) := by decide +kernel
theorem dX12_back_4 : decode cX12_back 4 = .ok (.invokestatic 115, 3) := by decide +kernel
theorem dX12_back_7 : decode cX12_back 7 = .ok (.ifCond .ne 5, 3) := by decide +kernel
theorem dX12_back_10 : decode cX12_back 10 = .ok (.iconst (-1), 1) := by decide +kernel
theorem dX12_back_11 : decode cX12_back 11 = .ok (.ireturn, 1) := by decide +kernel
theorem dX12_back_12 : decode cX12_back 12 = .ok (.aload_n 0, 1) := by decide +kernel
theorem dX12_back_13 : decode cX12_back 13 = .ok (.getfield 13, 3) := by decide +kernel
theorem dX12_back_16 : decode cX12_back 16 = .ok (.iload_n 1, 1) := by decide +kernel
theorem dX12_back_17 : decode cX12_back 17 = .ok (.baload, 1) := by decide +kernel
theorem dX12_back_18 : decode cX12_back 18 = .ok (.ifCond .ne 6, 3) := by decide +kernel
theorem dX12_back_21 : decode cX12_back 21 = .ok (.bipush (-2), 2) := by decide +kernel
theorem dX12_back_23 : decode cX12_back 23 = .ok (.ireturn, 1) := by decide +kernel
theorem dX12_back_24 : decode cX12_back 24 = .ok (.aload_n 0, 1) := by decide +kernel
theorem dX12_back_25 : decode cX12_back 25 = .ok (.iconst 0, 1) := by decide +kernel
theorem dX12_back_26 : decode cX12_back 26 = .ok (.bipush 38, 2) := by decide +kernel
theorem dX12_back_28 : decode cX12_back 28 = .ok (.iload_n 1, 1) := by decide +kernel
theorem dX12_back_29 : decode cX12_back 29 = .ok (.iconst 1, 1) := by decide +kernel
theorem dX12_back_30 : decode cX12_back 30 = .ok (.iadd, 1) := by decide +kernel
theorem dX12_back_31 : decode cX12_back 31 = .ok (.imul, 1) := by decide +kernel
theorem dX12_back_32 : decode cX12_back 32 = .ok (.invokevirtual 298, 3) := by decide +kernel
theorem dX12_back_35 : decode cX12_back 35 = .ok (.aload_n 0, 1) := by decide +kernel
theorem dX12_back_36 : decode cX12_back 36 = .ok (.getfield 7, 3) := by decide +kernel
theorem dX12_back_39 : decode cX12_back 39 = .ok (.bipush 8, 2) := by decide +kernel
theorem dX12_back_41 : decode cX12_back 41 = .ok (.iaload, 1) := by decide +kernel
theorem dX12_back_42 : decode cX12_back 42 = .ok (.ireturn, 1) := by decide +kernel
set_option maxRecDepth 20000 in
theorem ggX12_isSheet_X12_in : GoodIn wsX12_isSheet wsX12_in := goodIn_r _ [6] (by decide +kernel) (by decide +kernel)
set_option maxRecDepth 20000 in
theorem gX12_isSheet_X12_in : GoodIn wsX12_isSheet (va_wsS RX12 115 yX12_in wsX12_in) := goodIn_app (goodIn_of _ (by decide +kernel)) ggX12_isSheet_X12_in
theorem dX12_isSheet_0 : decode cX12_isSheet 0 = .ok (.iload_n 0, 1) := by decide +kernel
theorem dX12_isSheet_1 : decode cX12_isSheet 1 = .ok (.i2l, 1) := by decide +kernel
theorem dX12_isSheet_2 : decode cX12_isSheet 2 = .ok (.lconst 0, 1) := by decide +kernel
theorem dX12_isSheet_3 : decode cX12_isSheet 3 = .ok (.ldc2_w 306, 3) := by decide +kernel
theorem dX12_isSheet_6 : decode cX12_isSheet 6 = .ok (.invokestatic 115, 3) := by decide +kernel
theorem dX12_isSheet_9 : decode cX12_isSheet 9 = .ok (.ifCond .eq 19, 3) := by decide +kernel
theorem dX12_isSheet_12 : decode cX12_isSheet 12 = .ok (.iload_n 1, 1) := by decide +kernel
theorem dX12_isSheet_13 : decode cX12_isSheet 13 = .ok (.i2l, 1) := by decide +kernel
theorem dX12_isSheet_14 : decode cX12_isSheet 14 = .ok (.lconst 0, 1) := by decide +kernel
theorem dX12_isSheet_15 : decode cX12_isSheet 15 = .ok (.ldc2_w 308, 3) := by decide +kernel
theorem dX12_isSheet_18 : decode cX12_isSheet 18 = .ok (.invokestatic 115, 3) := by decide +kernel
theorem dX12_isSheet_21 : decode cX12_isSheet 21 = .ok (.ifCond .eq 7, 3) := by decide +kernel
theorem dX12_isSheet_24 : decode cX12_isSheet 24 = .ok (.iconst 1, 1) := by decide +kernel
theorem dX12_isSheet_25 : decode cX12_isSheet 25 = .ok (.goto 4, 3) := by decide +kernel
theorem dX12_isSheet_28 : decode cX12_isSheet 28 = .ok (.iconst 0, 1) := by decide +kernel
theorem dX12_isSheet_29 : decode cX12_isSheet 29 = .ok (.ireturn, 1) := by decide +kernel
set_option maxRecDepth 20000 in
theorem ggX12_sheet_X12_isSheet : GoodIn wsX12_sheet wsX12_isSheet := goodIn_r _ [7, 8, 9, 10, 11, 6, 12] (by decide +kernel) (by decide +kernel)
set_option maxRecDepth 20000 in
theorem gX12_sheet_X12_isSheet : GoodIn wsX12_sheet (va_wsS RX12 310 yX12_isSheet wsX12_isSheet) := goodIn_app (goodIn_of _ (by decide +kernel)) ggX12_sheet_X12_isSheet
theorem dX12_sheet_0 : decode cX12_sheet 0 = .ok (.iload_n 1, 1) := by decide +kernel
theorem dX12_sheet_1 : decode cX12_sheet 1 = .ok (.iload_n 2, 1) := by decide +kernel
theorem dX12_sheet_2 : decode cX12_sheet 2 = .ok (.invokestatic 310, 3) := by decide +kernel
theorem dX12_sheet_5 : decode cX12_sheet 5 = .ok (.ifCond .eq 9, 3) := by decide +kernel
theorem dX12_sheet_8 : decode cX12_sheet 8 = .ok (.iload_n 3, 1) := by decide +kernel
theorem dX12_sheet_9 : decode cX12_sheet 9 = .ok (.bipush 40, 2) := by decide +kernel
theorem dX12_sheet_11 : decode cX12_sheet 11 = .ok (.if_icmp .le 5, 3) := by decide +kernel
theorem dX12_sheet_14 : decode cX12_sheet 14 = .ok (.iconst (-1), 1) := by decide +kernel
theorem dX12_sheet_15 : decode cX12_sheet 15 = .ok (.ireturn, 1) := by decide +kernel
theorem dX12_sheet_16 : decode cX12_sheet 16 = .ok (.iload_n 3, 1) := by decide +kernel
theorem dX12_sheet_17 : decode cX12_sheet 17 = .ok (.ifCond .ge 6, 3) := by decide +kernel
theorem dX12_sheet_20 : decode cX12_sheet 20 = .ok (.bipush (-14), 2) := by decide +kernel
theorem dX12_sheet_22 : decode cX12_sheet 22 = .ok (.ireturn, 1) := by decide +kernel
theorem dX12_sheet_23 : decode cX12_sheet 23 = .ok (.aload_n 0, 1) := by decide +kernel
theorem dX12_sheet_24 : decode cX12_sheet 24 = .ok (.getfield 72, 3) := by decide +kernel
theorem dX12_sheet_27 : decode cX12_sheet 27 = .ok (.iload_n 1, 1) := by decide +kernel
theorem dX12_sheet_28 : decode cX12_sheet 28 = .ok (.iload_n 2, 1) := by decide +kernel
theorem dX12_sheet_29 : decode cX12_sheet 29 = .ok (.iastore, 1) := by decide +kernel
theorem dX12_sheet_30 : decode cX12_sheet 30 = .ok (.aload_n 0, 1) := by decide +kernel
theorem dX12_sheet_31 : decode cX12_sheet 31 = .ok (.getfield 75, 3) := by decide +kernel
theorem dX12_sheet_34 : decode cX12_sheet 34 = .ok (.iload_n 1, 1) := by decide +kernel
theorem dX12_sheet_35 : decode cX12_sheet 35 = .ok (.iload_n 3, 1) := by decide +kernel
theorem dX12_sheet_36 : decode cX12_sheet 36 = .ok (.iastore, 1) := by decide +kernel
theorem dX12_sheet_37 : decode cX12_sheet 37 = .ok (.iconst 0, 1) := by decide +kernel
theorem dX12_sheet_38 : decode cX12_sheet 38 = .ok (.istore 4, 2) := by decide +kernel
theorem dX12_sheet_40 : decode cX12_sheet 40 = .ok (.iload 4, 2) := by decide +kernel
theorem dX12_sheet_42 : decode cX12_sheet 42 = .ok (.bipush 40, 2) := by decide +kernel
theorem dX12_sheet_44 : decode cX12_sheet 44 = .ok (.if_icmp .ge 22, 3) := by decide +kernel
theorem dX12_sheet_47 : decode cX12_sheet 47 = .ok (.aload_n 0, 1) := by decide +kernel
theorem dX12_sheet_48 : decode cX12_sheet 48 = .ok (.getfield 78, 3) := by decide +kernel
theorem dX12_sheet_51 : decode cX12_sheet 51 = .ok (.bipush 40, 2) := by decide +kernel
theorem dX12_sheet_53 : decode cX12_sheet 53 = .ok (.iload_n 1, 1) := by decide +kernel
theorem dX12_sheet_54 : decode cX12_sheet 54 = .ok (.imul, 1) := by decide +kernel
theorem dX12_sheet_55 : decode cX12_sheet 55 = .ok (.iload 4, 2) := by decide +kernel
theorem dX12_sheet_57 : decode cX12_sheet 57 = .ok (.iadd, 1) := by decide +kernel
theorem dX12_sheet_58 : decode cX12_sheet 58 = .ok (.iconst 0, 1) := by decide +kernel
theorem dX12_sheet_59 : decode cX12_sheet 59 = .ok (.iastore, 1) := by decide +kernel
theorem dX12_sheet_60 : decode cX12_sheet 60 = .ok (.iinc 4 1, 3) := by decide +kernel
theorem dX12_sheet_63 : decode cX12_sheet 63 = .ok (.goto (-23), 3) := by decide +kernel
theorem dX12_sheet_66 : decode cX12_sheet 66 = .ok (.iconst 1, 1) := by decide +kernel
theorem dX12_sheet_67 : decode cX12_sheet 67 = .ok (.ireturn, 1) := by decide +kernel
set_option maxRecDepth 20000 in
theorem ggX12_lay_X12_isSheet : GoodIn wsX12_lay wsX12_isSheet := goodIn_r _ [7, 8, 9, 10, 11, 6, 12] (by decide +kernel) (by decide +kernel)
set_option maxRecDepth 20000 in
theorem gX12_lay_X12_isSheet : GoodIn wsX12_lay (va_wsS RX12 310 yX12_isSheet wsX12_isSheet) := goodIn_app (goodIn_of _ (by decide +kernel)) ggX12_lay_X12_isSheet
set_option maxRecDepth 20000 in
theorem ggX12_lay_X12_in : GoodIn wsX12_lay wsX12_in := goodIn_r _ [12] (by decide +kernel) (by decide +kernel)
set_option maxRecDepth 20000 in
theorem gX12_lay_X12_in : GoodIn wsX12_lay (va_wsS RX12 115 yX12_in wsX12_in) := goodIn_app (goodIn_of _ (by decide +kernel)) ggX12_lay_X12_in
theorem dX12_lay_0 : decode cX12_lay 0 = .ok (.iload_n 1, 1) := by decide +kernel
theorem dX12_lay_1 : decode cX12_lay 1 = .ok (.iconst 0, 1) := by decide +kernel
theorem dX12_lay_2 : decode cX12_lay 2 = .ok (.invokestatic 310, 3) := by decide +kernel
theorem dX12_lay_5 : decode cX12_lay 5 = .ok (.ifCond .ne 5, 3) := by decide +kernel
theorem dX12_lay_8 : decode cX12_lay 8 = .ok (.iconst (-1), 1) := by decide +kernel
theorem dX12_lay_9 : decode cX12_lay 9 = .ok (.ireturn, 1) := by decide +kernel
theorem dX12_lay_10 : decode cX12_lay 10 = .ok (.aload_n 0, 1) := by decide +kernel
theorem dX12_lay_11 : decode cX12_lay 11 = .ok (.getfield 72, 3) := by decide +kernel
theorem dX12_lay_14 : decode cX12_lay 14 = .ok (.iload_n 1, 1) := by decide +kernel
theorem dX12_lay_15 : decode cX12_lay 15 = .ok (.iaload, 1) := by decide +kernel
theorem dX12_lay_16 : decode cX12_lay 16 = .ok (.bipush (-4), 2) := by decide +kernel
theorem dX12_lay_18 : decode cX12_lay 18 = .ok (.if_icmp .ne 6, 3) := by decide +kernel
theorem dX12_lay_21 : decode cX12_lay 21 = .ok (.bipush (-11), 2) := by decide +kernel
theorem dX12_lay_23 : decode cX12_lay 23 = .ok (.ireturn, 1) := by decide +kernel
theorem dX12_lay_24 : decode cX12_lay 24 = .ok (.iload_n 2, 1) := by decide +kernel
theorem dX12_lay_25 : decode cX12_lay 25 = .ok (.i2l, 1) := by decide +kernel
theorem dX12_lay_26 : decode cX12_lay 26 = .ok (.lconst 0, 1) := by decide +kernel
theorem dX12_lay_27 : decode cX12_lay 27 = .ok (.aload_n 0, 1) := by decide +kernel
theorem dX12_lay_28 : decode cX12_lay 28 = .ok (.getfield 75, 3) := by decide +kernel
theorem dX12_lay_31 : decode cX12_lay 31 = .ok (.iload_n 1, 1) := by decide +kernel
theorem dX12_lay_32 : decode cX12_lay 32 = .ok (.iaload, 1) := by decide +kernel
theorem dX12_lay_33 : decode cX12_lay 33 = .ok (.iconst 1, 1) := by decide +kernel
theorem dX12_lay_34 : decode cX12_lay 34 = .ok (.isub, 1) := by decide +kernel
theorem dX12_lay_35 : decode cX12_lay 35 = .ok (.i2l, 1) := by decide +kernel
theorem dX12_lay_36 : decode cX12_lay 36 = .ok (.invokestatic 115, 3) := by decide +kernel
theorem dX12_lay_39 : decode cX12_lay 39 = .ok (.ifCond .ne 6, 3) := by decide +kernel
theorem dX12_lay_42 : decode cX12_lay 42 = .ok (.bipush (-12), 2) := by decide +kernel
theorem dX12_lay_44 : decode cX12_lay 44 = .ok (.ireturn, 1) := by decide +kernel
theorem dX12_lay_45 : decode cX12_lay 45 = .ok (.aload_n 0, 1) := by decide +kernel
theorem dX12_lay_46 : decode cX12_lay 46 = .ok (.getfield 78, 3) := by decide +kernel
theorem dX12_lay_49 : decode cX12_lay 49 = .ok (.bipush 40, 2) := by decide +kernel
theorem dX12_lay_51 : decode cX12_lay 51 = .ok (.iload_n 1, 1) := by decide +kernel
theorem dX12_lay_52 : decode cX12_lay 52 = .ok (.imul, 1) := by decide +kernel
theorem dX12_lay_53 : decode cX12_lay 53 = .ok (.iload_n 2, 1) := by decide +kernel
theorem dX12_lay_54 : decode cX12_lay 54 = .ok (.iadd, 1) := by decide +kernel
theorem dX12_lay_55 : decode cX12_lay 55 = .ok (.aload_n 0, 1) := by decide +kernel
theorem dX12_lay_56 : decode cX12_lay 56 = .ok (.getfield 72, 3) := by decide +kernel
theorem dX12_lay_59 : decode cX12_lay 59 = .ok (.iload_n 1, 1) := by decide +kernel
theorem dX12_lay_60 : decode cX12_lay 60 = .ok (.iaload, 1) := by decide +kernel
theorem dX12_lay_61 : decode cX12_lay 61 = .ok (.ifCond .ne 8, 3) := by decide +kernel
theorem dX12_lay_64 : decode cX12_lay 64 = .ok (.iload_n 3, 1) := by decide +kernel
theorem dX12_lay_65 : decode cX12_lay 65 = .ok (.i2b, 1) := by decide +kernel
theorem dX12_lay_66 : decode cX12_lay 66 = .ok (.goto 19, 3) := by decide +kernel
theorem dX12_lay_69 : decode cX12_lay 69 = .ok (.aload_n 0, 1) := by decide +kernel
theorem dX12_lay_70 : decode cX12_lay 70 = .ok (.getfield 72, 3) := by decide +kernel
theorem dX12_lay_73 : decode cX12_lay 73 = .ok (.iload_n 1, 1) := by decide +kernel
theorem dX12_lay_74 : decode cX12_lay 74 = .ok (.iaload, 1) := by decide +kernel
theorem dX12_lay_75 : decode cX12_lay 75 = .ok (.iconst 1, 1) := by decide +kernel
theorem dX12_lay_76 : decode cX12_lay 76 = .ok (.if_icmp .ne 8, 3) := by decide +kernel
theorem dX12_lay_79 : decode cX12_lay 79 = .ok (.iload_n 3, 1) := by decide +kernel
theorem dX12_lay_80 : decode cX12_lay 80 = .ok (.i2s, 1) := by decide +kernel
theorem dX12_lay_81 : decode cX12_lay 81 = .ok (.goto 4, 3) := by decide +kernel
theorem dX12_lay_84 : decode cX12_lay 84 = .ok (.iload_n 3, 1) := by decide +kernel
theorem dX12_lay_85 : decode cX12_lay 85 = .ok (.iastore, 1) := by decide +kernel
theorem dX12_lay_86 : decode cX12_lay 86 = .ok (.iconst 1, 1) := by decide +kernel
theorem dX12_lay_87 : decode cX12_lay 87 = .ok (.ireturn, 1) := by decide +kernel
set_option maxRecDepth 20000 in
theorem ggX12_read_X12_isSheet : GoodIn wsX12_read wsX12_isSheet := goodIn_r _ [9, 10, 11, 12, 13, 8, 14] (by decide +kernel) (by decide +kernel)
set_option maxRecDepth 20000 in
theorem gX12_read_X12_isSheet : GoodIn wsX12_read (va_wsS RX12 310 yX12_isSheet wsX12_isSheet) := goodIn_app (goodIn_of _ (by decide +kernel)) ggX12_read_X12_isSheet
set_option maxRecDepth 20000 in
theorem ggX12_read_X12_in : GoodIn wsX12_read wsX12_in := goodIn_r _ [14] (by decide +kernel) (by decide +kernel)
set_option maxRecDepth 20000 in
theorem gX12_read_X12_in : GoodIn wsX12_read (va_wsS RX12 115 yX12_in wsX12_in) := goodIn_app (goodIn_of _ (by decide +kernel)) ggX12_read_X12_in
set_option maxRecDepth 20000 in
theorem ggX12_read_X12_copies : GoodIn wsX12_read wsX12_copies := goodIn_r _ [18, 19, 48, 49, 50, 51, 52, 53, 54, 55, 56, 57, 58, 59, 60, 61, 62, 63, 64, 65, 66, 67, 68, 69, 70, 71, 72, 73, 74, 75, 76, 77, 78, 79, 80, 81, 82, 83, 84] (by decide +kernel) (by decide +kernel)
set_option maxRecDepth 20000 in
theorem gX12_read_X12_copies : GoodIn wsX12_read (wsV RX12 298 RX12 yX12_copies wsX12_copies) := goodIn_app (goodIn_of _ (by decide +kernel)) ggX12_read_X12_copies
set_option maxRecDepth 20000 in
theorem ggX12_read_X12_day : GoodIn wsX12_read wsX12_day := goodIn_r _ [23, 19, 24, 25, 26, 8, 27, 28, 12, 13, 14, 29, 30, 31, 32, 33, 34, 35, 36, 37, 38, 39, 40, 41, 42, 43, 44, 45, 46, 47, 48, 49, 50, 51, 52, 53, 54, 55, 56, 57, 58, 59, 60, 61, 62, 63, 64, 65, 66, 67, 68, 69, 70, 71, 72, 73, 74, 75, 76, 77, 78, 79, 80, 81, 82, 83, 84] (by decide +kernel) (by decide +kernel)
set_option maxRecDepth 20000 in
theorem gX12_read_X12_day : GoodIn wsX12_read (wsV RX12 316 RX12 yX12_day wsX12_day) := goodIn_app (goodIn_of _ (by decide +kernel)) ggX12_read_X12_day
theorem dX12_read_0 : decode cX12_read 0 = .ok (.iload_n 1, 1) := by decide +kernel
theorem dX12_read_1 : decode cX12_read 1 = .ok (.iload_n 2, 1) := by decide +kernel
theorem dX12_read_2 : decode cX12_read 2 = .ok (.invokestatic 310, 3) := by decide +kernel
theorem dX12_read_5 : decode cX12_read 5 = .ok (.ifCond .eq 16, 3) := by decide +kernel
theorem dX12_read_8 : decode cX12_read 8 = .ok (.iload 4, 2) := by decide +kernel
theorem dX12_read_10 : decode cX12_read 10 = .ok (.i2l, 1) := by decide +kernel
theorem dX12_read_11 : decode cX12_read 11 = .ok (.lconst 0, 1) := by decide +kernel
theorem dX12_read_12 : decode cX12_read 12 = .ok (.ldc2_w 314, 3) := by decide +kernel
theorem dX12_read_15 : decode cX12_read 15 = .ok (.invokestatic 115, 3) := by decide +kernel
theorem dX12_read_18 : decode cX12_read 18 = .ok (.ifCond .ne 5, 3) := by decide +kernel
theorem dX12_read_21 : decode cX12_read 21 = .ok (.iconst (-1), 1) := by decide +kernel
theorem dX12_read_22 : decode cX12_read 22 = .ok (.ireturn, 1) := by decide +kernel
theorem dX12_read_23 : decode cX12_read 23 = .ok (.aload_n 0, 1) := by decide +kernel
theorem dX12_read_24 : decode cX12_read 24 = .ok (.bipush 114, 2) := by decide +kernel
theorem dX12_read_26 : decode cX12_read 26 = .ok (.iconst 0, 1) := by decide +kernel
theorem dX12_read_27 : decode cX12_read 27 = .ok (.invokevirtual 298, 3) := by decide +kernel
theorem dX12_read_30 : decode cX12_read 30 = .ok (.iconst 0, 1) := by decide +kernel
theorem dX12_read_31 : decode cX12_read 31 = .ok (.istore 5, 2) := by decide +kernel
theorem dX12_read_33 : decode cX12_read 33 = .ok (.iconst 0, 1) := by decide +kernel
theorem dX12_read_34 : decode cX12_read 34 = .ok (.istore 6, 2) := by decide +kernel
theorem dX12_read_36 : decode cX12_read 36 = .ok (.iconst 0, 1) := by decide +kernel
theorem dX12_read_37 : decode cX12_read 37 = .ok (.istore 7, 2) := by decide +kernel
theorem dX12_read_39 : decode cX12_read 39 = .ok (.iload 7, 2) := by decide +kernel
theorem dX12_read_41 : decode cX12_read 41 = .ok (.iload 4, 2) := by decide +kernel
theorem dX12_read_43 : decode cX12_read 43 = .ok (.if_icmp .ge 120, 3) := by decide +kernel
theorem dX12_read_46 : decode cX12_read 46 = .ok (.iload 5, 2) := by decide +kernel
theorem dX12_read_48 : decode cX12_read 48 = .ok (.ifCond .ne 115, 3) := by decide +kernel
theorem dX12_read_51 : decode cX12_read 51 = .ok (.iload_n 3, 1) := by decide +kernel
theorem dX12_read_52 : decode cX12_read 52 = .ok (.i2l, 1) := by decide +kernel
theorem dX12_read_53 : decode cX12_read 53 = .ok (.iload 7, 2) := by decide +kernel
theorem dX12_read_55 : decode cX12_read 55 = .ok (.i2l, 1) := by decide +kernel
theorem dX12_read_56 : decode cX12_read 56 = .ok (.ladd, 1) := by decide +kernel
theorem dX12_read_57 : decode cX12_read 57 = .ok (.lstore 8, 2) := by decide +kernel
theorem dX12_read_59 : decode cX12_read 59 = .ok (.aload_n 0, 1) := by decide +kernel
theorem dX12_read_60 : decode cX12_read 60 = .ok (.getfield 72, 3) := by decide +kernel
theorem dX12_read_63 : decode cX12_read 63 = .ok (.iload_n 1, 1) := by decide +kernel
theorem dX12_read_64 : decode cX12_read 64 = .ok (.iaload, 1) := by decide +kernel
theorem dX12_read_65 : decode cX12_read 65 = .ok (.bipush (-4), 2) := by decide +kernel
theorem dX12_read_67 : decode cX12_read 67 = .ok (.if_icmp .ne 7, 3) := by decide +kernel
theorem dX12_read_70 : decode cX12_read 70 = .ok (.iconst 1, 1) := by decide +kernel
theorem dX12_read_71 : decode cX12_read 71 = .ok (.goto 42, 3) := by decide +kernel
theorem dX12_read_74 : decode cX12_read 74 = .ok (.aload_n 0, 1) := by decide +kernel
theorem dX12_read_75 : decode cX12_read 75 = .ok (.getfield 72, 3) := by decide +kernel
theorem dX12_read_78 : decode cX12_read 78 = .ok (.iload_n 1, 1) := by decide +kernel
theorem dX12_read_79 : decode cX12_read 79 = .ok (.iaload, 1) := by decide +kernel
theorem dX12_read_80 : decode cX12_read 80 = .ok (.iload_n 2, 1) := by decide +kernel
theorem dX12_read_81 : decode cX12_read 81 = .ok (.if_icmp .eq 7, 3) := by decide +kernel
theorem dX12_read_84 : decode cX12_read 84 = .ok (.iconst 3, 1) := by decide +kernel
theorem dX12_read_85 : decode cX12_read 85 = .ok (.goto 28, 3) := by decide +kernel
theorem dX12_read_88 : decode cX12_read 88 = .ok (.lload 8, 2) := by decide +kernel
theorem dX12_read_90 : decode cX12_read 90 = .ok (.lconst 0, 1) := by decide +kernel
theorem dX12_read_91 : decode cX12_read 91 = .ok (.lcmp, 1) := by decide +kernel
theorem dX12_read_92 : decode cX12_read 92 = .ok (.ifCond .lt 16, 3) := by decide +kernel
theorem dX12_read_95 : decode cX12_read 95 = .ok (.lload 8, 2) := by decide +kernel
theorem dX12_read_97 : decode cX12_read 97 = .ok (.aload_n 0, 1) := by decide +kernel
theorem dX12_read_98 : decode cX12_read 98 = .ok (.getfield 75, 3) := by decide +kernel
theorem dX12_read_101 : decode cX12_read 101 = .ok (.iload_n 1, 1) := by decide +kernel
theorem dX12_read_102 : decode cX12_read 102 = .ok (.iaload, 1) := by decide +kernel
theorem dX12_read_103 : decode cX12_read 103 = .ok (.i2l, 1) := by decide +kernel
theorem dX12_read_104 : decode cX12_read 104 = .ok (.lcmp, 1) := by decide +kernel
theorem dX12_read_105 : decode cX12_read 105 = .ok (.ifCond .lt 7, 3) := by decide +kernel
theorem dX12_read_108 : decode cX12_read 108 = .ok (.iconst 2, 1) := by decide +kernel
theorem dX12_read_109 : decode cX12_read 109 = .ok (.goto 4, 3) := by decide +kernel
theorem dX12_read_112 : decode cX12_read 112 = .ok (.iconst 0, 1) := by decide +kernel
theorem dX12_read_113 : decode cX12_read 113 = .ok (.istore 5, 2) := by decide +kernel
theorem dX12_read_115 : decode cX12_read 115 = .ok (.iload 5, 2) := by decide +kernel
theorem dX12_read_117 : decode cX12_read 117 = .ok (.ifCond .ne 40, 3) := by decide +kernel
theorem dX12_read_120 : decode cX12_read 120 = .ok (.aload_n 0, 1) := by decide +kernel
theorem dX12_read_121 : decode cX12_read 121 = .ok (.aload_n 0, 1) := by decide +kernel
theorem dX12_read_122 : decode cX12_read 122 = .ok (.getfield 78, 3) := by decide +kernel
theorem dX12_read_125 : decode cX12_read 125 = .ok (.bipush 40, 2) := by decide +kernel
theorem dX12_read_127 : decode cX12_read 127 = .ok (.iload_n 1, 1) := by decide +kernel
theorem dX12_read_128 : decode cX12_read 128 = .ok (.imul, 1) := by decide +kernel
theorem dX12_read_129 : decode cX12_read 129 = .ok (.iload_n 3, 1) := by decide +kernel
theorem dX12_read_130 : decode cX12_read 130 = .ok (.iadd, 1) := by decide +kernel
theorem dX12_read_131 : decode cX12_read 131 = .ok (.iload 7, 2) := by decide +kernel
theorem dX12_read_133 : decode cX12_read 133 = .ok (.iadd, 1) := by decide +kernel
theorem dX12_read_134 : decode cX12_read 134 = .ok (.iaload, 1) := by decide +kernel
theorem dX12_read_135 : decode cX12_read 135 = .ok (.invokevirtual 316, 3) := by decide +kernel
theorem dX12_read_138 : decode cX12_read 138 = .ok (.ifCond .ge 16, 3) := by decide +kernel
theorem dX12_read_141 : decode cX12_read 141 = .ok (.aload_n 0, 1) := by decide +kernel
theorem dX12_read_142 : decode cX12_read 142 = .ok (.iconst 0, 1) := by decide +kernel
theorem dX12_read_143 : decode cX12_read 143 = .ok (.bipush 114, 2) := by decide +kernel
theorem dX12_read_145 : decode cX12_read 145 = .ok (.invokevirtual 298, 3) := by decide +kernel
theorem dX12_read_148 : decode cX12_read 148 = .ok (.bipush (-20), 2) := by decide +kernel
theorem dX12_read_150 : decode cX12_read 150 = .ok (.iload 7, 2) := by decide +kernel
theorem dX12_read_152 : decode cX12_read 152 = .ok (.isub, 1) := by decide +kernel
theorem dX12_read_153 : decode cX12_read 153 = .ok (.ireturn, 1) := by decide +kernel
theorem dX12_read_154 : decode cX12_read 154 = .ok (.iinc 6 1, 3) := by decide +kernel
theorem dX12_read_157 : decode cX12_read 157 = .ok (.iinc 7 1, 3) := by decide +kernel
theorem dX12_read_160 : decode cX12_read 160 = .ok (.goto (-121), 3) := by decide +kernel
theorem dX12_read_163 : decode cX12_read 163 = .ok (.aload_n 0, 1) := by decide +kernel
theorem dX12_read_164 : decode cX12_read 164 = .ok (.iload 5, 2) := by decide +kernel
theorem dX12_read_166 : decode cX12_read 166 = .ok (.putfield 319, 3) := by decide +kernel
theorem dX12_read_169 : decode cX12_read 169 = .ok (.iload 6, 2) := by decide +kernel
theorem dX12_read_171 : decode cX12_read 171 = .ok (.ireturn, 1) := by decide +kernel
theorem dX12_torn_0 : decode cX12_torn 0 = .ok (.aload_n 0, 1) := by decide +kernel
theorem dX12_torn_1 : decode cX12_torn 1 = .ok (.getfield 319, 3) := by decide +kernel
theorem dX12_torn_4 : decode cX12_torn 4 = .ok (.ireturn, 1) := by decide +kernel
set_option maxRecDepth 20000 in
theorem ggX12_count_X12_flag : GoodIn wsX12_count wsX12_flag := goodIn_r _ [10] (by decide +kernel) (by decide +kernel)
set_option maxRecDepth 20000 in
theorem gX12_count_X12_flag : GoodIn wsX12_count (va_wsS RX12 212 yX12_flag wsX12_flag) := goodIn_app (goodIn_of _ (by decide +kernel)) ggX12_count_X12_flag
theorem dX12_count_0 : decode cX12_count 0 = .ok (.iconst 0, 1) := by decide +kernel
theorem dX12_count_1 : decode cX12_count 1 = .ok (.istore_n 2, 1) := by decide +kernel
theorem dX12_count_2 : decode cX12_count 2 = .ok (.iconst 0, 1) := by decide +kernel
theorem dX12_count_3 : decode cX12_count 3 = .ok (.istore_n 3, 1) := by decide +kernel
theorem dX12_count_4 : decode cX12_count 4 = .ok (.iload_n 3, 1) := by decide +kernel
theorem dX12_count_5 : decode cX12_count 5 = .ok (.aload_n 0, 1) := by decide +kernel
theorem dX12_count_6 : decode cX12_count 6 = .ok (.getfield 100, 3) := by decide +kernel
theorem dX12_count_9 : decode cX12_count 9 = .ok (.if_icmp .ge 18, 3) := by decide +kernel
theorem dX12_count_12 : decode cX12_count 12 = .ok (.iload_n 2, 1) := by decide +kernel
theorem dX12_count_13 : decode cX12_count 13 = .ok (.aload_n 0, 1) := by decide +kernel
theorem dX12_count_14 : decode cX12_count 14 = .ok (.getfield 7, 3) := by decide +kernel
theorem dX12_count_17 : decode cX12_count 17 = .ok (.iload_n 3, 1) := by decide +kernel
theorem dX12_count_18 : decode cX12_count 18 = .ok (.iaload, 1) := by decide +kernel
theorem dX12_count_19 : decode cX12_count 19 = .ok (.iadd, 1) := by decide +kernel
theorem dX12_count_20 : decode cX12_count 20 = .ok (.istore_n 2, 1) := by decide +kernel
theorem dX12_count_21 : decode cX12_count 21 = .ok (.iinc 3 1, 3) := by decide +kernel
theorem dX12_count_24 : decode cX12_count 24 = .ok (.goto (-20), 3) := by decide +kernel
theorem dX12_count_27 : decode cX12_count 27 = .ok (.iload_n 1, 1) := by decide +kernel
theorem dX12_count_28 : decode cX12_count 28 = .ok (.tableswitch 94 0 4 #[36, 44, 64, 69, 92], 36) := by decide +kernel
theorem dX12_count_64 : decode cX12_count 64 = .ok (.aload_n 0, 1) := by decide +kernel
theorem dX12_count_65 : decode cX12_count 65 = .ok (.getfield 7, 3) := by decide +kernel
theorem dX12_count_68 : decode cX12_count 68 = .ok (.bipush 31, 2) := by decide +kernel
theorem dX12_count_70 : decode cX12_count 70 = .ok (.iaload, 1) := by decide +kernel
theorem dX12_count_71 : decode cX12_count 71 = .ok (.ireturn, 1) := by decide +kernel
theorem dX12_count_72 : decode cX12_count 72 = .ok (.aload_n 0, 1) := by decide +kernel
theorem dX12_count_73 : decode cX12_count 73 = .ok (.getfield 13, 3) := by decide +kernel
theorem dX12_count_76 : decode cX12_count 76 = .ok (.iconst 0, 1) := by decide +kernel
theorem dX12_count_77 : decode cX12_count 77 = .ok (.baload, 1) := by decide +kernel
theorem dX12_count_78 : decode cX12_count 78 = .ok (.invokestatic 212, 3) := by decide +kernel
theorem dX12_count_81 : decode cX12_count 81 = .ok (.aload_n 0, 1) := by decide +kernel
theorem dX12_count_82 : decode cX12_count 82 = .ok (.getfield 13, 3) := by decide +kernel
theorem dX12_count_85 : decode cX12_count 85 = .ok (.iconst 1, 1) := by decide +kernel
theorem dX12_count_86 : decode cX12_count 86 = .ok (.baload, 1) := by decide +kernel
theorem dX12_count_87 : decode cX12_count 87 = .ok (.invokestatic 212, 3) := by decide +kernel
theorem dX12_count_90 : decode cX12_count 90 = .ok (.iadd, 1) := by decide +kernel
theorem dX12_count_91 : decode cX12_count 91 = .ok (.ireturn, 1) := by decide +kernel
theorem dX12_count_92 : decode cX12_count 92 = .ok (.aload_n 0, 1) := by decide +kernel
theorem dX12_count_93 : decode cX12_count 93 = .ok (.getfield 110, 3) := by decide +kernel
theorem dX12_count_96 : decode cX12_count 96 = .ok (.ireturn, 1) := by decide +kernel
theorem dX12_count_97 : decode cX12_count 97 = .ok (.aload_n 0, 1) := by decide +kernel
theorem dX12_count_98 : decode cX12_count 98 = .ok (.getfield 72, 3) := by decide +kernel
theorem dX12_count_101 : decode cX12_count 101 = .ok (.iconst 0, 1) := by decide +kernel
theorem dX12_count_102 : decode cX12_count 102 = .ok (.iaload, 1) := by decide +kernel
theorem dX12_count_103 : decode cX12_count 103 = .ok (.bipush (-4), 2) := by decide +kernel
theorem dX12_count_105 : decode cX12_count 105 = .ok (.if_icmp .ne 8, 3) := by decide +kernel
theorem dX12_count_108 : decode cX12_count 108 = .ok (.bipush (-4), 2) := by decide +kernel
theorem dX12_count_110 : decode cX12_count 110 = .ok (.goto 9, 3) := by decide +kernel
theorem dX12_count_113 : decode cX12_count 113 = .ok (.aload_n 0, 1) := by decide +kernel
theorem dX12_count_114 : decode cX12_count 114 = .ok (.getfield 75, 3) := by decide +kernel
theorem dX12_count_117 : decode cX12_count 117 = .ok (.iconst 0, 1) := by decide +kernel
theorem dX12_count_118 : decode cX12_count 118 = .ok (.iaload, 1) := by decide +kernel
theorem dX12_count_119 : decode cX12_count 119 = .ok (.ireturn, 1) := by decide +kernel
theorem dX12_count_120 : decode cX12_count 120 = .ok (.iload_n 2, 1) := by decide +kernel
theorem dX12_count_121 : decode cX12_count 121 = .ok (.ireturn, 1) := by decide +kernel
theorem dX12_count_122 : decode cX12_count 122 = .ok (.iconst (-1), 1) := by decide +kernel
theorem dX12_count_123 : decode cX12_count 123 = .ok (.ireturn, 1) := by decide +kernel
theorem dJ6_bitCount_0f7a4_0 : decode cJ6_bitCount_0f7a4 0 = .ok (.iload_n 0, 1) := by decide +kernel
theorem dJ6_bitCount_0f7a4_1 : decode cJ6_bitCount_0f7a4 1 = .ok (.iload_n 0, 1) := by decide +kernel
theorem dJ6_bitCount_0f7a4_2 : decode cJ6_bitCount_0f7a4 2 = .ok (.iconst 1, 1) := by decide +kernel
theorem dJ6_bitCount_0f7a4_3 : decode cJ6_bitCount_0f7a4 3 = .ok (.iushr, 1) := by decide +kernel
theorem dJ6_bitCount_0f7a4_4 : decode cJ6_bitCount_0f7a4 4 = .ok (.ldc_w 265, 3) := by decide +kernel
theorem dJ6_bitCount_0f7a4_7 : decode cJ6_bitCount_0f7a4 7 = .ok (.iand, 1) := by decide +kernel
theorem dJ6_bitCount_0f7a4_8 : decode cJ6_bitCount_0f7a4 8 = .ok (.isub, 1) := by decide +kernel
theorem dJ6_bitCount_0f7a4_9 : decode cJ6_bitCount_0f7a4 9 = .ok (.istore_n 0, 1) := by decide +kernel
theorem dJ6_bitCount_0f7a4_10 : decode cJ6_bitCount_0f7a4 10 = .ok (.iload_n 0, 1) := by decide +kernel
theorem dJ6_bitCount_0f7a4_11 : decode cJ6_bitCount_0f7a4 11 = .ok (.ldc_w 266, 3) := by decide +kernel
theorem dJ6_bitCount_0f7a4_14 : decode cJ6_bitCount_0f7a4 14 = .ok (.iand, 1) := by decide +kernel
theorem dJ6_bitCount_0f7a4_15 : decode cJ6_bitCount_0f7a4 15 = .ok (.iload_n 0, 1) := by decide +kernel
theorem dJ6_bitCount_0f7a4_16 : decode cJ6_bitCount_0f7a4 16 = .ok (.iconst 2, 1) := by decide +kernel
theorem dJ6_bitCount_0f7a4_17 : decode cJ6_bitCount_0f7a4 17 = .ok (.iushr, 1) := by decide +kernel
theorem dJ6_bitCount_0f7a4_18 : decode cJ6_bitCount_0f7a4 18 = .ok (.ldc_w 266, 3) := by decide +kernel
theorem dJ6_bitCount_0f7a4_21 : decode cJ6_bitCount_0f7a4 21 = .ok (.iand, 1) := by decide +kernel
theorem dJ6_bitCount_0f7a4_22 : decode cJ6_bitCount_0f7a4 22 = .ok (.iadd, 1) := by decide +kernel
theorem dJ6_bitCount_0f7a4_23 : decode cJ6_bitCount_0f7a4 23 = .ok (.istore_n 0, 1) := by decide +kernel
theorem dJ6_bitCount_0f7a4_24 : decode cJ6_bitCount_0f7a4 24 = .ok (.iload_n 0, 1) := by decide +kernel
theorem dJ6_bitCount_0f7a4_25 : decode cJ6_bitCount_0f7a4 25 = .ok (.iload_n 0, 1) := by decide +kernel
theorem dJ6_bitCount_0f7a4_26 : decode cJ6_bitCount_0f7a4 26 = .ok (.iconst 4, 1) := by decide +kernel
theorem dJ6_bitCount_0f7a4_27 : decode cJ6_bitCount_0f7a4 27 = .ok (.iushr, 1) := by decide +kernel
theorem dJ6_bitCount_0f7a4_28 : decode cJ6_bitCount_0f7a4 28 = .ok (.iadd, 1) := by decide +kernel
theorem dJ6_bitCount_0f7a4_29 : decode cJ6_bitCount_0f7a4 29 = .ok (.ldc_w 267, 3) := by decide +kernel
theorem dJ6_bitCount_0f7a4_32 : decode cJ6_bitCount_0f7a4 32 = .ok (.iand, 1) := by decide +kernel
theorem dJ6_bitCount_0f7a4_33 : decode cJ6_bitCount_0f7a4 33 = .ok (.istore_n 0, 1) := by decide +kernel
theorem dJ6_bitCount_0f7a4_34 : decode cJ6_bitCount_0f7a4 34 = .ok (.iload_n 0, 1) := by decide +kernel
theorem dJ6_bitCount_0f7a4_35 : decode cJ6_bitCount_0f7a4 35 = .ok (.iload_n 0, 1) := by decide +kernel
theorem dJ6_bitCount_0f7a4_36 : decode cJ6_bitCount_0f7a4 36 = .ok (.bipush 8, 2) := by decide +kernel
theorem dJ6_bitCount_0f7a4_38 : decode cJ6_bitCount_0f7a4 38 = .ok (.iushr, 1) := by decide +kernel
theorem dJ6_bitCount_0f7a4_39 : decode cJ6_bitCount_0f7a4 39 = .ok (.iadd, 1) := by decide +kernel
theorem dJ6_bitCount_0f7a4_40 : decode cJ6_bitCount_0f7a4 40 = .ok (.istore_n 0, 1) := by decide +kernel
theorem dJ6_bitCount_0f7a4_41 : decode cJ6_bitCount_0f7a4 41 = .ok (.iload_n 0, 1) := by decide +kernel
theorem dJ6_bitCount_0f7a4_42 : decode cJ6_bitCount_0f7a4 42 = .ok (.iload_n 0, 1) := by decide +kernel
theorem dJ6_bitCount_0f7a4_43 : decode cJ6_bitCount_0f7a4 43 = .ok (.bipush 16, 2) := by decide +kernel
theorem dJ6_bitCount_0f7a4_45 : decode cJ6_bitCount_0f7a4 45 = .ok (.iushr, 1) := by decide +kernel
theorem dJ6_bitCount_0f7a4_46 : decode cJ6_bitCount_0f7a4 46 = .ok (.iadd, 1) := by decide +kernel
theorem dJ6_bitCount_0f7a4_47 : decode cJ6_bitCount_0f7a4 47 = .ok (.istore_n 0, 1) := by decide +kernel
theorem dJ6_bitCount_0f7a4_48 : decode cJ6_bitCount_0f7a4 48 = .ok (.iload_n 0, 1) := by decide +kernel
theorem dJ6_bitCount_0f7a4_49 : decode cJ6_bitCount_0f7a4 49 = .ok (.bipush 63, 2) := by decide +kernel
theorem dJ6_bitCount_0f7a4_51 : decode cJ6_bitCount_0f7a4 51 = .ok (.iand, 1) := by decide +kernel
theorem dJ6_bitCount_0f7a4_52 : decode cJ6_bitCount_0f7a4 52 = .ok (.ireturn, 1) := by decide +kernel
theorem dJ9_max_7cf53_0 : decode cJ9_max_7cf53 0 = .ok (.iload_n 0, 1) := by decide +kernel
theorem dJ9_max_7cf53_1 : decode cJ9_max_7cf53 1 = .ok (.iload_n 1, 1) := by decide +kernel
theorem dJ9_max_7cf53_2 : decode cJ9_max_7cf53 2 = .ok (.if_icmp .lt 7, 3) := by decide +kernel
theorem dJ9_max_7cf53_5 : decode cJ9_max_7cf53 5 = .ok (.iload_n 0, 1) := by decide +kernel
theorem dJ9_max_7cf53_6 : decode cJ9_max_7cf53 6 = .ok (.goto 4, 3) := by decide +kernel
theorem dJ9_max_7cf53_9 : decode cJ9_max_7cf53 9 = .ok (.iload_n 1, 1) := by decide +kernel
theorem dJ9_max_7cf53_10 : decode cJ9_max_7cf53 10 = .ok (.ireturn, 1) := by decide +kernel
theorem dJ9_min_7cf53_0 : decode cJ9_min_7cf53 0 = .ok (.iload_n 0, 1) := by decide +kernel
theorem dJ9_min_7cf53_1 : decode cJ9_min_7cf53 1 = .ok (.iload_n 1, 1) := by decide +kernel
theorem dJ9_min_7cf53_2 : decode cJ9_min_7cf53 2 = .ok (.if_icmp .gt 7, 3) := by decide +kernel
theorem dJ9_min_7cf53_5 : decode cJ9_min_7cf53 5 = .ok (.iload_n 0, 1) := by decide +kernel
theorem dJ9_min_7cf53_6 : decode cJ9_min_7cf53 6 = .ok (.goto 4, 3) := by decide +kernel
theorem dJ9_min_7cf53_9 : decode cJ9_min_7cf53 9 = .ok (.iload_n 1, 1) := by decide +kernel
theorem dJ9_min_7cf53_10 : decode cJ9_min_7cf53 10 = .ok (.ireturn, 1) := by decide +kernel
set_option maxRecDepth 20000 in
theorem ggJ0_length_8abf5_J0_coder_7d493 : GoodIn wsJ0_length_8abf5 wsJ0_coder_7d493 := goodIn_r _ [6, 7, 8] (by decide +kernel) (by decide +kernel)
set_option maxRecDepth 20000 in
theorem gJ0_length_8abf5_J0_coder_7d493 : GoodIn wsJ0_length_8abf5 (wsV RJ0 335 RJ0 yJ0_coder_7d493 wsJ0_coder_7d493) := goodIn_app (goodIn_of _ (by decide +kernel)) ggJ0_length_8abf5_J0_coder_7d493
theorem dJ0_length_8abf5_0 : decode cJ0_length_8abf5 0 = .ok (.aload_n 0, 1) := by decide +kernel
theorem dJ0_length_8abf5_1 : decode cJ0_length_8abf5 1 = .ok (.getfield 9, 3) := by decide +kernel
theorem dJ0_length_8abf5_4 : decode cJ0_length_8abf5 4 = .ok (.arraylength, 1) := by decide +kernel
theorem dJ0_length_8abf5_5 : decode cJ0_length_8abf5 5 = .ok (.aload_n 0, 1) := by decide +kernel
theorem dJ0_length_8abf5_6 : decode cJ0_length_8abf5 6 = .ok (.invokevirtual 335, 3) := by decide +kernel
theorem dJ0_length_8abf5_9 : decode cJ0_length_8abf5 9 = .ok (.ishr, 1) := by decide +kernel
theorem dJ0_length_8abf5_10 : decode cJ0_length_8abf5 10 = .ok (.ireturn, 1) := by decide +kernel
set_option maxRecDepth 20000 in
theorem ggJ0_charAt_5068e_J0_isLatin1_aae02 : GoodIn wsJ0_charAt_5068e wsJ0_isLatin1_aae02 := goodIn_r _ [6, 7, 8] (by decide +kernel) (by decide +kernel)
set_option maxRecDepth 20000 in
theorem gJ0_charAt_5068e_J0_isLatin1_aae02 : GoodIn wsJ0_charAt_5068e (wsV RJ0 492 RJ0 yJ0_isLatin1_aae02 wsJ0_isLatin1_aae02) := goodIn_app (goodIn_of _ (by decide +kernel)) ggJ0_charAt_5068e_J0_isLatin1_aae02
set_option maxRecDepth 20000 in
theorem ggJ0_charAt_5068e_J1_charAt_3b067 : GoodIn wsJ0_charAt_5068e wsJ1_charAt_3b067 := goodIn_r _ [12, 13, 14, 5, 15, 16, 17, 18, 19, 20] (by decide +kernel) (by decide +kernel)
set_option maxRecDepth 20000 in
theorem gJ0_charAt_5068e_J1_charAt_3b067 : GoodIn wsJ0_charAt_5068e (va_wsS RJ0 495 yJ1_charAt_3b067 wsJ1_charAt_3b067) := goodIn_app (goodIn_of _ (by decide +kernel)) ggJ0_charAt_5068e_J1_charAt_3b067
set_option maxRecDepth 20000 in
theorem ggJ0_charAt_5068e_J2_charAt_3b067 : GoodIn wsJ0_charAt_5068e wsJ2_charAt_3b067 := goodIn_r _ [24, 25, 26, 23, 27, 28, 29, 30, 31, 14, 5, 15, 16, 17, 18, 19, 20, 32, 33, 34, 35, 36, 37] (by decide +kernel) (by decide +kernel)
set_option maxRecDepth 20000 in
theorem gJ0_charAt_5068e_J2_charAt_3b067 : GoodIn wsJ0_charAt_5068e (va_wsS RJ0 498 yJ2_charAt_3b067 wsJ2_charAt_3b067) := goodIn_app (goodIn_of _ (by decide +kernel)) ggJ0_charAt_5068e_J2_charAt_3b067
theorem dJ0_charAt_5068e_0 : decode cJ0_charAt_5068e 0 = .ok (.aload_n 0, 1) := by decide +kernel
theorem dJ0_charAt_5068e_1 : decode cJ0_charAt_5068e 1 = .ok (.invokevirtual 492, 3) := by decide +kernel
theorem dJ0_charAt_5068e_4 : decode cJ0_charAt_5068e 4 = .ok (.ifCond .eq 12, 3) := by decide +kernel
theorem dJ0_charAt_5068e_7 : decode cJ0_charAt_5068e 7 = .ok (.aload_n 0, 1) := by decide +kernel
theorem dJ0_charAt_5068e_8 : decode cJ0_charAt_5068e 8 = .ok (.getfield 9, 3) := by decide +kernel
theorem dJ0_charAt_5068e_11 : decode cJ0_charAt_5068e 11 = .ok (.iload_n 1, 1) := by decide +kernel
theorem dJ0_charAt_5068e_12 : decode cJ0_charAt_5068e 12 = .ok (.invokestatic 495, 3) := by decide +kernel
theorem dJ0_charAt_5068e_15 : decode cJ0_charAt_5068e 15 = .ok (.ireturn, 1) := by decide +kernel
theorem dJ0_charAt_5068e_16 : decode cJ0_charAt_5068e 16 = .ok (.aload_n 0, 1) := by decide +kernel
theorem dJ0_charAt_5068e_17 : decode cJ0_charAt_5068e 17 = .ok (.getfield 9, 3) := by decide +kernel
theorem dJ0_charAt_5068e_20 : decode cJ0_charAt_5068e 20 = .ok (.iload_n 1, 1) := by decide +kernel
theorem dJ0_charAt_5068e_21 : decode cJ0_charAt_5068e 21 = .ok (.invokestatic 498, 3) := by decide +kernel
theorem dJ0_charAt_5068e_24 : decode cJ0_charAt_5068e 24 = .ok (.ireturn, 1) := by decide +kernel
theorem dJ0_coder_7d493_0 : decode cJ0_coder_7d493 0 = .ok (.getstatic 38, 3) := by decide +kernel
theorem dJ0_coder_7d493_3 : decode cJ0_coder_7d493 3 = .ok (.ifCond .eq 10, 3) := by decide +kernel
theorem dJ0_coder_7d493_6 : decode cJ0_coder_7d493 6 = .ok (.aload_n 0, 1) := by decide +kernel
theorem dJ0_coder_7d493_7 : decode cJ0_coder_7d493 7 = .ok (.getfield 15, 3) := by decide +kernel
theorem dJ0_coder_7d493_10 : decode cJ0_coder_7d493 10 = .ok (.goto 4, 3) := by decide +kernel
theorem dJ0_coder_7d493_13 : decode cJ0_coder_7d493 13 = .ok (.iconst 1, 1) := by decide +kernel
theorem dJ0_coder_7d493_14 : decode cJ0_coder_7d493 14 = .ok (.ireturn, 1) := by decide +kernel
theorem dJ0_isLatin1_aae02_0 : decode cJ0_isLatin1_aae02 0 = .ok (.getstatic 38, 3) := by decide +kernel
theorem dJ0_isLatin1_aae02_3 : decode cJ0_isLatin1_aae02 3 = .ok (.ifCond .eq 14, 3) := by decide +kernel
theorem dJ0_isLatin1_aae02_6 : decode cJ0_isLatin1_aae02 6 = .ok (.aload_n 0, 1) := by decide +kernel
theorem dJ0_isLatin1_aae02_7 : decode cJ0_isLatin1_aae02 7 = .ok (.getfield 15, 3) := by decide +kernel
theorem dJ0_isLatin1_aae02_10 : decode cJ0_isLatin1_aae02 10 = .ok (.ifCond .ne 7, 3) := by decide +kernel
theorem dJ0_isLatin1_aae02_13 : decode cJ0_isLatin1_aae02 13 = .ok (.iconst 1, 1) := by decide +kernel
theorem dJ0_isLatin1_aae02_14 : decode cJ0_isLatin1_aae02 14 = .ok (.goto 4, 3) := by decide +kernel
theorem dJ0_isLatin1_aae02_17 : decode cJ0_isLatin1_aae02 17 = .ok (.iconst 0, 1) := by decide +kernel
theorem dJ0_isLatin1_aae02_18 : decode cJ0_isLatin1_aae02 18 = .ok (.ireturn, 1) := by decide +kernel
set_option maxRecDepth 20000 in
theorem ggJ0_checkIndex_df160_J3_checkIndex_8e157 : GoodIn wsJ0_checkIndex_df160 wsJ3_checkIndex_8e157 := goodIn_r _ [5] (by decide +kernel) (by decide +kernel)
set_option maxRecDepth 20000 in
theorem gJ0_checkIndex_df160_J3_checkIndex_8e157 : GoodIn wsJ0_checkIndex_df160 (va_wsS RJ0 1059 yJ3_checkIndex_8e157 wsJ3_checkIndex_8e157) := goodIn_app (goodIn_of _ (by decide +kernel)) ggJ0_checkIndex_df160_J3_checkIndex_8e157
theorem dJ0_checkIndex_df160_0 : decode cJ0_checkIndex_df160 0 = .ok (.iload_n 0, 1) := by decide +kernel
theorem dJ0_checkIndex_df160_1 : decode cJ0_checkIndex_df160 1 = .ok (.iload_n 1, 1) := by decide +kernel
theorem dJ0_checkIndex_df160_2 : decode cJ0_checkIndex_df160 2 = .ok (.getstatic 1053, 3) := by decide +kernel
theorem dJ0_checkIndex_df160_5 : decode cJ0_checkIndex_df160 5 = .ok (.invokestatic 1059, 3) := by decide +kernel
theorem dJ0_checkIndex_df160_8 : decode cJ0_checkIndex_df160 8 = .ok (.pop, 1) := by decide +kernel
theorem dJ0_checkIndex_df160_9 : decode cJ0_checkIndex_df160 9 = .ok (.return_, 1) := by decide +kernel
set_option maxRecDepth 20000 in
theorem ggJ1_charAt_3b067_J0_checkIndex_df160 : GoodIn wsJ1_charAt_3b067 wsJ0_checkIndex_df160 := goodIn_r _ [4, 5, 6, 7, 8, 9] (by decide +kernel) (by decide +kernel)
set_option maxRecDepth 20000 in
theorem gJ1_charAt_3b067_J0_checkIndex_df160 : GoodIn wsJ1_charAt_3b067 (va_wsS RJ1 9 yJ0_checkIndex_df160 wsJ0_checkIndex_df160) := goodIn_app (goodIn_of _ (by decide +kernel)) ggJ1_charAt_3b067_J0_checkIndex_df160
theorem dJ1_charAt_3b067_0 : decode cJ1_charAt_3b067 0 = .ok (.iload_n 1, 1) := by decide +kernel
theorem dJ1_charAt_3b067_1 : decode cJ1_charAt_3b067 1 = .ok (.aload_n 0, 1) := by decide +kernel
theorem dJ1_charAt_3b067_2 : decode cJ1_charAt_3b067 2 = .ok (.arraylength, 1) := by decide +kernel
theorem dJ1_charAt_3b067_3 : decode cJ1_charAt_3b067 3 = .ok (.invokestatic 9, 3) := by decide +kernel
theorem dJ1_charAt_3b067_6 : decode cJ1_charAt_3b067 6 = .ok (.aload_n 0, 1) := by decide +kernel
theorem dJ1_charAt_3b067_7 : decode cJ1_charAt_3b067 7 = .ok (.iload_n 1, 1) := by decide +kernel
theorem dJ1_charAt_3b067_8 : decode cJ1_charAt_3b067 8 = .ok (.baload, 1) := by decide +kernel
theorem dJ1_charAt_3b067_9 : decode cJ1_charAt_3b067 9 = .ok (.sipush 255, 3) := by decide +kernel
theorem dJ1_charAt_3b067_12 : decode cJ1_charAt_3b067 12 = .ok (.iand, 1) := by decide +kernel
theorem dJ1_charAt_3b067_13 : decode cJ1_charAt_3b067 13 = .ok (.i2c, 1) := by decide +kernel
theorem dJ1_charAt_3b067_14 : decode cJ1_charAt_3b067 14 = .ok (.ireturn, 1) := by decide +kernel
set_option maxRecDepth 20000 in
theorem ggJ2_getChar_3b067_J2_length_9d52b : GoodIn wsJ2_getChar_3b067 wsJ2_length_9d52b := goodIn_r _ [7] (by decide +kernel) (by decide +kernel)
set_option maxRecDepth 20000 in
theorem gJ2_getChar_3b067_J2_length_9d52b : GoodIn wsJ2_getChar_3b067 (va_wsS RJ2 48 yJ2_length_9d52b wsJ2_length_9d52b) := goodIn_app (goodIn_of _ (by decide +kernel)) ggJ2_getChar_3b067_J2_length_9d52b
theorem dJ2_getChar_3b067_0 : decode cJ2_getChar_3b067 0 = .ok (.getstatic 44, 3) := by decide +kernel
theorem dJ2_getChar_3b067_3 : decode cJ2_getChar_3b067 3 = .ok (.ifCond .ne 25, 3) := by decide +kernel
theorem dJ2_getChar_3b067_6 : decode cJ2_getChar_3b067 6 = .ok (.iload_n 1, 1) := by decide +kernel
theorem dJ2_getChar_3b067_7 : decode cJ2_getChar_3b067 7 = .ok (.ifCond .lt 11, 3) := by decide +kernel
theorem dJ2_getChar_3b067_10 : decode cJ2_getChar_3b067 10 = .ok (.iload_n 1, 1) := by decide +kernel
theorem dJ2_getChar_3b067_11 : decode cJ2_getChar_3b067 11 = .ok (.aload_n 0, 1) := by decide +kernel
theorem dJ2_getChar_3b067_12 : decode cJ2_getChar_3b067 12 = .ok (.invokestatic 48, 3) := by decide +kernel
theorem dJ2_getChar_3b067_15 : decode cJ2_getChar_3b067 15 = .ok (.if_icmp .lt 13, 3) := by decide +kernel
theorem dJ2_getChar_3b067_18 : decode cJ2_getChar_3b067 18 = .ok (.new 52, 3) := by decide +kernel
theorem dJ2_getChar_3b067_21 : decode cJ2_getChar_3b067 21 = .ok (.dup, 1) := by decide +kernel
theorem dJ2_getChar_3b067_22 : decode cJ2_getChar_3b067 22 = .ok (.ldc 54, 2) := by decide +kernel
theorem dJ2_getChar_3b067_24 : decode cJ2_getChar_3b067 24 = .ok (.invokespecial 56, 3) := by decide +kernel
theorem dJ2_getChar_3b067_27 : decode cJ2_getChar_3b067 27 = .ok (.athrow, 1) := by decide +kernel
theorem dJ2_getChar_3b067_28 : decode cJ2_getChar_3b067 28 = .ok (.iload_n 1, 1) := by decide +kernel
theorem dJ2_getChar_3b067_29 : decode cJ2_getChar_3b067 29 = .ok (.iconst 1, 1) := by decide +kernel
theorem dJ2_getChar_3b067_30 : decode cJ2_getChar_3b067 30 = .ok (.ishl, 1) := by decide +kernel
theorem dJ2_getChar_3b067_31 : decode cJ2_getChar_3b067 31 = .ok (.istore_n 1, 1) := by decide +kernel
theorem dJ2_getChar_3b067_32 : decode cJ2_getChar_3b067 32 = .ok (.aload_n 0, 1) := by decide +kernel
theorem dJ2_getChar_3b067_33 : decode cJ2_getChar_3b067 33 = .ok (.iload_n 1, 1) := by decide +kernel
theorem dJ2_getChar_3b067_34 : decode cJ2_getChar_3b067 34 = .ok (.iinc 1 1, 3) := by decide +kernel
theorem dJ2_getChar_3b067_37 : decode cJ2_getChar_3b067 37 = .ok (.baload, 1) := by decide +kernel
theorem dJ2_getChar_3b067_38 : decode cJ2_getChar_3b067 38 = .ok (.sipush 255, 3) := by decide +kernel
theorem dJ2_getChar_3b067_41 : decode cJ2_getChar_3b067 41 = .ok (.iand, 1) := by decide +kernel
theorem dJ2_getChar_3b067_42 : decode cJ2_getChar_3b067 42 = .ok (.getstatic 59, 3) := by decide +kernel
theorem dJ2_getChar_3b067_45 : decode cJ2_getChar_3b067 45 = .ok (.ishl, 1) := by decide +kernel
theorem dJ2_getChar_3b067_46 : decode cJ2_getChar_3b067 46 = .ok (.aload_n 0, 1) := by decide +kernel
theorem dJ2_getChar_3b067_47 : decode cJ2_getChar_3b067 47 = .ok (.iload_n 1, 1) := by decide +kernel
theorem dJ2_getChar_3b067_48 : decode cJ2_getChar_3b067 48 = .ok (.baload, 1) := by decide +kernel
theorem dJ2_getChar_3b067_49 : decode cJ2_getChar_3b067 49 = .ok (.sipush 255, 3) := by decide +kernel
theorem dJ2_getChar_3b067_52 : decode cJ2_getChar_3b067 52 = .ok (.iand, 1) := by decide +kernel
theorem dJ2_getChar_3b067_53 : decode cJ2_getChar_3b067 53 = .ok (.getstatic 63, 3) := by decide +kernel
theorem dJ2_getChar_3b067_56 : decode cJ2_getChar_3b067 56 = .ok (.ishl, 1) := by decide +kernel
theorem dJ2_getChar_3b067_57 : decode cJ2_getChar_3b067 57 = .ok (.ior, 1) := by decide +kernel
theorem dJ2_getChar_3b067_58 : decode cJ2_getChar_3b067 58 = .ok (.i2c, 1) := by decide +kernel
theorem dJ2_getChar_3b067_59 : decode cJ2_getChar_3b067 59 = .ok (.ireturn, 1) := by decide +kernel
theorem dJ2_length_9d52b_0 : decode cJ2_length_9d52b 0 = .ok (.aload_n 0, 1) := by decide +kernel
theorem dJ2_length_9d52b_1 : decode cJ2_length_9d52b 1 = .ok (.arraylength, 1) := by decide +kernel
theorem dJ2_length_9d52b_2 : decode cJ2_length_9d52b 2 = .ok (.iconst 1, 1) := by decide +kernel
theorem dJ2_length_9d52b_3 : decode cJ2_length_9d52b 3 = .ok (.ishr, 1) := by decide +kernel
theorem dJ2_length_9d52b_4 : decode cJ2_length_9d52b 4 = .ok (.ireturn, 1) := by decide +kernel
set_option maxRecDepth 20000 in
theorem ggJ2_charAt_3b067_J2_checkIndex_2214a : GoodIn wsJ2_charAt_3b067 wsJ2_checkIndex_2214a := goodIn_r _ [4, 5, 6, 3, 7, 8, 9, 10, 11, 12, 13, 14, 15, 16] (by decide +kernel) (by decide +kernel)
set_option maxRecDepth 20000 in
theorem gJ2_charAt_3b067_J2_checkIndex_2214a : GoodIn wsJ2_charAt_3b067 (va_wsS RJ2 67 yJ2_checkIndex_2214a wsJ2_checkIndex_2214a) := goodIn_app (goodIn_of _ (by decide +kernel)) ggJ2_charAt_3b067_J2_checkIndex_2214a
set_option maxRecDepth 20000 in
theorem ggJ2_charAt_3b067_J2_getChar_3b067 : GoodIn wsJ2_charAt_3b067 wsJ2_getChar_3b067 := goodIn_r _ [19, 20, 21, 22, 5, 6, 3, 7] (by decide +kernel) (by decide +kernel)
set_option maxRecDepth 20000 in
theorem gJ2_charAt_3b067_J2_getChar_3b067 : GoodIn wsJ2_charAt_3b067 (va_wsS RJ2 71 yJ2_getChar_3b067 wsJ2_getChar_3b067) := goodIn_app (goodIn_of _ (by decide +kernel)) ggJ2_charAt_3b067_J2_getChar_3b067
theorem dJ2_charAt_3b067_0 : decode cJ2_charAt_3b067 0 = .ok (.iload_n 1, 1) := by decide +kernel
theorem dJ2_charAt_3b067_1 : decode cJ2_charAt_3b067 1 = .ok (.aload_n 0, 1) := by decide +kernel
theorem dJ2_charAt_3b067_2 : decode cJ2_charAt_3b067 2 = .ok (.invokestatic 67, 3) := by decide +kernel
theorem dJ2_charAt_3b067_5 : decode cJ2_charAt_3b067 5 = .ok (.aload_n 0, 1) := by decide +kernel
theorem dJ2_charAt_3b067_6 : decode cJ2_charAt_3b067 6 = .ok (.iload_n 1, 1) := by decide +kernel
theorem dJ2_charAt_3b067_7 : decode cJ2_charAt_3b067 7 = .ok (.invokestatic 71, 3) := by decide +kernel
theorem dJ2_charAt_3b067_10 : decode cJ2_charAt_3b067 10 = .ok (.ireturn, 1) := by decide +kernel
set_option maxRecDepth 20000 in
theorem ggJ2_checkIndex_2214a_J2_length_9d52b : GoodIn wsJ2_checkIndex_2214a wsJ2_length_9d52b := goodIn_r _ [4] (by decide +kernel) (by decide +kernel)
set_option maxRecDepth 20000 in
theorem gJ2_checkIndex_2214a_J2_length_9d52b : GoodIn wsJ2_checkIndex_2214a (va_wsS RJ2 48 yJ2_length_9d52b wsJ2_length_9d52b) := goodIn_app (goodIn_of _ (by decide +kernel)) ggJ2_checkIndex_2214a_J2_length_9d52b
set_option maxRecDepth 20000 in
theorem ggJ2_checkIndex_2214a_J0_checkIndex_df160 : GoodIn wsJ2_checkIndex_2214a wsJ0_checkIndex_df160 := goodIn_r _ [8, 9, 10, 11, 12, 13] (by decide +kernel) (by decide +kernel)
set_option maxRecDepth 20000 in
theorem gJ2_checkIndex_2214a_J0_checkIndex_df160 : GoodIn wsJ2_checkIndex_2214a (va_wsS RJ2 414 yJ0_checkIndex_df160 wsJ0_checkIndex_df160) := goodIn_app (goodIn_of _ (by decide +kernel)) ggJ2_checkIndex_2214a_J0_checkIndex_df160
theorem dJ2_checkIndex_2214a_0 : decode cJ2_checkIndex_2214a 0 = .ok (.iload_n 0, 1) := by decide +kernel
theorem dJ2_checkIndex_2214a_1 : decode cJ2_checkIndex_2214a 1 = .ok (.aload_n 1, 1) := by decide +kernel
theorem dJ2_checkIndex_2214a_2 : decode cJ2_checkIndex_2214a 2 = .ok (.invokestatic 48, 3) := by decide +kernel
theorem dJ2_checkIndex_2214a_5 : decode cJ2_checkIndex_2214a 5 = .ok (.invokestatic 414, 3) := by decide +kernel
theorem dJ2_checkIndex_2214a_8 : decode cJ2_checkIndex_2214a 8 = .ok (.return_, 1) := by decide +kernel
theorem dJ7_fill_d0a16_0 : decode cJ7_fill_d0a16 0 = .ok (.iconst 0, 1) := by decide +kernel
theorem dJ7_fill_d0a16_1 : decode cJ7_fill_d0a16 1 = .ok (.istore_n 3, 1) := by decide +kernel
theorem dJ7_fill_d0a16_2 : decode cJ7_fill_d0a16 2 = .ok (.aload_n 0, 1) := by decide +kernel
theorem dJ7_fill_d0a16_3 : decode cJ7_fill_d0a16 3 = .ok (.arraylength, 1) := by decide +kernel
theorem dJ7_fill_d0a16_4 : decode cJ7_fill_d0a16 4 = .ok (.istore 4, 2) := by decide +kernel
theorem dJ7_fill_d0a16_6 : decode cJ7_fill_d0a16 6 = .ok (.iload_n 3, 1) := by decide +kernel
theorem dJ7_fill_d0a16_7 : decode cJ7_fill_d0a16 7 = .ok (.iload 4, 2) := by decide +kernel
theorem dJ7_fill_d0a16_9 : decode cJ7_fill_d0a16 9 = .ok (.if_icmp .ge 13, 3) := by decide +kernel
theorem dJ7_fill_d0a16_12 : decode cJ7_fill_d0a16 12 = .ok (.aload_n 0, 1) := by decide +kernel
theorem dJ7_fill_d0a16_13 : decode cJ7_fill_d0a16 13 = .ok (.iload_n 3, 1) := by decide +kernel
theorem dJ7_fill_d0a16_14 : decode cJ7_fill_d0a16 14 = .ok (.lload_n 1, 1) := by decide +kernel
theorem dJ7_fill_d0a16_15 : decode cJ7_fill_d0a16 15 = .ok (.lastore, 1) := by decide +kernel
theorem dJ7_fill_d0a16_16 : decode cJ7_fill_d0a16 16 = .ok (.iinc 3 1, 3) := by decide +kernel
theorem dJ7_fill_d0a16_19 : decode cJ7_fill_d0a16 19 = .ok (.goto (-13), 3) := by decide +kernel
theorem dJ7_fill_d0a16_22 : decode cJ7_fill_d0a16 22 = .ok (.return_, 1) := by decide +kernel
theorem dJ7_fill_53178_0 : decode cJ7_fill_53178 0 = .ok (.iconst 0, 1) := by decide +kernel
theorem dJ7_fill_53178_1 : decode cJ7_fill_53178 1 = .ok (.istore_n 2, 1) := by decide +kernel
theorem dJ7_fill_53178_2 : decode cJ7_fill_53178 2 = .ok (.aload_n 0, 1) := by decide +kernel
theorem dJ7_fill_53178_3 : decode cJ7_fill_53178 3 = .ok (.arraylength, 1) := by decide +kernel
theorem dJ7_fill_53178_4 : decode cJ7_fill_53178 4 = .ok (.istore_n 3, 1) := by decide +kernel
theorem dJ7_fill_53178_5 : decode cJ7_fill_53178 5 = .ok (.iload_n 2, 1) := by decide +kernel
theorem dJ7_fill_53178_6 : decode cJ7_fill_53178 6 = .ok (.iload_n 3, 1) := by decide +kernel
theorem dJ7_fill_53178_7 : decode cJ7_fill_53178 7 = .ok (.if_icmp .ge 13, 3) := by decide +kernel
theorem dJ7_fill_53178_10 : decode cJ7_fill_53178 10 = .ok (.aload_n 0, 1) := by decide +kernel
theorem dJ7_fill_53178_11 : decode cJ7_fill_53178 11 = .ok (.iload_n 2, 1) := by decide +kernel
theorem dJ7_fill_53178_12 : decode cJ7_fill_53178 12 = .ok (.iload_n 1, 1) := by decide +kernel
theorem dJ7_fill_53178_13 : decode cJ7_fill_53178 13 = .ok (.iastore, 1) := by decide +kernel
theorem dJ7_fill_53178_14 : decode cJ7_fill_53178 14 = .ok (.iinc 2 1, 3) := by decide +kernel
theorem dJ7_fill_53178_17 : decode cJ7_fill_53178 17 = .ok (.goto (-12), 3) := by decide +kernel
theorem dJ7_fill_53178_20 : decode cJ7_fill_53178 20 = .ok (.return_, 1) := by decide +kernel
theorem dJ3_checkIndex_8e157_0 : decode cJ3_checkIndex_8e157 0 = .ok (.iload_n 0, 1) := by decide +kernel
theorem dJ3_checkIndex_8e157_1 : decode cJ3_checkIndex_8e157 1 = .ok (.ifCond .lt 8, 3) := by decide +kernel
theorem dJ3_checkIndex_8e157_4 : decode cJ3_checkIndex_8e157 4 = .ok (.iload_n 0, 1) := by decide +kernel
theorem dJ3_checkIndex_8e157_5 : decode cJ3_checkIndex_8e157 5 = .ok (.iload_n 1, 1) := by decide +kernel
theorem dJ3_checkIndex_8e157_6 : decode cJ3_checkIndex_8e157 6 = .ok (.if_icmp .lt 10, 3) := by decide +kernel
theorem dJ3_checkIndex_8e157_9 : decode cJ3_checkIndex_8e157 9 = .ok (.aload_n 2, 1) := by decide +kernel
theorem dJ3_checkIndex_8e157_10 : decode cJ3_checkIndex_8e157 10 = .ok (.iload_n 0, 1) := by decide +kernel
theorem dJ3_checkIndex_8e157_11 : decode cJ3_checkIndex_8e157 11 = .ok (.iload_n 1, 1) := by decide +kernel
theorem dJ3_checkIndex_8e157_12 : decode cJ3_checkIndex_8e157 12 = .ok (.invokestatic 95, 3) := by decide +kernel
theorem dJ3_checkIndex_8e157_15 : decode cJ3_checkIndex_8e157 15 = .ok (.athrow, 1) := by decide +kernel
theorem dJ3_checkIndex_8e157_16 : decode cJ3_checkIndex_8e157 16 = .ok (.iload_n 0, 1) := by decide +kernel
theorem dJ3_checkIndex_8e157_17 : decode cJ3_checkIndex_8e157 17 = .ok (.ireturn, 1) := by decide +kernel
set_option maxRecDepth 20000 in
theorem ggL_law_X11_init : GoodIn wsL_law wsX11_init := goodIn_r _ [9, 10, 11, 12, 13, 14, 15, 16, 17, 18, 19, 20, 21, 22, 23, 24, 25, 26, 27, 28, 29, 30, 31, 32, 33, 34, 35, 36, 37, 38, 39, 40, 41, 42, 43, 44, 45, 46, 47, 48, 49, 50, 51, 52, 53, 54, 55, 56, 57, 58, 59, 60, 61, 62, 63, 64, 65, 66, 67, 68, 69, 70, 71, 72, 73, 74, 75, 76, 77, 78, 79, 80, 81, 82, 83, 84, 85, 86, 87, 88, 89, 90, 91, 92, 93, 94, 95, 96, 97, 98, 99, 100, 101, 102, 103, 104, 105, 106, 107, 108, 109, 110, 111, 112, 113, 114, 115, 116, 117, 118, 119, 120, 121, 122, 123, 124, 125, 126, 127, 128, 129, 130, 131, 132, 133, 134, 135, 136, 137, 138, 139, 140, 141, 142, 143, 144, 145, 146, 147, 148, 149, 150, 151, 152, 153, 154, 155, 156, 157, 158, 159, 160, 161, 162, 163, 164, 165, 166, 167, 168, 169, 170, 1275, 1276, 1277, 1278, 1279, 1280, 1281, 1223, 1224, 1225, 1226, 1227, 1228, 1229, 1230, 1231, 1232, 1233, 1234, 1235, 1236, 1237, 1282, 1283, 1284, 1285, 1286, 1287, 1288, 1289, 1290, 1291, 1292, 1293, 1294, 1295, 1296, 1297, 1298, 1299, 1300, 1301, 1302, 1303, 1304, 1305, 1306, 1307, 1308, 1309, 1310, 1311, 1312, 1313, 1314, 1315, 1316, 1317, 1318, 1319, 1320, 1321, 1322, 1323, 1324, 1325, 1326, 1327, 1328, 1329, 1330, 1331, 1332] (by decide +kernel) (by decide +kernel)
set_option maxRecDepth 20000 in
theorem gL_law_X11_init : GoodIn wsL_law (wsX11_init) := ggL_law_X11_init
set_option maxRecDepth 20000 in
theorem ggL_law_X12_init : GoodIn wsL_law wsX12_init := goodIn_r _ [173, 174, 11, 12, 67, 175, 54, 176, 177, 178, 179, 180, 181, 182, 183, 184, 129, 185, 186, 187, 188, 189, 190, 191, 192, 193, 194, 195, 196, 197, 198, 199, 200, 5, 201, 202, 203, 204, 205, 206, 207, 208, 209, 210, 211, 212, 213, 214, 215, 1238, 1239, 1240, 1241, 1242, 1243, 1244, 1245, 1246, 1247, 1248, 1249, 1250, 1251, 1252, 1253, 1254, 1255, 1256, 1257, 1258, 1259, 1260, 1261, 1262, 1263, 1264, 1265, 1266, 1267, 1268, 1269, 1270, 1271, 1272, 1273, 1274] (by decide +kernel) (by decide +kernel)
set_option maxRecDepth 20000 in
theorem gL_law_X12_init : GoodIn wsL_law (wsX12_init) := ggL_law_X12_init
set_option maxRecDepth 20000 in
theorem ggL_law_X11_feed : GoodIn wsL_law wsX11_feed := goodIn_r _ [219, 24, 220, 221, 222, 223, 23, 224, 95, 94, 1223, 1224, 1225, 1226, 1227, 1228, 1229, 1230, 1231, 1232, 1233, 1234, 1235, 1236, 1237, 1291, 1292, 1293, 1294, 1295, 1296] (by decide +kernel) (by decide +kernel)
set_option maxRecDepth 20000 in
theorem gL_law_X11_feed : GoodIn wsL_law (wsV RL 15 RX11 yX11_feed wsX11_feed) := goodIn_app (goodIn_of _ (by decide +kernel)) ggL_law_X11_feed
set_option maxRecDepth 20000 in
theorem ggL_law_X12_feed : GoodIn wsL_law wsX12_feed := goodIn_r _ [228, 229, 182, 230, 1238, 1239, 1240, 1241, 1242, 1243, 1244, 1245, 1246, 1247, 1248, 1249, 1250, 1251, 1252, 1253, 1254, 1255, 1256, 1257, 1258, 1259, 1260, 1261, 1262, 1263, 1264, 1265, 1266, 1267, 1268, 1269, 1270, 1271, 1272, 1273, 1274] (by decide +kernel) (by decide +kernel)
set_option maxRecDepth 20000 in
theorem gL_law_X12_feed : GoodIn wsL_law (wsV RL 19 RX12 yX12_feed wsX12_feed) := goodIn_app (goodIn_of _ (by decide +kernel)) ggL_law_X12_feed
set_option maxRecDepth 20000 in
theorem ggL_law_X11_end : GoodIn wsL_law wsX11_end := goodIn_r _ [234, 24, 220, 1223, 1224, 1225, 1226, 1227, 1228, 1229, 1230, 1231, 1232, 1233, 1234, 1235, 1236, 1237, 1291, 1292, 1293, 1294, 1295, 1296] (by decide +kernel) (by decide +kernel)
set_option maxRecDepth 20000 in
theorem gL_law_X11_end : GoodIn wsL_law (wsV RL 20 RX11 yX11_end wsX11_end) := goodIn_app (goodIn_of _ (by decide +kernel)) ggL_law_X11_end
set_option maxRecDepth 20000 in
theorem ggL_law_X12_end : GoodIn wsL_law wsX12_end := goodIn_r _ [238, 229, 239, 240, 5, 241, 1238, 1239, 1240, 1241, 1242, 1243, 1244, 1245, 1246, 1247, 1248, 1249, 1250, 1251, 1252, 1253, 1254, 1255, 1256, 1257, 1258, 1259, 1260, 1261, 1262, 1263, 1264, 1265, 1266, 1267, 1268, 1269, 1270, 1271, 1272, 1273, 1274] (by decide +kernel) (by decide +kernel)
set_option maxRecDepth 20000 in
theorem gL_law_X12_end : GoodIn wsL_law (wsV RL 24 RX12 yX12_end wsX12_end) := goodIn_app (goodIn_of _ (by decide +kernel)) ggL_law_X12_end
set_option maxRecDepth 20000 in
theorem ggL_law_X11_text : GoodIn wsL_law wsX11_text := goodIn_r _ [245, 28, 24, 220, 246, 58, 16, 247, 20, 248, 55, 249, 250, 251, 27, 252, 108, 112, 105, 253, 114, 254, 109, 110, 255, 256, 257, 258, 107, 111, 259, 260, 261, 15, 262, 65, 66, 68, 263, 87, 88, 89, 264, 265, 266, 19, 267, 77, 78, 79, 80, 82, 83, 84, 85, 86, 268, 269, 270, 23, 271, 96, 272, 273, 274, 275, 276, 277, 278, 279, 113, 280, 281, 282, 283, 284, 95, 94, 98, 97, 285, 286, 287, 288, 289, 290, 291, 292, 293, 294, 295, 296, 297, 298, 99, 299, 300, 301, 302, 303, 304, 305, 306, 307, 308, 309, 310, 311, 312, 313, 314, 315, 316, 317, 318, 319, 320, 321, 322, 323, 324, 325, 326, 327, 328, 329, 330, 331, 332, 333, 334, 335, 336, 337, 338, 339, 340, 341, 342, 343, 344, 345, 346, 347, 348, 349, 350, 351, 352, 353, 354, 355, 356, 357, 358, 359, 360, 361, 362, 363, 364, 365, 366, 367, 368, 369, 370, 371, 372, 373, 374, 375, 376, 377, 378, 379, 380, 381, 382, 383, 384, 385, 386, 387, 388, 389, 390, 391, 392, 393, 394, 395, 396, 397, 398, 399, 400, 69, 70, 71, 401, 402, 403, 404, 405, 406, 407, 408, 409, 410, 411, 412, 413, 414, 415, 416, 417, 418, 419, 420, 72, 421, 422, 423, 424, 425, 426, 427, 428, 429, 430, 431, 432, 433, 434, 435, 436, 437, 438, 439, 440, 441, 442, 443, 444, 81, 1223, 1224, 1225, 1226, 1227, 1228, 1229, 1230, 1231, 1232, 1233, 1234, 1235, 1236, 1237, 1291, 1292, 1293, 1294, 1295, 1296, 1297, 1298, 1299, 1300, 1301, 1302, 1303, 1304, 1305, 1275, 1276, 1277, 1278, 1279, 1280, 1281, 1282, 1283, 1284, 1285, 1286, 1287, 1288, 1289, 1290] (by decide +kernel) (by decide +kernel)
set_option maxRecDepth 20000 in
theorem gL_law_X11_text : GoodIn wsL_law (wsV RL 25 RX11 yX11_text wsX11_text) := goodIn_app (goodIn_of _ (by decide +kernel)) ggL_law_X11_text
set_option maxRecDepth 20000 in
theorem ggL_law_X12_text : GoodIn wsL_law wsX12_text := goodIn_r _ [448, 449, 450, 451, 205, 202, 229, 452, 198, 199, 200, 5, 201, 179, 181, 203, 204, 453, 454, 455, 456, 457, 458, 459, 460, 461, 462, 463, 464, 465, 466, 182, 239, 240, 241, 467, 468, 469, 470, 471, 472, 473, 474, 475, 476, 477, 478, 479, 480, 481, 482, 483, 484, 485, 486, 487, 488, 489, 490, 491, 492, 493, 494, 495, 496, 497, 498, 499, 500, 501, 502, 503, 504, 505, 506, 507, 508, 509, 510, 511, 512, 513, 514, 515, 516, 517, 518, 519, 520, 521, 522, 523, 524, 180, 206, 207, 208, 209, 175, 210, 211, 178, 177, 176, 212, 213, 214, 215, 1238, 1239, 1240, 1241, 1242, 1243, 1244, 1245, 1246, 1247, 1248, 1249, 1250, 1251, 1252, 1253, 1254, 1255, 1256, 1257, 1258, 1259, 1260, 1261, 1262, 1263, 1264, 1265, 1266, 1267, 1268, 1269, 1270, 1271, 1272, 1273, 1274] (by decide +kernel) (by decide +kernel)
set_option maxRecDepth 20000 in
theorem gL_law_X12_text : GoodIn wsL_law (wsV RL 29 RX12 yX12_text wsX12_text) := goodIn_app (goodIn_of _ (by decide +kernel)) ggL_law_X12_text
set_option maxRecDepth 20000 in
theorem ggL_law_X11_fault : GoodIn wsL_law wsX11_fault := goodIn_r _ [528, 58, 1223, 1224, 1225, 1226, 1227, 1228, 1229, 1230, 1231, 1232, 1233, 1234, 1235, 1236, 1237] (by decide +kernel) (by decide +kernel)
set_option maxRecDepth 20000 in
theorem gL_law_X11_fault : GoodIn wsL_law (wsV RL 30 RX11 yX11_fault wsX11_fault) := goodIn_app (goodIn_of _ (by decide +kernel)) ggL_law_X11_fault
set_option maxRecDepth 20000 in
theorem ggL_law_X12_fault : GoodIn wsL_law wsX12_fault := goodIn_r _ [532, 449, 1238, 1239, 1240, 1241, 1242, 1243, 1244, 1245, 1246, 1247, 1248, 1249, 1250, 1251, 1252, 1253, 1254, 1255, 1256, 1257, 1258, 1259, 1260, 1261, 1262, 1263, 1264, 1265, 1266, 1267, 1268, 1269, 1270, 1271, 1272, 1273, 1274] (by decide +kernel) (by decide +kernel)
set_option maxRecDepth 20000 in
theorem gL_law_X12_fault : GoodIn wsL_law (wsV RL 33 RX12 yX12_fault wsX12_fault) := goodIn_app (goodIn_of _ (by decide +kernel)) ggL_law_X12_fault
set_option maxRecDepth 20000 in
theorem ggL_law_X11_rule : GoodIn wsL_law wsX11_rule := goodIn_r _ [536, 16, 537, 538, 20, 539, 540, 541, 1223, 1224, 1225, 1226, 1227, 1228, 1229, 1230, 1231, 1232, 1233, 1234, 1235, 1236, 1237, 1275, 1276, 1277, 1278, 1279, 1280, 1281, 1282, 1283, 1284, 1285, 1286, 1287, 1288, 1289, 1290] (by decide +kernel) (by decide +kernel)
set_option maxRecDepth 20000 in
theorem gL_law_X11_rule : GoodIn wsL_law (wsV RL 34 RX11 yX11_rule wsX11_rule) := goodIn_app (goodIn_of _ (by decide +kernel)) ggL_law_X11_rule
set_option maxRecDepth 20000 in
theorem ggL_law_X12_rule : GoodIn wsL_law wsX12_rule := goodIn_r _ [545, 210, 211, 175, 1238, 1239, 1240, 1241, 1242, 1243, 1244, 1245, 1246, 1247, 1248, 1249, 1250, 1251, 1252, 1253, 1254, 1255, 1256, 1257, 1258, 1259, 1260, 1261, 1262, 1263, 1264, 1265, 1266, 1267, 1268, 1269, 1270, 1271, 1272, 1273, 1274] (by decide +kernel) (by decide +kernel)
set_option maxRecDepth 20000 in
theorem gL_law_X12_rule : GoodIn wsL_law (wsV RL 37 RX12 yX12_rule wsX12_rule) := goodIn_app (goodIn_of _ (by decide +kernel)) ggL_law_X12_rule
set_option maxRecDepth 20000 in
theorem ggL_law_X11_pot : GoodIn wsL_law wsX11_pot := goodIn_r _ [549, 16, 20, 550, 551, 552, 553, 15, 554, 65, 1223, 1224, 1225, 1226, 1227, 1228, 1229, 1230, 1231, 1232, 1233, 1234, 1235, 1236, 1237, 1282, 1283, 1284, 1285, 1286, 1287, 1288, 1289, 1290, 1275, 1276, 1277, 1278, 1279, 1280, 1281] (by decide +kernel) (by decide +kernel)
set_option maxRecDepth 20000 in
theorem gL_law_X11_pot : GoodIn wsL_law (wsV RL 38 RX11 yX11_pot wsX11_pot) := goodIn_app (goodIn_of _ (by decide +kernel)) ggL_law_X11_pot
set_option maxRecDepth 20000 in
theorem ggL_law_X12_pot : GoodIn wsL_law wsX12_pot := goodIn_r _ [558, 175, 559, 560, 561, 5, 562, 210, 239, 240, 241, 1238, 1239, 1240, 1241, 1242, 1243, 1244, 1245, 1246, 1247, 1248, 1249, 1250, 1251, 1252, 1253, 1254, 1255, 1256, 1257, 1258, 1259, 1260, 1261, 1262, 1263, 1264, 1265, 1266, 1267, 1268, 1269, 1270, 1271, 1272, 1273, 1274] (by decide +kernel) (by decide +kernel)
set_option maxRecDepth 20000 in
theorem gL_law_X12_pot : GoodIn wsL_law (wsV RL 41 RX12 yX12_pot wsX12_pot) := goodIn_app (goodIn_of _ (by decide +kernel)) ggL_law_X12_pot
set_option maxRecDepth 20000 in
theorem ggL_law_X11_one : GoodIn wsL_law wsX11_one := goodIn_r _ [566, 16, 20, 567, 568, 569, 570, 551, 552, 553, 15, 554, 65, 1223, 1224, 1225, 1226, 1227, 1228, 1229, 1230, 1231, 1232, 1233, 1234, 1235, 1236, 1237, 1282, 1283, 1284, 1285, 1286, 1287, 1288, 1289, 1290, 1275, 1276, 1277, 1278, 1279, 1280, 1281] (by decide +kernel) (by decide +kernel)
set_option maxRecDepth 20000 in
theorem gL_law_X11_one : GoodIn wsL_law (wsV RL 42 RX11 yX11_one wsX11_one) := goodIn_app (goodIn_of _ (by decide +kernel)) ggL_law_X11_one
set_option maxRecDepth 20000 in
theorem ggL_law_X12_one : GoodIn wsL_law wsX12_one := goodIn_r _ [574, 175, 178, 559, 560, 561, 5, 562, 210, 239, 240, 241, 1238, 1239, 1240, 1241, 1242, 1243, 1244, 1245, 1246, 1247, 1248, 1249, 1250, 1251, 1252, 1253, 1254, 1255, 1256, 1257, 1258, 1259, 1260, 1261, 1262, 1263, 1264, 1265, 1266, 1267, 1268, 1269, 1270, 1271, 1272, 1273, 1274] (by decide +kernel) (by decide +kernel)
set_option maxRecDepth 20000 in
theorem gL_law_X12_one : GoodIn wsL_law (wsV RL 46 RX12 yX12_one wsX12_one) := goodIn_app (goodIn_of _ (by decide +kernel)) ggL_law_X12_one
set_option maxRecDepth 20000 in
theorem ggL_law_X11_stir : GoodIn wsL_law wsX11_stir := goodIn_r _ [578, 16, 579, 580, 581, 15, 582, 66, 551, 552, 553, 554, 65, 583, 584, 585, 586, 72, 1223, 1224, 1225, 1226, 1227, 1228, 1229, 1230, 1231, 1232, 1233, 1234, 1235, 1236, 1237, 1275, 1276, 1277, 1278, 1279, 1280, 1281] (by decide +kernel) (by decide +kernel)
set_option maxRecDepth 20000 in
theorem gL_law_X11_stir : GoodIn wsL_law (wsV RL 47 RX11 yX11_stir wsX11_stir) := goodIn_app (goodIn_of _ (by decide +kernel)) ggL_law_X11_stir
set_option maxRecDepth 20000 in
theorem ggL_law_X12_stir : GoodIn wsL_law wsX12_stir := goodIn_r _ [590, 177, 591, 592, 593, 5, 594, 211, 239, 240, 241, 559, 560, 561, 562, 210, 1238, 1239, 1240, 1241, 1242, 1243, 1244, 1245, 1246, 1247, 1248, 1249, 1250, 1251, 1252, 1253, 1254, 1255, 1256, 1257, 1258, 1259, 1260, 1261, 1262, 1263, 1264, 1265, 1266, 1267, 1268, 1269, 1270, 1271, 1272, 1273, 1274] (by decide +kernel) (by decide +kernel)
set_option maxRecDepth 20000 in
theorem gL_law_X12_stir : GoodIn wsL_law (wsV RL 50 RX12 yX12_stir wsX12_stir) := goodIn_app (goodIn_of _ (by decide +kernel)) ggL_law_X12_stir
set_option maxRecDepth 20000 in
theorem ggL_law_X11_befriend : GoodIn wsL_law wsX11_befriend := goodIn_r _ [598, 16, 20, 551, 552, 553, 15, 554, 65, 599, 414, 415, 19, 416, 78, 600, 390, 391, 392, 1223, 1224, 1225, 1226, 1227, 1228, 1229, 1230, 1231, 1232, 1233, 1234, 1235, 1236, 1237, 1275, 1276, 1277, 1278, 1279, 1280, 1281, 1282, 1283, 1284, 1285, 1286, 1287, 1288, 1289, 1290] (by decide +kernel) (by decide +kernel)
set_option maxRecDepth 20000 in
theorem gL_law_X11_befriend : GoodIn wsL_law (wsV RL 51 RX11 yX11_befriend wsX11_befriend) := goodIn_app (goodIn_of _ (by decide +kernel)) ggL_law_X11_befriend
set_option maxRecDepth 20000 in
theorem ggL_law_X12_befriend : GoodIn wsL_law wsX12_befriend := goodIn_r _ [604, 175, 559, 560, 561, 5, 562, 210, 239, 240, 241, 1238, 1239, 1240, 1241, 1242, 1243, 1244, 1245, 1246, 1247, 1248, 1249, 1250, 1251, 1252, 1253, 1254, 1255, 1256, 1257, 1258, 1259, 1260, 1261, 1262, 1263, 1264, 1265, 1266, 1267, 1268, 1269, 1270, 1271, 1272, 1273, 1274] (by decide +kernel) (by decide +kernel)
set_option maxRecDepth 20000 in
theorem gL_law_X12_befriend : GoodIn wsL_law (wsV RL 55 RX12 yX12_befriend wsX12_befriend) := goodIn_app (goodIn_of _ (by decide +kernel)) ggL_law_X12_befriend
set_option maxRecDepth 20000 in
theorem ggL_law_X11_spoon : GoodIn wsL_law wsX11_spoon := goodIn_r _ [608, 16, 20, 568, 551, 552, 553, 15, 554, 65, 1223, 1224, 1225, 1226, 1227, 1228, 1229, 1230, 1231, 1232, 1233, 1234, 1235, 1236, 1237, 1282, 1283, 1284, 1285, 1286, 1287, 1288, 1289, 1290, 1275, 1276, 1277, 1278, 1279, 1280, 1281] (by decide +kernel) (by decide +kernel)
set_option maxRecDepth 20000 in
theorem gL_law_X11_spoon : GoodIn wsL_law (wsV RL 56 RX11 yX11_spoon wsX11_spoon) := goodIn_app (goodIn_of _ (by decide +kernel)) ggL_law_X11_spoon
set_option maxRecDepth 20000 in
theorem ggL_law_X12_spoon : GoodIn wsL_law wsX12_spoon := goodIn_r _ [612, 613, 175, 559, 560, 561, 5, 562, 210, 239, 240, 241, 1238, 1239, 1240, 1241, 1242, 1243, 1244, 1245, 1246, 1247, 1248, 1249, 1250, 1251, 1252, 1253, 1254, 1255, 1256, 1257, 1258, 1259, 1260, 1261, 1262, 1263, 1264, 1265, 1266, 1267, 1268, 1269, 1270, 1271, 1272, 1273, 1274] (by decide +kernel) (by decide +kernel)
set_option maxRecDepth 20000 in
theorem gL_law_X12_spoon : GoodIn wsL_law (wsV RL 59 RX12 yX12_spoon wsX12_spoon) := goodIn_app (goodIn_of _ (by decide +kernel)) ggL_law_X12_spoon
set_option maxRecDepth 20000 in
theorem ggL_law_X11_crown : GoodIn wsL_law wsX11_crown := goodIn_r _ [617, 16, 20, 539, 551, 552, 553, 15, 554, 65, 1223, 1224, 1225, 1226, 1227, 1228, 1229, 1230, 1231, 1232, 1233, 1234, 1235, 1236, 1237, 1282, 1283, 1284, 1285, 1286, 1287, 1288, 1289, 1290, 1275, 1276, 1277, 1278, 1279, 1280, 1281] (by decide +kernel) (by decide +kernel)
set_option maxRecDepth 20000 in
theorem gL_law_X11_crown : GoodIn wsL_law (wsV RL 60 RX11 yX11_crown wsX11_crown) := goodIn_app (goodIn_of _ (by decide +kernel)) ggL_law_X11_crown
set_option maxRecDepth 20000 in
theorem ggL_law_X12_crown : GoodIn wsL_law wsX12_crown := goodIn_r _ [621, 175, 559, 560, 561, 5, 562, 210, 239, 240, 241, 1238, 1239, 1240, 1241, 1242, 1243, 1244, 1245, 1246, 1247, 1248, 1249, 1250, 1251, 1252, 1253, 1254, 1255, 1256, 1257, 1258, 1259, 1260, 1261, 1262, 1263, 1264, 1265, 1266, 1267, 1268, 1269, 1270, 1271, 1272, 1273, 1274] (by decide +kernel) (by decide +kernel)
set_option maxRecDepth 20000 in
theorem gL_law_X12_crown : GoodIn wsL_law (wsV RL 63 RX12 yX12_crown wsX12_crown) := goodIn_app (goodIn_of _ (by decide +kernel)) ggL_law_X12_crown
set_option maxRecDepth 20000 in
theorem ggL_law_X11_fill : GoodIn wsL_law wsX11_fill := goodIn_r _ [625, 16, 20, 550, 551, 552, 553, 15, 554, 65, 1223, 1224, 1225, 1226, 1227, 1228, 1229, 1230, 1231, 1232, 1233, 1234, 1235, 1236, 1237, 1282, 1283, 1284, 1285, 1286, 1287, 1288, 1289, 1290, 1275, 1276, 1277, 1278, 1279, 1280, 1281] (by decide +kernel) (by decide +kernel)
set_option maxRecDepth 20000 in
theorem gL_law_X11_fill : GoodIn wsL_law (wsV RL 64 RX11 yX11_fill wsX11_fill) := goodIn_app (goodIn_of _ (by decide +kernel)) ggL_law_X11_fill
set_option maxRecDepth 20000 in
theorem ggL_law_X12_fill : GoodIn wsL_law wsX12_fill := goodIn_r _ [629, 613, 175, 559, 560, 561, 5, 562, 210, 239, 240, 241, 1238, 1239, 1240, 1241, 1242, 1243, 1244, 1245, 1246, 1247, 1248, 1249, 1250, 1251, 1252, 1253, 1254, 1255, 1256, 1257, 1258, 1259, 1260, 1261, 1262, 1263, 1264, 1265, 1266, 1267, 1268, 1269, 1270, 1271, 1272, 1273, 1274] (by decide +kernel) (by decide +kernel)
set_option maxRecDepth 20000 in
theorem gL_law_X12_fill : GoodIn wsL_law (wsV RL 67 RX12 yX12_fill wsX12_fill) := goodIn_app (goodIn_of _ (by decide +kernel)) ggL_law_X12_fill
set_option maxRecDepth 20000 in
theorem ggL_law_X11_bowl : GoodIn wsL_law wsX11_bowl := goodIn_r _ [633, 16, 32, 551, 552, 553, 15, 554, 65, 579, 580, 581, 582, 66, 634, 635, 636, 31, 637, 123, 638, 124, 120, 121, 639, 426, 427, 428, 640, 414, 415, 19, 416, 78, 641, 642, 643, 644, 645, 122, 646, 647, 648, 649, 650, 584, 585, 586, 72, 651, 652, 653, 654, 655, 656, 657, 658, 1223, 1224, 1225, 1226, 1227, 1228, 1229, 1230, 1231, 1232, 1233, 1234, 1235, 1236, 1237, 1275, 1276, 1277, 1278, 1279, 1280, 1281, 1306, 1307, 1308, 1309, 1310, 1282, 1283, 1284, 1285, 1286, 1287, 1288, 1289, 1290] (by decide +kernel) (by decide +kernel)
set_option maxRecDepth 20000 in
theorem gL_law_X11_bowl : GoodIn wsL_law (wsV RL 68 RX11 yX11_bowl wsX11_bowl) := goodIn_app (goodIn_of _ (by decide +kernel)) ggL_law_X11_bowl
set_option maxRecDepth 20000 in
theorem ggL_law_X12_bowl : GoodIn wsL_law wsX12_bowl := goodIn_r _ [662, 175, 183, 559, 560, 561, 5, 562, 210, 239, 240, 241, 591, 592, 593, 594, 211, 663, 664, 665, 666, 667, 668, 669, 670, 671, 672, 673, 177, 1238, 1239, 1240, 1241, 1242, 1243, 1244, 1245, 1246, 1247, 1248, 1249, 1250, 1251, 1252, 1253, 1254, 1255, 1256, 1257, 1258, 1259, 1260, 1261, 1262, 1263, 1264, 1265, 1266, 1267, 1268, 1269, 1270, 1271, 1272, 1273, 1274] (by decide +kernel) (by decide +kernel)
set_option maxRecDepth 20000 in
theorem gL_law_X12_bowl : GoodIn wsL_law (wsV RL 72 RX12 yX12_bowl wsX12_bowl) := goodIn_app (goodIn_of _ (by decide +kernel)) ggL_law_X12_bowl
set_option maxRecDepth 20000 in
theorem ggL_law_X11_ladle : GoodIn wsL_law wsX11_ladle := goodIn_r _ [677, 16, 32, 551, 552, 553, 15, 554, 65, 579, 580, 581, 582, 66, 634, 635, 636, 31, 637, 123, 638, 124, 120, 121, 639, 426, 427, 428, 640, 414, 415, 19, 416, 78, 678, 656, 657, 658, 1223, 1224, 1225, 1226, 1227, 1228, 1229, 1230, 1231, 1232, 1233, 1234, 1235, 1236, 1237, 1275, 1276, 1277, 1278, 1279, 1280, 1281, 1306, 1307, 1308, 1309, 1310, 1282, 1283, 1284, 1285, 1286, 1287, 1288, 1289, 1290] (by decide +kernel) (by decide +kernel)
set_option maxRecDepth 20000 in
theorem gL_law_X11_ladle : GoodIn wsL_law (wsV RL 73 RX11 yX11_ladle wsX11_ladle) := goodIn_app (goodIn_of _ (by decide +kernel)) ggL_law_X11_ladle
set_option maxRecDepth 20000 in
theorem ggL_law_X12_ladle : GoodIn wsL_law wsX12_ladle := goodIn_r _ [682, 183, 559, 560, 561, 5, 562, 210, 239, 240, 241, 591, 592, 593, 594, 211, 663, 664, 665, 666, 175, 667, 668, 669, 1238, 1239, 1240, 1241, 1242, 1243, 1244, 1245, 1246, 1247, 1248, 1249, 1250, 1251, 1252, 1253, 1254, 1255, 1256, 1257, 1258, 1259, 1260, 1261, 1262, 1263, 1264, 1265, 1266, 1267, 1268, 1269, 1270, 1271, 1272, 1273, 1274] (by decide +kernel) (by decide +kernel)
set_option maxRecDepth 20000 in
theorem gL_law_X12_ladle : GoodIn wsL_law (wsV RL 76 RX12 yX12_ladle wsX12_ladle) := goodIn_app (goodIn_of _ (by decide +kernel)) ggL_law_X12_ladle
set_option maxRecDepth 20000 in
theorem ggL_law_X11_next : GoodIn wsL_law wsX11_next := goodIn_r _ [686, 16, 32, 20, 541, 551, 552, 553, 15, 554, 65, 579, 580, 581, 582, 66, 634, 635, 636, 31, 637, 123, 638, 124, 120, 121, 639, 426, 427, 428, 640, 414, 415, 19, 416, 78, 583, 584, 585, 586, 72, 687, 688, 689, 690, 1223, 1224, 1225, 1226, 1227, 1228, 1229, 1230, 1231, 1232, 1233, 1234, 1235, 1236, 1237, 1282, 1283, 1284, 1285, 1286, 1287, 1288, 1289, 1290, 1275, 1276, 1277, 1278, 1279, 1280, 1281, 1306, 1307, 1308, 1309, 1310] (by decide +kernel) (by decide +kernel)
set_option maxRecDepth 20000 in
theorem gL_law_X11_next : GoodIn wsL_law (wsV RL 77 RX11 yX11_next wsX11_next) := goodIn_app (goodIn_of _ (by decide +kernel)) ggL_law_X11_next
set_option maxRecDepth 20000 in
theorem ggL_law_X12_next : GoodIn wsL_law wsX12_next := goodIn_r _ [694, 175, 559, 560, 561, 5, 562, 210, 239, 240, 241, 591, 592, 593, 594, 211, 695, 696, 697, 698, 183, 177, 663, 664, 665, 666, 667, 668, 669, 1238, 1239, 1240, 1241, 1242, 1243, 1244, 1245, 1246, 1247, 1248, 1249, 1250, 1251, 1252, 1253, 1254, 1255, 1256, 1257, 1258, 1259, 1260, 1261, 1262, 1263, 1264, 1265, 1266, 1267, 1268, 1269, 1270, 1271, 1272, 1273, 1274] (by decide +kernel) (by decide +kernel)
set_option maxRecDepth 20000 in
theorem gL_law_X12_next : GoodIn wsL_law (wsV RL 80 RX12 yX12_next wsX12_next) := goodIn_app (goodIn_of _ (by decide +kernel)) ggL_law_X12_next
set_option maxRecDepth 20000 in
theorem ggL_law_X11_day : GoodIn wsL_law wsX11_day := goodIn_r _ [702, 16, 20, 540, 32, 539, 579, 580, 581, 15, 582, 66, 703, 704, 705, 31, 706, 124, 707, 122, 645, 123, 638, 708, 374, 375, 376, 709, 710, 711, 712, 635, 636, 637, 120, 121, 639, 426, 427, 428, 65, 640, 414, 415, 19, 416, 78, 713, 642, 643, 644, 646, 647, 648, 649, 650, 584, 585, 586, 72, 714, 715, 652, 653, 654, 655, 656, 657, 658, 716, 688, 689, 690, 1223, 1224, 1225, 1226, 1227, 1228, 1229, 1230, 1231, 1232, 1233, 1234, 1235, 1236, 1237, 1282, 1283, 1284, 1285, 1286, 1287, 1288, 1289, 1290, 1275, 1276, 1277, 1278, 1279, 1280, 1281, 1306, 1307, 1308, 1309, 1310] (by decide +kernel) (by decide +kernel)
set_option maxRecDepth 20000 in
theorem gL_law_X11_day : GoodIn wsL_law (wsV RL 81 RX11 yX11_day wsX11_day) := goodIn_app (goodIn_of _ (by decide +kernel)) ggL_law_X11_day
set_option maxRecDepth 20000 in
theorem ggL_law_X12_day : GoodIn wsL_law wsX12_day := goodIn_r _ [720, 175, 591, 592, 593, 5, 594, 211, 239, 240, 241, 721, 722, 723, 724, 210, 184, 177, 183, 695, 696, 697, 698, 663, 664, 665, 666, 667, 668, 669, 1238, 1239, 1240, 1241, 1242, 1243, 1244, 1245, 1246, 1247, 1248, 1249, 1250, 1251, 1252, 1253, 1254, 1255, 1256, 1257, 1258, 1259, 1260, 1261, 1262, 1263, 1264, 1265, 1266, 1267, 1268, 1269, 1270, 1271, 1272, 1273, 1274] (by decide +kernel) (by decide +kernel)
set_option maxRecDepth 20000 in
theorem gL_law_X12_day : GoodIn wsL_law (wsV RL 84 RX12 yX12_day wsX12_day) := goodIn_app (goodIn_of _ (by decide +kernel)) ggL_law_X12_day
set_option maxRecDepth 20000 in
theorem ggL_law_X11_hungry : GoodIn wsL_law wsX11_hungry := goodIn_r _ [728, 16, 537, 20, 570, 569, 540, 1223, 1224, 1225, 1226, 1227, 1228, 1229, 1230, 1231, 1232, 1233, 1234, 1235, 1236, 1237, 1275, 1276, 1277, 1278, 1279, 1280, 1281, 1282, 1283, 1284, 1285, 1286, 1287, 1288, 1289, 1290] (by decide +kernel) (by decide +kernel)
set_option maxRecDepth 20000 in
theorem gL_law_X11_hungry : GoodIn wsL_law (wsV RL 85 RX11 yX11_hungry wsX11_hungry) := goodIn_app (goodIn_of _ (by decide +kernel)) ggL_law_X11_hungry
set_option maxRecDepth 20000 in
theorem ggL_law_X12_hungry : GoodIn wsL_law wsX12_hungry := goodIn_r _ [732, 210, 175, 178, 667, 668, 5, 669, 1238, 1239, 1240, 1241, 1242, 1243, 1244, 1245, 1246, 1247, 1248, 1249, 1250, 1251, 1252, 1253, 1254, 1255, 1256, 1257, 1258, 1259, 1260, 1261, 1262, 1263, 1264, 1265, 1266, 1267, 1268, 1269, 1270, 1271, 1272, 1273, 1274] (by decide +kernel) (by decide +kernel)
set_option maxRecDepth 20000 in
theorem gL_law_X12_hungry : GoodIn wsL_law (wsV RL 88 RX12 yX12_hungry wsX12_hungry) := goodIn_app (goodIn_of _ (by decide +kernel)) ggL_law_X12_hungry
set_option maxRecDepth 20000 in
theorem ggL_law_X11_chance : GoodIn wsL_law wsX11_chance := goodIn_r _ [736, 16, 737, 538, 738, 36, 551, 552, 553, 15, 554, 65, 739, 740, 2, 741, 742, 743, 744, 35, 745, 746, 747, 748, 749, 133, 130, 750, 751, 752, 753, 754, 755, 31, 756, 123, 638, 712, 635, 636, 637, 124, 120, 121, 639, 426, 427, 428, 640, 414, 415, 19, 416, 78, 757, 758, 88, 759, 760, 761, 762, 763, 131, 764, 765, 766, 374, 375, 376, 767, 768, 769, 770, 771, 772, 584, 585, 586, 72, 773, 688, 689, 690, 774, 775, 776, 777, 778, 779, 780, 781, 782, 783, 784, 785, 786, 1223, 1224, 1225, 1226, 1227, 1228, 1229, 1230, 1231, 1232, 1233, 1234, 1235, 1236, 1237, 1275, 1276, 1277, 1278, 1279, 1280, 1281, 1311, 1312, 1313, 1314, 1306, 1307, 1308, 1309, 1310, 1282, 1283, 1284, 1285, 1286, 1287, 1288, 1289, 1290] (by decide +kernel) (by decide +kernel)
set_option maxRecDepth 20000 in
theorem gL_law_X11_chance : GoodIn wsL_law (wsV RL 89 RX11 yX11_chance wsX11_chance) := goodIn_app (goodIn_of _ (by decide +kernel)) ggL_law_X11_chance
set_option maxRecDepth 20000 in
theorem ggL_law_X12_chance : GoodIn wsL_law wsX12_chance := goodIn_r _ [790, 791, 792, 211, 793, 185, 559, 560, 561, 5, 562, 210, 239, 240, 241, 794, 795, 796, 797, 798, 799, 800, 175, 801, 802, 803, 804, 186, 805, 806, 807, 808, 177, 695, 696, 697, 698, 183, 663, 664, 665, 666, 667, 668, 669, 809, 810, 811, 812, 813, 814, 815, 816, 817, 818, 1238, 1239, 1240, 1241, 1242, 1243, 1244, 1245, 1246, 1247, 1248, 1249, 1250, 1251, 1252, 1253, 1254, 1255, 1256, 1257, 1258, 1259, 1260, 1261, 1262, 1263, 1264, 1265, 1266, 1267, 1268, 1269, 1270, 1271, 1272, 1273, 1274] (by decide +kernel) (by decide +kernel)
set_option maxRecDepth 20000 in
theorem gL_law_X12_chance : GoodIn wsL_law (wsV RL 93 RX12 yX12_chance wsX12_chance) := goodIn_app (goodIn_of _ (by decide +kernel)) ggL_law_X12_chance
set_option maxRecDepth 20000 in
theorem ggL_law_X11_lasts : GoodIn wsL_law wsX11_lasts := goodIn_r _ [822, 737, 16, 538, 738, 36, 739, 740, 2, 741, 823, 824, 825, 35, 826, 133, 750, 751, 746, 747, 748, 749, 130, 752, 753, 754, 755, 31, 756, 123, 638, 712, 635, 636, 637, 124, 120, 121, 639, 426, 427, 15, 428, 65, 640, 414, 415, 19, 416, 78, 757, 758, 88, 759, 760, 761, 762, 763, 131, 764, 765, 766, 374, 375, 376, 767, 768, 769, 770, 771, 772, 584, 585, 586, 72, 773, 688, 689, 690, 774, 775, 776, 777, 778, 779, 780, 781, 782, 783, 784, 785, 786, 1223, 1224, 1225, 1226, 1227, 1228, 1229, 1230, 1231, 1232, 1233, 1234, 1235, 1236, 1237, 1275, 1276, 1277, 1278, 1279, 1280, 1281, 1311, 1312, 1313, 1314, 1306, 1307, 1308, 1309, 1310, 1282, 1283, 1284, 1285, 1286, 1287, 1288, 1289, 1290] (by decide +kernel) (by decide +kernel)
set_option maxRecDepth 20000 in
theorem gL_law_X11_lasts : GoodIn wsL_law (wsV RL 94 RX11 yX11_lasts wsX11_lasts) := goodIn_app (goodIn_of _ (by decide +kernel)) ggL_law_X11_lasts
set_option maxRecDepth 20000 in
theorem ggL_law_X12_lasts : GoodIn wsL_law wsX12_lasts := goodIn_r _ [830, 791, 792, 211, 793, 185, 239, 240, 5, 241, 794, 795, 796, 797, 798, 799, 800, 175, 801, 802, 803, 804, 186, 805, 806, 807, 808, 177, 695, 696, 697, 698, 183, 663, 664, 665, 666, 210, 667, 668, 669, 809, 810, 811, 812, 813, 814, 815, 816, 817, 818, 1238, 1239, 1240, 1241, 1242, 1243, 1244, 1245, 1246, 1247, 1248, 1249, 1250, 1251, 1252, 1253, 1254, 1255, 1256, 1257, 1258, 1259, 1260, 1261, 1262, 1263, 1264, 1265, 1266, 1267, 1268, 1269, 1270, 1271, 1272, 1273, 1274] (by decide +kernel) (by decide +kernel)
set_option maxRecDepth 20000 in
theorem gL_law_X12_lasts : GoodIn wsL_law (wsV RL 98 RX12 yX12_lasts wsX12_lasts) := goodIn_app (goodIn_of _ (by decide +kernel)) ggL_law_X12_lasts
set_option maxRecDepth 20000 in
theorem ggL_law_X11_reign : GoodIn wsL_law wsX11_reign := goodIn_r _ [834, 16, 538, 40, 835, 836, 837, 2, 838, 839, 840, 841, 39, 842, 140, 138, 843, 754, 755, 31, 756, 123, 638, 712, 635, 636, 637, 124, 120, 121, 639, 426, 427, 15, 428, 65, 640, 414, 415, 19, 416, 78, 844, 845, 846, 847, 848, 849, 850, 851, 852, 853, 854, 855, 856, 857, 858, 859, 860, 861, 862, 863, 864, 865, 866, 584, 585, 586, 72, 867, 688, 689, 690, 868, 869, 870, 871, 872, 873, 874, 875, 876, 877, 878, 139, 879, 580, 581, 582, 66, 880, 881, 882, 1223, 1224, 1225, 1226, 1227, 1228, 1229, 1230, 1231, 1232, 1233, 1234, 1235, 1236, 1237, 1275, 1276, 1277, 1278, 1279, 1280, 1281, 1315, 1316, 1317, 1306, 1307, 1308, 1309, 1310, 1282, 1283, 1284, 1285, 1286, 1287, 1288, 1289, 1290] (by decide +kernel) (by decide +kernel)
set_option maxRecDepth 20000 in
theorem gL_law_X11_reign : GoodIn wsL_law (wsV RL 99 RX11 yX11_reign wsX11_reign) := goodIn_app (goodIn_of _ (by decide +kernel)) ggL_law_X11_reign
set_option maxRecDepth 20000 in
theorem ggL_law_X12_reign : GoodIn wsL_law wsX12_reign := goodIn_r _ [886, 791, 887, 211, 239, 240, 5, 241, 888, 889, 890, 891, 187, 210, 805, 806, 807, 808, 177, 695, 696, 697, 698, 183, 663, 664, 665, 666, 175, 667, 668, 669, 892, 893, 894, 895, 896, 897, 898, 899, 1238, 1239, 1240, 1241, 1242, 1243, 1244, 1245, 1246, 1247, 1248, 1249, 1250, 1251, 1252, 1253, 1254, 1255, 1256, 1257, 1258, 1259, 1260, 1261, 1262, 1263, 1264, 1265, 1266, 1267, 1268, 1269, 1270, 1271, 1272, 1273, 1274] (by decide +kernel) (by decide +kernel)
set_option maxRecDepth 20000 in
theorem gL_law_X12_reign : GoodIn wsL_law (wsV RL 102 RX12 yX12_reign wsX12_reign) := goodIn_app (goodIn_of _ (by decide +kernel)) ggL_law_X12_reign
set_option maxRecDepth 20000 in
theorem ggL_law_X11_raise : GoodIn wsL_law wsX11_raise := goodIn_r _ [903, 16, 538, 40, 835, 551, 552, 553, 15, 554, 65, 836, 837, 2, 838, 904, 905, 906, 39, 907, 140, 138, 843, 754, 755, 31, 756, 123, 638, 712, 635, 636, 637, 124, 120, 121, 639, 426, 427, 428, 640, 414, 415, 19, 416, 78, 850, 851, 852, 853, 848, 849, 854, 855, 856, 857, 858, 859, 860, 861, 862, 863, 864, 865, 866, 584, 585, 586, 72, 867, 688, 689, 690, 868, 869, 870, 871, 872, 873, 874, 875, 876, 877, 878, 139, 879, 580, 581, 582, 66, 880, 881, 882, 1223, 1224, 1225, 1226, 1227, 1228, 1229, 1230, 1231, 1232, 1233, 1234, 1235, 1236, 1237, 1275, 1276, 1277, 1278, 1279, 1280, 1281, 1315, 1316, 1317, 1306, 1307, 1308, 1309, 1310, 1282, 1283, 1284, 1285, 1286, 1287, 1288, 1289, 1290] (by decide +kernel) (by decide +kernel)
set_option maxRecDepth 20000 in
theorem gL_law_X11_raise : GoodIn wsL_law (wsV RL 103 RX11 yX11_raise wsX11_raise) := goodIn_app (goodIn_of _ (by decide +kernel)) ggL_law_X11_raise
set_option maxRecDepth 20000 in
theorem ggL_law_X12_raise : GoodIn wsL_law wsX12_raise := goodIn_r _ [911, 791, 887, 211, 188, 559, 560, 561, 5, 562, 210, 239, 240, 241, 912, 913, 914, 915, 916, 805, 806, 807, 808, 177, 695, 696, 697, 698, 183, 663, 664, 665, 666, 175, 667, 668, 669, 896, 897, 898, 899, 1238, 1239, 1240, 1241, 1242, 1243, 1244, 1245, 1246, 1247, 1248, 1249, 1250, 1251, 1252, 1253, 1254, 1255, 1256, 1257, 1258, 1259, 1260, 1261, 1262, 1263, 1264, 1265, 1266, 1267, 1268, 1269, 1270, 1271, 1272, 1273, 1274] (by decide +kernel) (by decide +kernel)
set_option maxRecDepth 20000 in
theorem gL_law_X12_raise : GoodIn wsL_law (wsV RL 106 RX12 yX12_raise wsX12_raise) := goodIn_app (goodIn_of _ (by decide +kernel)) ggL_law_X12_raise
set_option maxRecDepth 20000 in
theorem ggL_law_X11_coup : GoodIn wsL_law wsX11_coup := goodIn_r _ [920, 16, 32, 44, 551, 552, 553, 15, 554, 65, 579, 580, 581, 582, 66, 739, 740, 2, 741, 921, 754, 755, 31, 756, 123, 638, 712, 635, 636, 637, 124, 120, 121, 639, 426, 427, 428, 640, 414, 415, 19, 416, 78, 641, 642, 643, 644, 645, 122, 646, 647, 648, 649, 650, 584, 585, 586, 72, 922, 923, 924, 43, 925, 145, 926, 927, 928, 929, 930, 931, 932, 933, 934, 935, 936, 652, 653, 654, 655, 656, 657, 658, 937, 938, 939, 940, 941, 942, 943, 944, 945, 946, 1223, 1224, 1225, 1226, 1227, 1228, 1229, 1230, 1231, 1232, 1233, 1234, 1235, 1236, 1237, 1275, 1276, 1277, 1278, 1279, 1280, 1281, 1306, 1307, 1308, 1309, 1310, 1282, 1283, 1284, 1285, 1286, 1287, 1288, 1289, 1290, 1318] (by decide +kernel) (by decide +kernel)
set_option maxRecDepth 20000 in
theorem gL_law_X11_coup : GoodIn wsL_law (wsV RL 107 RX11 yX11_coup wsX11_coup) := goodIn_app (goodIn_of _ (by decide +kernel)) ggL_law_X11_coup
set_option maxRecDepth 20000 in
theorem ggL_law_X12_coup : GoodIn wsL_law wsX12_coup := goodIn_r _ [950, 559, 560, 561, 5, 562, 210, 239, 240, 241, 591, 592, 593, 594, 211, 794, 795, 796, 951, 952, 953, 954, 955, 956, 957, 958, 190, 189, 959, 960, 961, 962, 175, 183, 663, 664, 665, 666, 667, 668, 669, 670, 671, 672, 673, 177, 963, 964, 965, 966, 1238, 1239, 1240, 1241, 1242, 1243, 1244, 1245, 1246, 1247, 1248, 1249, 1250, 1251, 1252, 1253, 1254, 1255, 1256, 1257, 1258, 1259, 1260, 1261, 1262, 1263, 1264, 1265, 1266, 1267, 1268, 1269, 1270, 1271, 1272, 1273, 1274] (by decide +kernel) (by decide +kernel)
set_option maxRecDepth 20000 in
theorem gL_law_X12_coup : GoodIn wsL_law (wsV RL 110 RX12 yX12_coup wsX12_coup) := goodIn_app (goodIn_of _ (by decide +kernel)) ggL_law_X12_coup
set_option maxRecDepth 20000 in
theorem ggL_law_X11_firm : GoodIn wsL_law wsX11_firm := goodIn_r _ [970, 16, 32, 537, 44, 579, 580, 581, 15, 582, 66, 921, 754, 755, 31, 756, 123, 638, 712, 635, 636, 637, 124, 120, 121, 639, 426, 427, 428, 65, 640, 414, 415, 19, 416, 78, 641, 642, 643, 644, 645, 122, 646, 647, 648, 649, 650, 584, 585, 586, 72, 922, 923, 924, 43, 925, 145, 926, 927, 928, 929, 930, 931, 932, 933, 934, 935, 936, 652, 653, 654, 655, 656, 657, 658, 937, 938, 939, 940, 941, 942, 1223, 1224, 1225, 1226, 1227, 1228, 1229, 1230, 1231, 1232, 1233, 1234, 1235, 1236, 1237, 1275, 1276, 1277, 1278, 1279, 1280, 1281, 1306, 1307, 1308, 1309, 1310, 1282, 1283, 1284, 1285, 1286, 1287, 1288, 1289, 1290, 1318] (by decide +kernel) (by decide +kernel)
set_option maxRecDepth 20000 in
theorem gL_law_X11_firm : GoodIn wsL_law (wsV RL 111 RX11 yX11_firm wsX11_firm) := goodIn_app (goodIn_of _ (by decide +kernel)) ggL_law_X11_firm
set_option maxRecDepth 20000 in
theorem ggL_law_X12_firm : GoodIn wsL_law wsX12_firm := goodIn_r _ [974, 210, 591, 592, 593, 5, 594, 211, 239, 240, 241, 951, 952, 953, 954, 955, 956, 957, 958, 190, 189, 959, 960, 961, 962, 175, 183, 663, 664, 665, 666, 667, 668, 669, 670, 671, 672, 673, 177, 963, 964, 965, 966, 1238, 1239, 1240, 1241, 1242, 1243, 1244, 1245, 1246, 1247, 1248, 1249, 1250, 1251, 1252, 1253, 1254, 1255, 1256, 1257, 1258, 1259, 1260, 1261, 1262, 1263, 1264, 1265, 1266, 1267, 1268, 1269, 1270, 1271, 1272, 1273, 1274] (by decide +kernel) (by decide +kernel)
set_option maxRecDepth 20000 in
theorem gL_law_X12_firm : GoodIn wsL_law (wsV RL 114 RX12 yX12_firm wsX12_firm) := goodIn_app (goodIn_of _ (by decide +kernel)) ggL_law_X12_firm
set_option maxRecDepth 20000 in
theorem ggL_law_X11_see : GoodIn wsL_law wsX11_see := goodIn_r _ [978, 16, 20, 979, 980, 551, 552, 553, 15, 554, 65, 1223, 1224, 1225, 1226, 1227, 1228, 1229, 1230, 1231, 1232, 1233, 1234, 1235, 1236, 1237, 1282, 1283, 1284, 1285, 1286, 1287, 1288, 1289, 1290, 1275, 1276, 1277, 1278, 1279, 1280, 1281] (by decide +kernel) (by decide +kernel)
set_option maxRecDepth 20000 in
theorem gL_law_X11_see : GoodIn wsL_law (wsV RL 115 RX11 yX11_see wsX11_see) := goodIn_app (goodIn_of _ (by decide +kernel)) ggL_law_X11_see
set_option maxRecDepth 20000 in
theorem ggL_law_X12_see : GoodIn wsL_law wsX12_see := goodIn_r _ [984, 175, 559, 560, 561, 5, 562, 210, 239, 240, 241, 1238, 1239, 1240, 1241, 1242, 1243, 1244, 1245, 1246, 1247, 1248, 1249, 1250, 1251, 1252, 1253, 1254, 1255, 1256, 1257, 1258, 1259, 1260, 1261, 1262, 1263, 1264, 1265, 1266, 1267, 1268, 1269, 1270, 1271, 1272, 1273, 1274] (by decide +kernel) (by decide +kernel)
set_option maxRecDepth 20000 in
theorem gL_law_X12_see : GoodIn wsL_law (wsV RL 118 RX12 yX12_see wsX12_see) := goodIn_app (goodIn_of _ (by decide +kernel)) ggL_law_X12_see
set_option maxRecDepth 20000 in
theorem ggL_law_X11_forget : GoodIn wsL_law wsX11_forget := goodIn_r _ [988, 20, 979, 1223, 1224, 1225, 1226, 1227, 1228, 1229, 1230, 1231, 1232, 1233, 1234, 1235, 1236, 1237, 1282, 1283, 1284, 1285, 1286, 1287, 1288, 1289, 1290] (by decide +kernel) (by decide +kernel)
set_option maxRecDepth 20000 in
theorem gL_law_X11_forget : GoodIn wsL_law (wsV RL 119 RX11 yX11_forget wsX11_forget) := goodIn_app (goodIn_of _ (by decide +kernel)) ggL_law_X11_forget
set_option maxRecDepth 20000 in
theorem ggL_law_X12_forget : GoodIn wsL_law wsX12_forget := goodIn_r _ [992, 175, 239, 240, 5, 241, 1238, 1239, 1240, 1241, 1242, 1243, 1244, 1245, 1246, 1247, 1248, 1249, 1250, 1251, 1252, 1253, 1254, 1255, 1256, 1257, 1258, 1259, 1260, 1261, 1262, 1263, 1264, 1265, 1266, 1267, 1268, 1269, 1270, 1271, 1272, 1273, 1274] (by decide +kernel) (by decide +kernel)
set_option maxRecDepth 20000 in
theorem gL_law_X12_forget : GoodIn wsL_law (wsV RL 122 RX12 yX12_forget wsX12_forget) := goodIn_app (goodIn_of _ (by decide +kernel)) ggL_law_X12_forget
set_option maxRecDepth 20000 in
theorem ggL_law_X11_histories : GoodIn wsL_law wsX11_histories := goodIn_r _ [996, 48, 836, 837, 2, 838, 997, 998, 999, 47, 1000, 151, 1001, 1002, 1003, 1004, 1005, 150, 1006, 635, 636, 31, 637, 123, 638, 124, 120, 121, 639, 426, 427, 15, 428, 65, 640, 414, 415, 19, 416, 78, 1007, 656, 657, 658, 1008, 1009, 1010, 1011, 1012, 1013, 1014, 584, 585, 586, 72, 1015, 1016, 1017, 1018, 1019, 1020, 1021, 1022, 1023, 1024, 1025, 1026, 1027, 1028, 1029, 1030, 1223, 1224, 1225, 1226, 1227, 1228, 1229, 1230, 1231, 1232, 1233, 1234, 1235, 1236, 1237, 1319, 1320, 1306, 1307, 1308, 1309, 1310, 1282, 1283, 1284, 1285, 1286, 1287, 1288, 1289, 1290, 1275, 1276, 1277, 1278, 1279, 1280, 1281] (by decide +kernel) (by decide +kernel)
set_option maxRecDepth 20000 in
theorem gL_law_X11_histories : GoodIn wsL_law (wsV RL 123 RX11 yX11_histories wsX11_histories) := goodIn_app (goodIn_of _ (by decide +kernel)) ggL_law_X11_histories
set_option maxRecDepth 20000 in
theorem ggL_law_X12_histories : GoodIn wsL_law wsX12_histories := goodIn_r _ [1034, 791, 1035, 191, 175, 211, 239, 240, 5, 241, 1036, 1037, 1038, 1039, 210, 805, 806, 807, 808, 177, 695, 696, 697, 698, 183, 663, 664, 665, 666, 667, 668, 669, 896, 897, 898, 899, 1040, 1041, 1042, 1043, 1238, 1239, 1240, 1241, 1242, 1243, 1244, 1245, 1246, 1247, 1248, 1249, 1250, 1251, 1252, 1253, 1254, 1255, 1256, 1257, 1258, 1259, 1260, 1261, 1262, 1263, 1264, 1265, 1266, 1267, 1268, 1269, 1270, 1271, 1272, 1273, 1274] (by decide +kernel) (by decide +kernel)
set_option maxRecDepth 20000 in
theorem gL_law_X12_histories : GoodIn wsL_law (wsV RL 126 RX12 yX12_histories wsX12_histories) := goodIn_app (goodIn_of _ (by decide +kernel)) ggL_law_X12_histories
set_option maxRecDepth 20000 in
theorem ggL_law_X11_could : GoodIn wsL_law wsX11_could := goodIn_r _ [1047, 20, 979, 48, 1048, 1027, 1028, 47, 1029, 151, 1001, 1004, 150, 1030, 998, 999, 1000, 1002, 1003, 1005, 1006, 635, 636, 31, 637, 123, 638, 124, 120, 121, 639, 426, 427, 15, 428, 65, 640, 414, 415, 19, 416, 78, 1007, 656, 657, 658, 1008, 1009, 1010, 1011, 1012, 1013, 1014, 584, 585, 586, 72, 1015, 1016, 1017, 1018, 1019, 1020, 1021, 1223, 1224, 1225, 1226, 1227, 1228, 1229, 1230, 1231, 1232, 1233, 1234, 1235, 1236, 1237, 1282, 1283, 1284, 1285, 1286, 1287, 1288, 1289, 1290, 1319, 1320, 1306, 1307, 1308, 1309, 1310, 1275, 1276, 1277, 1278, 1279, 1280, 1281] (by decide +kernel) (by decide +kernel)
set_option maxRecDepth 20000 in
theorem gL_law_X11_could : GoodIn wsL_law (wsV RL 127 RX11 yX11_could wsX11_could) := goodIn_app (goodIn_of _ (by decide +kernel)) ggL_law_X11_could
set_option maxRecDepth 20000 in
theorem ggL_law_X12_could : GoodIn wsL_law wsX12_could := goodIn_r _ [1052, 175, 192, 193, 211, 239, 240, 5, 241, 1036, 1037, 1038, 1039, 191, 210, 805, 806, 807, 808, 177, 695, 696, 697, 698, 183, 663, 664, 665, 666, 667, 668, 669, 896, 897, 898, 899, 1040, 1041, 1042, 1043, 1238, 1239, 1240, 1241, 1242, 1243, 1244, 1245, 1246, 1247, 1248, 1249, 1250, 1251, 1252, 1253, 1254, 1255, 1256, 1257, 1258, 1259, 1260, 1261, 1262, 1263, 1264, 1265, 1266, 1267, 1268, 1269, 1270, 1271, 1272, 1273, 1274] (by decide +kernel) (by decide +kernel)
set_option maxRecDepth 20000 in
theorem gL_law_X12_could : GoodIn wsL_law (wsV RL 130 RX12 yX12_could wsX12_could) := goodIn_app (goodIn_of _ (by decide +kernel)) ggL_law_X12_could
set_option maxRecDepth 20000 in
theorem ggL_law_X11_blind : GoodIn wsL_law wsX11_blind := goodIn_r _ [1056, 737, 36, 16, 537, 739, 740, 2, 741, 1057, 1058, 1059, 35, 1060, 132, 133, 764, 765, 757, 758, 88, 759, 778, 779, 780, 781, 782, 783, 784, 785, 786, 1223, 1224, 1225, 1226, 1227, 1228, 1229, 1230, 1231, 1232, 1233, 1234, 1235, 1236, 1237, 1275, 1276, 1277, 1278, 1279, 1280, 1281, 1311, 1312, 1313, 1314, 1306, 1307, 1308, 1309, 1310] (by decide +kernel) (by decide +kernel)
set_option maxRecDepth 20000 in
theorem gL_law_X11_blind : GoodIn wsL_law (wsV RL 131 RX11 yX11_blind wsX11_blind) := goodIn_app (goodIn_of _ (by decide +kernel)) ggL_law_X11_blind
set_option maxRecDepth 20000 in
theorem ggL_law_X12_blind : GoodIn wsL_law wsX12_blind := goodIn_r _ [1064, 1065, 792, 210, 239, 240, 5, 241, 794, 795, 796, 809, 810, 811, 812, 813, 814, 815, 816, 817, 818, 1238, 1239, 1240, 1241, 1242, 1243, 1244, 1245, 1246, 1247, 1248, 1249, 1250, 1251, 1252, 1253, 1254, 1255, 1256, 1257, 1258, 1259, 1260, 1261, 1262, 1263, 1264, 1265, 1266, 1267, 1268, 1269, 1270, 1271, 1272, 1273, 1274] (by decide +kernel) (by decide +kernel)
set_option maxRecDepth 20000 in
theorem gL_law_X12_blind : GoodIn wsL_law (wsV RL 134 RX12 yX12_blind wsX12_blind) := goodIn_app (goodIn_of _ (by decide +kernel)) ggL_law_X12_blind
set_option maxRecDepth 20000 in
theorem ggL_law_X11_fair : GoodIn wsL_law wsX11_fair := goodIn_r _ [1069, 16, 538, 52, 1070, 836, 837, 2, 838, 1071, 1072, 1073, 51, 1074, 1075, 1076, 381, 1077, 162, 163, 1078, 1079, 1080, 1081, 164, 1082, 1083, 156, 1084, 1085, 1086, 374, 375, 376, 157, 160, 158, 1087, 159, 1088, 1089, 754, 755, 31, 756, 123, 638, 712, 635, 636, 637, 124, 120, 121, 639, 426, 427, 15, 428, 65, 640, 414, 415, 19, 416, 78, 1090, 87, 88, 89, 1091, 1092, 1093, 1094, 1095, 584, 585, 586, 72, 1096, 656, 657, 658, 1097, 688, 689, 690, 1098, 1099, 1100, 1101, 1102, 380, 382, 161, 1103, 1104, 1105, 1106, 1107, 880, 881, 882, 1223, 1224, 1225, 1226, 1227, 1228, 1229, 1230, 1231, 1232, 1233, 1234, 1235, 1236, 1237, 1275, 1276, 1277, 1278, 1279, 1280, 1281, 1321, 1322, 1323, 1324, 1325, 1326, 1327, 1328, 1329, 1306, 1307, 1308, 1309, 1310, 1282, 1283, 1284, 1285, 1286, 1287, 1288, 1289, 1290] (by decide +kernel) (by decide +kernel)
set_option maxRecDepth 20000 in
theorem gL_law_X11_fair : GoodIn wsL_law (wsV RL 135 RX11 yX11_fair wsX11_fair) := goodIn_app (goodIn_of _ (by decide +kernel)) ggL_law_X11_fair
set_option maxRecDepth 20000 in
theorem ggL_law_X12_fair : GoodIn wsL_law wsX12_fair := goodIn_r _ [1111, 475, 791, 1112, 211, 916, 194, 239, 240, 5, 241, 809, 810, 811, 812, 1113, 1114, 1115, 1116, 210, 175, 1117, 1118, 1119, 1120, 721, 722, 723, 724, 184, 177, 183, 695, 696, 697, 698, 663, 664, 665, 666, 667, 668, 669, 1238, 1239, 1240, 1241, 1242, 1243, 1244, 1245, 1246, 1247, 1248, 1249, 1250, 1251, 1252, 1253, 1254, 1255, 1256, 1257, 1258, 1259, 1260, 1261, 1262, 1263, 1264, 1265, 1266, 1267, 1268, 1269, 1270, 1271, 1272, 1273, 1274] (by decide +kernel) (by decide +kernel)
set_option maxRecDepth 20000 in
theorem gL_law_X12_fair : GoodIn wsL_law (wsV RL 138 RX12 yX12_fair wsX12_fair) := goodIn_app (goodIn_of _ (by decide +kernel)) ggL_law_X12_fair
set_option maxRecDepth 20000 in
theorem ggL_law_X11_keep : GoodIn wsL_law wsX11_keep := goodIn_r _ [1124, 55, 53, 20, 1125, 1126, 2, 1127, 440, 441, 442, 19, 443, 77, 444, 374, 375, 376, 78, 79, 80, 81, 82, 83, 84, 85, 1223, 1224, 1225, 1226, 1227, 1228, 1229, 1230, 1231, 1232, 1233, 1234, 1235, 1236, 1237, 1282, 1283, 1284, 1285, 1286, 1287, 1288, 1289, 1290] (by decide +kernel) (by decide +kernel)
set_option maxRecDepth 20000 in
theorem gL_law_X11_keep : GoodIn wsL_law (wsV RL 139 RX11 yX11_keep wsX11_keep) := goodIn_app (goodIn_of _ (by decide +kernel)) ggL_law_X11_keep
set_option maxRecDepth 20000 in
theorem ggL_law_X12_keep : GoodIn wsL_law wsX12_keep := goodIn_r _ [1131, 176, 239, 240, 5, 241, 667, 668, 669, 1117, 1118, 1119, 1120, 175, 1238, 1239, 1240, 1241, 1242, 1243, 1244, 1245, 1246, 1247, 1248, 1249, 1250, 1251, 1252, 1253, 1254, 1255, 1256, 1257, 1258, 1259, 1260, 1261, 1262, 1263, 1264, 1265, 1266, 1267, 1268, 1269, 1270, 1271, 1272, 1273, 1274] (by decide +kernel) (by decide +kernel)
set_option maxRecDepth 20000 in
theorem gL_law_X12_keep : GoodIn wsL_law (wsV RL 142 RX12 yX12_keep wsX12_keep) := goodIn_app (goodIn_of _ (by decide +kernel)) ggL_law_X12_keep
set_option maxRecDepth 20000 in
theorem ggL_law_X11_back : GoodIn wsL_law wsX11_back := goodIn_r _ [1135, 55, 20, 53, 539, 1125, 1126, 2, 1127, 440, 441, 442, 19, 443, 77, 444, 374, 375, 376, 78, 79, 80, 81, 82, 83, 84, 85, 1223, 1224, 1225, 1226, 1227, 1228, 1229, 1230, 1231, 1232, 1233, 1234, 1235, 1236, 1237, 1282, 1283, 1284, 1285, 1286, 1287, 1288, 1289, 1290] (by decide +kernel) (by decide +kernel)
set_option maxRecDepth 20000 in
theorem gL_law_X11_back : GoodIn wsL_law (wsV RL 143 RX11 yX11_back wsX11_back) := goodIn_app (goodIn_of _ (by decide +kernel)) ggL_law_X11_back
set_option maxRecDepth 20000 in
theorem ggL_law_X12_back : GoodIn wsL_law wsX12_back := goodIn_r _ [1139, 176, 175, 239, 240, 5, 241, 1117, 1118, 1119, 1120, 1238, 1239, 1240, 1241, 1242, 1243, 1244, 1245, 1246, 1247, 1248, 1249, 1250, 1251, 1252, 1253, 1254, 1255, 1256, 1257, 1258, 1259, 1260, 1261, 1262, 1263, 1264, 1265, 1266, 1267, 1268, 1269, 1270, 1271, 1272, 1273, 1274] (by decide +kernel) (by decide +kernel)
set_option maxRecDepth 20000 in
theorem gL_law_X12_back : GoodIn wsL_law (wsV RL 146 RX12 yX12_back wsX12_back) := goodIn_app (goodIn_of _ (by decide +kernel)) ggL_law_X12_back
set_option maxRecDepth 20000 in
theorem ggL_law_X11_sheet : GoodIn wsL_law wsX11_sheet := goodIn_r _ [1143, 57, 1144, 1145, 2, 1146, 1147, 1148, 1149, 1150, 1151, 1152, 61, 1153, 168, 169, 170, 1154, 87, 88, 89, 1223, 1224, 1225, 1226, 1227, 1228, 1229, 1230, 1231, 1232, 1233, 1234, 1235, 1236, 1237, 1330, 1331, 1332] (by decide +kernel) (by decide +kernel)
set_option maxRecDepth 20000 in
theorem gL_law_X11_sheet : GoodIn wsL_law (wsV RL 147 RX11 yX11_sheet wsX11_sheet) := goodIn_app (goodIn_of _ (by decide +kernel)) ggL_law_X11_sheet
set_option maxRecDepth 20000 in
theorem ggL_law_X12_sheet : GoodIn wsL_law wsX12_sheet := goodIn_r _ [1158, 195, 196, 197, 1159, 1160, 5, 1161, 1162, 1163, 239, 240, 241, 1238, 1239, 1240, 1241, 1242, 1243, 1244, 1245, 1246, 1247, 1248, 1249, 1250, 1251, 1252, 1253, 1254, 1255, 1256, 1257, 1258, 1259, 1260, 1261, 1262, 1263, 1264, 1265, 1266, 1267, 1268, 1269, 1270, 1271, 1272, 1273, 1274] (by decide +kernel) (by decide +kernel)
set_option maxRecDepth 20000 in
theorem gL_law_X12_sheet : GoodIn wsL_law (wsV RL 150 RX12 yX12_sheet wsX12_sheet) := goodIn_app (goodIn_of _ (by decide +kernel)) ggL_law_X12_sheet
set_option maxRecDepth 20000 in
theorem ggL_law_X11_lay : GoodIn wsL_law wsX11_lay := goodIn_r _ [1167, 57, 1168, 1144, 1145, 2, 1146, 1169, 1170, 1171, 61, 1172, 168, 169, 1173, 1174, 1175, 1176, 1177, 1178, 1179, 1180, 170, 1223, 1224, 1225, 1226, 1227, 1228, 1229, 1230, 1231, 1232, 1233, 1234, 1235, 1236, 1237, 1330, 1331, 1332] (by decide +kernel) (by decide +kernel)
set_option maxRecDepth 20000 in
theorem gL_law_X11_lay : GoodIn wsL_law (wsV RL 151 RX11 yX11_lay wsX11_lay) := goodIn_app (goodIn_of _ (by decide +kernel)) ggL_law_X11_lay
set_option maxRecDepth 20000 in
theorem ggL_law_X12_lay : GoodIn wsL_law wsX12_lay := goodIn_r _ [1184, 195, 196, 197, 1159, 1160, 5, 1161, 1162, 1163, 239, 240, 241, 1238, 1239, 1240, 1241, 1242, 1243, 1244, 1245, 1246, 1247, 1248, 1249, 1250, 1251, 1252, 1253, 1254, 1255, 1256, 1257, 1258, 1259, 1260, 1261, 1262, 1263, 1264, 1265, 1266, 1267, 1268, 1269, 1270, 1271, 1272, 1273, 1274] (by decide +kernel) (by decide +kernel)
set_option maxRecDepth 20000 in
theorem gL_law_X12_lay : GoodIn wsL_law (wsV RL 154 RX12 yX12_lay wsX12_lay) := goodIn_app (goodIn_of _ (by decide +kernel)) ggL_law_X12_lay
set_option maxRecDepth 20000 in
theorem ggL_law_X11_read : GoodIn wsL_law wsX11_read := goodIn_r _ [1188, 57, 1189, 32, 59, 1144, 1145, 2, 1146, 1147, 1148, 1149, 1169, 1170, 1171, 61, 1172, 168, 169, 1173, 1174, 1175, 1176, 1190, 1191, 1192, 1193, 16, 20, 540, 579, 580, 581, 15, 582, 66, 703, 704, 705, 31, 706, 124, 707, 122, 645, 123, 638, 708, 374, 375, 376, 709, 710, 711, 712, 635, 636, 637, 120, 121, 639, 426, 427, 428, 65, 640, 414, 415, 19, 416, 78, 713, 642, 643, 644, 646, 647, 648, 649, 650, 584, 585, 586, 72, 714, 715, 652, 653, 654, 655, 656, 657, 658, 716, 688, 689, 690, 1223, 1224, 1225, 1226, 1227, 1228, 1229, 1230, 1231, 1232, 1233, 1234, 1235, 1236, 1237, 1330, 1331, 1332, 1282, 1283, 1284, 1285, 1286, 1287, 1288, 1289, 1290, 1275, 1276, 1277, 1278, 1279, 1280, 1281, 1306, 1307, 1308, 1309, 1310] (by decide +kernel) (by decide +kernel)
set_option maxRecDepth 20000 in
theorem gL_law_X11_read : GoodIn wsL_law (wsV RL 155 RX11 yX11_read wsX11_read) := goodIn_app (goodIn_of _ (by decide +kernel)) ggL_law_X11_read
set_option maxRecDepth 20000 in
theorem ggL_law_X12_read : GoodIn wsL_law wsX12_read := goodIn_r _ [1197, 1198, 195, 196, 197, 1199, 1159, 1160, 5, 1161, 1162, 1163, 239, 240, 241, 1117, 1118, 1119, 1120, 175, 1200, 718, 719, 720, 591, 592, 593, 594, 211, 721, 722, 723, 724, 210, 184, 177, 183, 695, 696, 697, 698, 663, 664, 665, 666, 667, 668, 669, 1238, 1239, 1240, 1241, 1242, 1243, 1244, 1245, 1246, 1247, 1248, 1249, 1250, 1251, 1252, 1253, 1254, 1255, 1256, 1257, 1258, 1259, 1260, 1261, 1262, 1263, 1264, 1265, 1266, 1267, 1268, 1269, 1270, 1271, 1272, 1273, 1274] (by decide +kernel) (by decide +kernel)
set_option maxRecDepth 20000 in
theorem gL_law_X12_read : GoodIn wsL_law (wsV RL 159 RX12 yX12_read wsX12_read) := goodIn_app (goodIn_of _ (by decide +kernel)) ggL_law_X12_read
set_option maxRecDepth 20000 in
theorem ggL_law_X11_torn : GoodIn wsL_law wsX11_torn := goodIn_r _ [1204, 59, 1223, 1224, 1225, 1226, 1227, 1228, 1229, 1230, 1231, 1232, 1233, 1234, 1235, 1236, 1237] (by decide +kernel) (by decide +kernel)
set_option maxRecDepth 20000 in
theorem gL_law_X11_torn : GoodIn wsL_law (wsV RL 160 RX11 yX11_torn wsX11_torn) := goodIn_app (goodIn_of _ (by decide +kernel)) ggL_law_X11_torn
set_option maxRecDepth 20000 in
theorem ggL_law_X12_torn : GoodIn wsL_law wsX12_torn := goodIn_r _ [1208, 1199, 1238, 1239, 1240, 1241, 1242, 1243, 1244, 1245, 1246, 1247, 1248, 1249, 1250, 1251, 1252, 1253, 1254, 1255, 1256, 1257, 1258, 1259, 1260, 1261, 1262, 1263, 1264, 1265, 1266, 1267, 1268, 1269, 1270, 1271, 1272, 1273, 1274] (by decide +kernel) (by decide +kernel)
set_option maxRecDepth 20000 in
theorem gL_law_X12_torn : GoodIn wsL_law (wsV RL 163 RX12 yX12_torn wsX12_torn) := goodIn_app (goodIn_of _ (by decide +kernel)) ggL_law_X12_torn
set_option maxRecDepth 20000 in
theorem ggL_law_X11_count : GoodIn wsL_law wsX11_count := goodIn_r _ [1212, 20, 979, 55, 24, 220, 57, 1213, 1214, 1174, 1175, 61, 1176, 168, 1215, 1216, 1217, 2, 1218, 16, 537, 550, 1223, 1224, 1225, 1226, 1227, 1228, 1229, 1230, 1231, 1232, 1233, 1234, 1235, 1236, 1237, 1282, 1283, 1284, 1285, 1286, 1287, 1288, 1289, 1290, 1291, 1292, 1293, 1294, 1295, 1296, 1330, 1331, 1332, 1275, 1276, 1277, 1278, 1279, 1280, 1281] (by decide +kernel) (by decide +kernel)
set_option maxRecDepth 20000 in
theorem gL_law_X11_count : GoodIn wsL_law (wsV RL 164 RX11 yX11_count wsX11_count) := goodIn_app (goodIn_of _ (by decide +kernel)) ggL_law_X11_count
set_option maxRecDepth 20000 in
theorem ggL_law_X12_count : GoodIn wsL_law wsX12_count := goodIn_r _ [1222, 210, 175, 176, 229, 195, 196, 667, 668, 5, 669, 1238, 1239, 1240, 1241, 1242, 1243, 1244, 1245, 1246, 1247, 1248, 1249, 1250, 1251, 1252, 1253, 1254, 1255, 1256, 1257, 1258, 1259, 1260, 1261, 1262, 1263, 1264, 1265, 1266, 1267, 1268, 1269, 1270, 1271, 1272, 1273, 1274] (by decide +kernel) (by decide +kernel)
set_option maxRecDepth 20000 in
theorem gL_law_X12_count : GoodIn wsL_law (wsV RL 167 RX12 yX12_count wsX12_count) := goodIn_app (goodIn_of _ (by decide +kernel)) ggL_law_X12_count
theorem dL_law_0 : decode cL_law 0 = .ok (.new 7, 3) := by decide +kernel
theorem dL_law_3 : decode cL_law 3 = .ok (.dup, 1) := by decide +kernel
theorem dL_law_4 : decode cL_law 4 = .ok (.invokespecial 9, 3) := by decide +kernel
theorem dL_law_7 : decode cL_law 7 = .ok (.astore_n 1, 1) := by decide +kernel
theorem dL_law_8 : decode cL_law 8 = .ok (.new 10, 3) := by decide +kernel
theorem dL_law_11 : decode cL_law 11 = .ok (.dup, 1) := by decide +kernel
theorem dL_law_12 : decode cL_law 12 = .ok (.invokespecial 12, 3) := by decide +kernel
theorem dL_law_15 : decode cL_law 15 = .ok (.astore_n 2, 1) := by decide +kernel
theorem dL_law_16 : decode cL_law 16 = .ok (.iconst 0, 1) := by decide +kernel
theorem dL_law_17 : decode cL_law 17 = .ok (.istore_n 3, 1) := by decide +kernel
theorem dL_law_18 : decode cL_law 18 = .ok (.iload_n 3, 1) := by decide +kernel
theorem dL_law_19 : decode cL_law 19 = .ok (.aload_n 0, 1) := by decide +kernel
theorem dL_law_20 : decode cL_law 20 = .ok (.arraylength, 1) := by decide +kernel
theorem dL_law_21 : decode cL_law 21 = .ok (.iconst 5, 1) := by decide +kernel
theorem dL_law_22 : decode cL_law 22 = .ok (.isub, 1) := by decide +kernel
theorem dL_law_23 : decode cL_law 23 = .ok (.if_icmp .gt 1292, 3) := by decide +kernel
theorem dL_law_26 : decode cL_law 26 = .ok (.aload_n 0, 1) := by decide +kernel
theorem dL_law_27 : decode cL_law 27 = .ok (.iload_n 3, 1) := by decide +kernel
theorem dL_law_28 : decode cL_law 28 = .ok (.iaload, 1) := by decide +kernel
theorem dL_law_29 : decode cL_law 29 = .ok (.bipush 63, 2) := by decide +kernel
theorem dL_law_31 : decode cL_law 31 = .ok (.iand, 1) := by decide +kernel
theorem dL_law_32 : decode cL_law 32 = .ok (.tableswitch 1277 0 35 #[160, 213, 236, 249, 262, 285, 308, 341, 374, 433, 466, 489, 522, 565, 608, 641, 664, 677, 721, 755, 788, 821, 864, 887, 910, 933, 956, 979, 1023, 1056, 1079, 1102, 1145, 1188, 1241, 1254], 160) := by decide +kernel
theorem dL_law_192 : decode cL_law 192 = .ok (.aload_n 1, 1) := by decide +kernel
theorem dL_law_193 : decode cL_law 193 = .ok (.aload_n 0, 1) := by decide +kernel
theorem dL_law_194 : decode cL_law 194 = .ok (.iload_n 3, 1) := by decide +kernel
theorem dL_law_195 : decode cL_law 195 = .ok (.iconst 1, 1) := by decide +kernel
theorem dL_law_196 : decode cL_law 196 = .ok (.iadd, 1) := by decide +kernel
theorem dL_law_197 : decode cL_law 197 = .ok (.iaload, 1) := by decide +kernel
theorem dL_law_198 : decode cL_law 198 = .ok (.i2l, 1) := by decide +kernel
theorem dL_law_199 : decode cL_law 199 = .ok (.bipush 32, 2) := by decide +kernel
theorem dL_law_201 : decode cL_law 201 = .ok (.lshl, 1) := by decide +kernel
theorem dL_law_202 : decode cL_law 202 = .ok (.aload_n 0, 1) := by decide +kernel
theorem dL_law_203 : decode cL_law 203 = .ok (.iload_n 3, 1) := by decide +kernel
theorem dL_law_204 : decode cL_law 204 = .ok (.iconst 2, 1) := by decide +kernel
theorem dL_law_205 : decode cL_law 205 = .ok (.iadd, 1) := by decide +kernel
theorem dL_law_206 : decode cL_law 206 = .ok (.iaload, 1) := by decide +kernel
theorem dL_law_207 : decode cL_law 207 = .ok (.i2l, 1) := by decide +kernel
theorem dL_law_208 : decode cL_law 208 = .ok (.ldc2_w 13, 3) := by decide +kernel
theorem dL_law_211 : decode cL_law 211 = .ok (.land, 1) := by decide +kernel
theorem dL_law_212 : decode cL_law 212 = .ok (.lor, 1) := by decide +kernel
theorem dL_law_213 : decode cL_law 213 = .ok (.invokevirtual 15, 3) := by decide +kernel
theorem dL_law_216 : decode cL_law 216 = .ok (.aload_n 2, 1) := by decide +kernel
theorem dL_law_217 : decode cL_law 217 = .ok (.aload_n 0, 1) := by decide +kernel
theorem dL_law_218 : decode cL_law 218 = .ok (.iload_n 3, 1) := by decide +kernel
theorem dL_law_219 : decode cL_law 219 = .ok (.iconst 1, 1) := by decide +kernel
theorem dL_law_220 : decode cL_law 220 = .ok (.iadd, 1) := by decide +kernel
theorem dL_law_221 : decode cL_law 221 = .ok (.iaload, 1) := by decide +kernel
theorem dL_law_222 : decode cL_law 222 = .ok (.i2l, 1) := by decide +kernel
theorem dL_law_223 : decode cL_law 223 = .ok (.bipush 32, 2) := by decide +kernel
theorem dL_law_225 : decode cL_law 225 = .ok (.lshl, 1) := by decide +kernel
theorem dL_law_226 : decode cL_law 226 = .ok (.aload_n 0, 1) := by decide +kernel
theorem dL_law_227 : decode cL_law 227 = .ok (.iload_n 3, 1) := by decide +kernel
theorem dL_law_228 : decode cL_law 228 = .ok (.iconst 2, 1) := by decide +kernel
theorem dL_law_229 : decode cL_law 229 = .ok (.iadd, 1) := by decide +kernel
theorem dL_law_230 : decode cL_law 230 = .ok (.iaload, 1) := by decide +kernel
theorem dL_law_231 : decode cL_law 231 = .ok (.i2l, 1) := by decide +kernel
theorem dL_law_232 : decode cL_law 232 = .ok (.ldc2_w 13, 3) := by decide +kernel
theorem dL_law_235 : decode cL_law 235 = .ok (.land, 1) := by decide +kernel
theorem dL_law_236 : decode cL_law 236 = .ok (.lor, 1) := by decide +kernel
theorem dL_law_237 : decode cL_law 237 = .ok (.invokevirtual 19, 3) := by decide +kernel
theorem dL_law_240 : decode cL_law 240 = .ok (.if_icmp .eq 1069, 3) := by decide +kernel
theorem dL_law_243 : decode cL_law 243 = .ok (.iconst 0, 1) := by decide +kernel
theorem dL_law_244 : decode cL_law 244 = .ok (.ireturn, 1) := by decide +kernel
theorem dL_law_245 : decode cL_law 245 = .ok (.aload_n 1, 1) := by decide +kernel
theorem dL_law_246 : decode cL_law 246 = .ok (.aload_n 0, 1) := by decide +kernel
theorem dL_law_247 : decode cL_law 247 = .ok (.iload_n 3, 1) := by decide +kernel
theorem dL_law_248 : decode cL_law 248 = .ok (.iconst 1, 1) := by decide +kernel
theorem dL_law_249 : decode cL_law 249 = .ok (.iadd, 1) := by decide +kernel
theorem dL_law_250 : decode cL_law 250 = .ok (.iaload, 1) := by decide +kernel
theorem dL_law_251 : decode cL_law 251 = .ok (.invokevirtual 20, 3) := by decide +kernel
theorem dL_law_254 : decode cL_law 254 = .ok (.aload_n 2, 1) := by decide +kernel
theorem dL_law_255 : decode cL_law 255 = .ok (.aload_n 0, 1) := by decide +kernel
theorem dL_law_256 : decode cL_law 256 = .ok (.iload_n 3, 1) := by decide +kernel
theorem dL_law_257 : decode cL_law 257 = .ok (.iconst 1, 1) := by decide +kernel
theorem dL_law_258 : decode cL_law 258 = .ok (.iadd, 1) := by decide +kernel
theorem dL_law_259 : decode cL_law 259 = .ok (.iaload, 1) := by decide +kernel
theorem dL_law_260 : decode cL_law 260 = .ok (.invokevirtual 24, 3) := by decide +kernel
theorem dL_law_263 : decode cL_law 263 = .ok (.if_icmp .eq 1046, 3) := by decide +kernel
theorem dL_law_266 : decode cL_law 266 = .ok (.iconst 0, 1) := by decide +kernel
theorem dL_law_267 : decode cL_law 267 = .ok (.ireturn, 1) := by decide +kernel
theorem dL_law_268 : decode cL_law 268 = .ok (.aload_n 1, 1) := by decide +kernel
theorem dL_law_269 : decode cL_law 269 = .ok (.invokevirtual 25, 3) := by decide +kernel
theorem dL_law_272 : decode cL_law 272 = .ok (.aload_n 2, 1) := by decide +kernel
theorem dL_law_273 : decode cL_law 273 = .ok (.invokevirtual 29, 3) := by decide +kernel
theorem dL_law_276 : decode cL_law 276 = .ok (.if_icmp .eq 1033, 3) := by decide +kernel
theorem dL_law_279 : decode cL_law 279 = .ok (.iconst 0, 1) := by decide +kernel
theorem dL_law_280 : decode cL_law 280 = .ok (.ireturn, 1) := by decide +kernel
theorem dL_law_281 : decode cL_law 281 = .ok (.aload_n 1, 1) := by decide +kernel
theorem dL_law_282 : decode cL_law 282 = .ok (.invokevirtual 30, 3) := by decide +kernel
theorem dL_law_285 : decode cL_law 285 = .ok (.aload_n 2, 1) := by decide +kernel
theorem dL_law_286 : decode cL_law 286 = .ok (.invokevirtual 33, 3) := by decide +kernel
theorem dL_law_289 : decode cL_law 289 = .ok (.if_icmp .eq 1020, 3) := by decide +kernel
theorem dL_law_292 : decode cL_law 292 = .ok (.iconst 0, 1) := by decide +kernel
theorem dL_law_293 : decode cL_law 293 = .ok (.ireturn, 1) := by decide +kernel
theorem dL_law_294 : decode cL_law 294 = .ok (.aload_n 1, 1) := by decide +kernel
theorem dL_law_295 : decode cL_law 295 = .ok (.aload_n 0, 1) := by decide +kernel
theorem dL_law_296 : decode cL_law 296 = .ok (.iload_n 3, 1) := by decide +kernel
theorem dL_law_297 : decode cL_law 297 = .ok (.iconst 1, 1) := by decide +kernel
theorem dL_law_298 : decode cL_law 298 = .ok (.iadd, 1) := by decide +kernel
theorem dL_law_299 : decode cL_law 299 = .ok (.iaload, 1) := by decide +kernel
theorem dL_law_300 : decode cL_law 300 = .ok (.invokevirtual 34, 3) := by decide +kernel
theorem dL_law_303 : decode cL_law 303 = .ok (.aload_n 2, 1) := by decide +kernel
theorem dL_law_304 : decode cL_law 304 = .ok (.aload_n 0, 1) := by decide +kernel
theorem dL_law_305 : decode cL_law 305 = .ok (.iload_n 3, 1) := by decide +kernel
theorem dL_law_306 : decode cL_law 306 = .ok (.iconst 1, 1) := by decide +kernel
theorem dL_law_307 : decode cL_law 307 = .ok (.iadd, 1) := by decide +kernel
theorem dL_law_308 : decode cL_law 308 = .ok (.iaload, 1) := by decide +kernel
theorem dL_law_309 : decode cL_law 309 = .ok (.invokevirtual 37, 3) := by decide +kernel
theorem dL_law_312 : decode cL_law 312 = .ok (.if_icmp .eq 997, 3) := by decide +kernel
theorem dL_law_315 : decode cL_law 315 = .ok (.iconst 0, 1) := by decide +kernel
theorem dL_law_316 : decode cL_law 316 = .ok (.ireturn, 1) := by decide +kernel
theorem dL_law_317 : decode cL_law 317 = .ok (.aload_n 1, 1) := by decide +kernel
theorem dL_law_318 : decode cL_law 318 = .ok (.aload_n 0, 1) := by decide +kernel
theorem dL_law_319 : decode cL_law 319 = .ok (.iload_n 3, 1) := by decide +kernel
theorem dL_law_320 : decode cL_law 320 = .ok (.iconst 1, 1) := by decide +kernel
theorem dL_law_321 : decode cL_law 321 = .ok (.iadd, 1) := by decide +kernel
theorem dL_law_322 : decode cL_law 322 = .ok (.iaload, 1) := by decide +kernel
theorem dL_law_323 : decode cL_law 323 = .ok (.invokevirtual 38, 3) := by decide +kernel
theorem dL_law_326 : decode cL_law 326 = .ok (.aload_n 2, 1) := by decide +kernel
theorem dL_law_327 : decode cL_law 327 = .ok (.aload_n 0, 1) := by decide +kernel
theorem dL_law_328 : decode cL_law 328 = .ok (.iload_n 3, 1) := by decide +kernel
theorem dL_law_329 : decode cL_law 329 = .ok (.iconst 1, 1) := by decide +kernel
theorem dL_law_330 : decode cL_law 330 = .ok (.iadd, 1) := by decide +kernel
theorem dL_law_331 : decode cL_law 331 = .ok (.iaload, 1) := by decide +kernel
theorem dL_law_332 : decode cL_law 332 = .ok (.invokevirtual 41, 3) := by decide +kernel
theorem dL_law_335 : decode cL_law 335 = .ok (.if_icmp .eq 974, 3) := by decide +kernel
theorem dL_law_338 : decode cL_law 338 = .ok (.iconst 0, 1) := by decide +kernel
theorem dL_law_339 : decode cL_law 339 = .ok (.ireturn, 1) := by decide +kernel
theorem dL_law_340 : decode cL_law 340 = .ok (.aload_n 1, 1) := by decide +kernel
theorem dL_law_341 : decode cL_law 341 = .ok (.aload_n 0, 1) := by decide +kernel
theorem dL_law_342 : decode cL_law 342 = .ok (.iload_n 3, 1) := by decide +kernel
theorem dL_law_343 : decode cL_law 343 = .ok (.iconst 1, 1) := by decide +kernel
theorem dL_law_344 : decode cL_law 344 = .ok (.iadd, 1) := by decide +kernel
theorem dL_law_345 : decode cL_law 345 = .ok (.iaload, 1) := by decide +kernel
theorem dL_law_346 : decode cL_law 346 = .ok (.aload_n 0, 1) := by decide +kernel
theorem dL_law_347 : decode cL_law 347 = .ok (.iload_n 3, 1) := by decide +kernel
theorem dL_law_348 : decode cL_law 348 = .ok (.iconst 2, 1) := by decide +kernel
theorem dL_law_349 : decode cL_law 349 = .ok (.iadd, 1) := by decide +kernel
theorem dL_law_350 : decode cL_law 350 = .ok (.iaload, 1) := by decide +kernel
theorem dL_law_351 : decode cL_law 351 = .ok (.invokevirtual 42, 3) := by decide +kernel
theorem dL_law_354 : decode cL_law 354 = .ok (.aload_n 2, 1) := by decide +kernel
theorem dL_law_355 : decode cL_law 355 = .ok (.aload_n 0, 1) := by decide +kernel
theorem dL_law_356 : decode cL_law 356 = .ok (.iload_n 3, 1) := by decide +kernel
theorem dL_law_357 : decode cL_law 357 = .ok (.iconst 1, 1) := by decide +kernel
theorem dL_law_358 : decode cL_law 358 = .ok (.iadd, 1) := by decide +kernel
theorem dL_law_359 : decode cL_law 359 = .ok (.iaload, 1) := by decide +kernel
theorem dL_law_360 : decode cL_law 360 = .ok (.aload_n 0, 1) := by decide +kernel
theorem dL_law_361 : decode cL_law 361 = .ok (.iload_n 3, 1) := by decide +kernel
theorem dL_law_362 : decode cL_law 362 = .ok (.iconst 2, 1) := by decide +kernel
theorem dL_law_363 : decode cL_law 363 = .ok (.iadd, 1) := by decide +kernel
theorem dL_law_364 : decode cL_law 364 = .ok (.iaload, 1) := by decide +kernel
theorem dL_law_365 : decode cL_law 365 = .ok (.invokevirtual 46, 3) := by decide +kernel
theorem dL_law_368 : decode cL_law 368 = .ok (.if_icmp .eq 941, 3) := by decide +kernel
theorem dL_law_371 : decode cL_law 371 = .ok (.iconst 0, 1) := by decide +kernel
theorem dL_law_372 : decode cL_law 372 = .ok (.ireturn, 1) := by decide +kernel
theorem dL_law_373 : decode cL_law 373 = .ok (.aload_n 1, 1) := by decide +kernel
theorem dL_law_374 : decode cL_law 374 = .ok (.aload_n 0, 1) := by decide +kernel
theorem dL_law_375 : decode cL_law 375 = .ok (.iload_n 3, 1) := by decide +kernel
theorem dL_law_376 : decode cL_law 376 = .ok (.iconst 1, 1) := by decide +kernel
theorem dL_law_377 : decode cL_law 377 = .ok (.iadd, 1) := by decide +kernel
theorem dL_law_378 : decode cL_law 378 = .ok (.iaload, 1) := by decide +kernel
theorem dL_law_379 : decode cL_law 379 = .ok (.aload_n 0, 1) := by decide +kernel
theorem dL_law_380 : decode cL_law 380 = .ok (.iload_n 3, 1) := by decide +kernel
theorem dL_law_381 : decode cL_law 381 = .ok (.iconst 2, 1) := by decide +kernel
theorem dL_law_382 : decode cL_law 382 = .ok (.iadd, 1) := by decide +kernel
theorem dL_law_383 : decode cL_law 383 = .ok (.iaload, 1) := by decide +kernel
theorem dL_law_384 : decode cL_law 384 = .ok (.invokevirtual 47, 3) := by decide +kernel
theorem dL_law_387 : decode cL_law 387 = .ok (.aload_n 2, 1) := by decide +kernel
theorem dL_law_388 : decode cL_law 388 = .ok (.aload_n 0, 1) := by decide +kernel
theorem dL_law_389 : decode cL_law 389 = .ok (.iload_n 3, 1) := by decide +kernel
theorem dL_law_390 : decode cL_law 390 = .ok (.iconst 1, 1) := by decide +kernel
theorem dL_law_391 : decode cL_law 391 = .ok (.iadd, 1) := by decide +kernel
theorem dL_law_392 : decode cL_law 392 = .ok (.iaload, 1) := by decide +kernel
theorem dL_law_393 : decode cL_law 393 = .ok (.aload_n 0, 1) := by decide +kernel
theorem dL_law_394 : decode cL_law 394 = .ok (.iload_n 3, 1) := by decide +kernel
theorem dL_law_395 : decode cL_law 395 = .ok (.iconst 2, 1) := by decide +kernel
theorem dL_law_396 : decode cL_law 396 = .ok (.iadd, 1) := by decide +kernel
theorem dL_law_397 : decode cL_law 397 = .ok (.iaload, 1) := by decide +kernel
theorem dL_law_398 : decode cL_law 398 = .ok (.invokevirtual 50, 3) := by decide +kernel
theorem dL_law_401 : decode cL_law 401 = .ok (.if_icmp .eq 908, 3) := by decide +kernel
theorem dL_law_404 : decode cL_law 404 = .ok (.iconst 0, 1) := by decide +kernel
theorem dL_law_405 : decode cL_law 405 = .ok (.ireturn, 1) := by decide +kernel
theorem dL_law_406 : decode cL_law 406 = .ok (.aload_n 1, 1) := by decide +kernel
theorem dL_law_407 : decode cL_law 407 = .ok (.aload_n 0, 1) := by decide +kernel
theorem dL_law_408 : decode cL_law 408 = .ok (.iload_n 3, 1) := by decide +kernel
theorem dL_law_409 : decode cL_law 409 = .ok (.iconst 1, 1) := by decide +kernel
theorem dL_law_410 : decode cL_law 410 = .ok (.iadd, 1) := by decide +kernel
theorem dL_law_411 : decode cL_law 411 = .ok (.iaload, 1) := by decide +kernel
theorem dL_law_412 : decode cL_law 412 = .ok (.aload_n 0, 1) := by decide +kernel
theorem dL_law_413 : decode cL_law 413 = .ok (.iload_n 3, 1) := by decide +kernel
theorem dL_law_414 : decode cL_law 414 = .ok (.iconst 2, 1) := by decide +kernel
theorem dL_law_415 : decode cL_law 415 = .ok (.iadd, 1) := by decide +kernel
theorem dL_law_416 : decode cL_law 416 = .ok (.iaload, 1) := by decide +kernel
theorem dL_law_417 : decode cL_law 417 = .ok (.aload_n 0, 1) := by decide +kernel
theorem dL_law_418 : decode cL_law 418 = .ok (.iload_n 3, 1) := by decide +kernel
theorem dL_law_419 : decode cL_law 419 = .ok (.iconst 3, 1) := by decide +kernel
theorem dL_law_420 : decode cL_law 420 = .ok (.iadd, 1) := by decide +kernel
theorem dL_law_421 : decode cL_law 421 = .ok (.iaload, 1) := by decide +kernel
theorem dL_law_422 : decode cL_law 422 = .ok (.ifCond .eq 7, 3) := by decide +kernel
theorem dL_law_425 : decode cL_law 425 = .ok (.iconst 1, 1) := by decide +kernel
theorem dL_law_426 : decode cL_law 426 = .ok (.goto 4, 3) := by decide +kernel
theorem dL_law_429 : decode cL_law 429 = .ok (.iconst 0, 1) := by decide +kernel
theorem dL_law_430 : decode cL_law 430 = .ok (.invokevirtual 51, 3) := by decide +kernel
theorem dL_law_433 : decode cL_law 433 = .ok (.aload_n 2, 1) := by decide +kernel
theorem dL_law_434 : decode cL_law 434 = .ok (.aload_n 0, 1) := by decide +kernel
theorem dL_law_435 : decode cL_law 435 = .ok (.iload_n 3, 1) := by decide +kernel
theorem dL_law_436 : decode cL_law 436 = .ok (.iconst 1, 1) := by decide +kernel
theorem dL_law_437 : decode cL_law 437 = .ok (.iadd, 1) := by decide +kernel
theorem dL_law_438 : decode cL_law 438 = .ok (.iaload, 1) := by decide +kernel
theorem dL_law_439 : decode cL_law 439 = .ok (.aload_n 0, 1) := by decide +kernel
theorem dL_law_440 : decode cL_law 440 = .ok (.iload_n 3, 1) := by decide +kernel
theorem dL_law_441 : decode cL_law 441 = .ok (.iconst 2, 1) := by decide +kernel
theorem dL_law_442 : decode cL_law 442 = .ok (.iadd, 1) := by decide +kernel
theorem dL_law_443 : decode cL_law 443 = .ok (.iaload, 1) := by decide +kernel
theorem dL_law_444 : decode cL_law 444 = .ok (.aload_n 0, 1) := by decide +kernel
theorem dL_law_445 : decode cL_law 445 = .ok (.iload_n 3, 1) := by decide +kernel
theorem dL_law_446 : decode cL_law 446 = .ok (.iconst 3, 1) := by decide +kernel
theorem dL_law_447 : decode cL_law 447 = .ok (.iadd, 1) := by decide +kernel
theorem dL_law_448 : decode cL_law 448 = .ok (.iaload, 1) := by decide +kernel
theorem dL_law_449 : decode cL_law 449 = .ok (.ifCond .eq 7, 3) := by decide +kernel
theorem dL_law_452 : decode cL_law 452 = .ok (.iconst 1, 1) := by decide +kernel
theorem dL_law_453 : decode cL_law 453 = .ok (.goto 4, 3) := by decide +kernel
theorem dL_law_456 : decode cL_law 456 = .ok (.iconst 0, 1) := by decide +kernel
theorem dL_law_457 : decode cL_law 457 = .ok (.invokevirtual 55, 3) := by decide +kernel
theorem dL_law_460 : decode cL_law 460 = .ok (.if_icmp .eq 849, 3) := by decide +kernel
theorem dL_law_463 : decode cL_law 463 = .ok (.iconst 0, 1) := by decide +kernel
theorem dL_law_464 : decode cL_law 464 = .ok (.ireturn, 1) := by decide +kernel
theorem dL_law_465 : decode cL_law 465 = .ok (.aload_n 1, 1) := by decide +kernel
theorem dL_law_466 : decode cL_law 466 = .ok (.aload_n 0, 1) := by decide +kernel
theorem dL_law_467 : decode cL_law 467 = .ok (.iload_n 3, 1) := by decide +kernel
theorem dL_law_468 : decode cL_law 468 = .ok (.iconst 1, 1) := by decide +kernel
theorem dL_law_469 : decode cL_law 469 = .ok (.iadd, 1) := by decide +kernel
theorem dL_law_470 : decode cL_law 470 = .ok (.iaload, 1) := by decide +kernel
theorem dL_law_471 : decode cL_law 471 = .ok (.aload_n 0, 1) := by decide +kernel
theorem dL_law_472 : decode cL_law 472 = .ok (.iload_n 3, 1) := by decide +kernel
theorem dL_law_473 : decode cL_law 473 = .ok (.iconst 2, 1) := by decide +kernel
theorem dL_law_474 : decode cL_law 474 = .ok (.iadd, 1) := by decide +kernel
theorem dL_law_475 : decode cL_law 475 = .ok (.iaload, 1) := by decide +kernel
theorem dL_law_476 : decode cL_law 476 = .ok (.invokevirtual 56, 3) := by decide +kernel
theorem dL_law_479 : decode cL_law 479 = .ok (.aload_n 2, 1) := by decide +kernel
theorem dL_law_480 : decode cL_law 480 = .ok (.aload_n 0, 1) := by decide +kernel
theorem dL_law_481 : decode cL_law 481 = .ok (.iload_n 3, 1) := by decide +kernel
theorem dL_law_482 : decode cL_law 482 = .ok (.iconst 1, 1) := by decide +kernel
theorem dL_law_483 : decode cL_law 483 = .ok (.iadd, 1) := by decide +kernel
theorem dL_law_484 : decode cL_law 484 = .ok (.iaload, 1) := by decide +kernel
theorem dL_law_485 : decode cL_law 485 = .ok (.aload_n 0, 1) := by decide +kernel
theorem dL_law_486 : decode cL_law 486 = .ok (.iload_n 3, 1) := by decide +kernel
theorem dL_law_487 : decode cL_law 487 = .ok (.iconst 2, 1) := by decide +kernel
theorem dL_law_488 : decode cL_law 488 = .ok (.iadd, 1) := by decide +kernel
theorem dL_law_489 : decode cL_law 489 = .ok (.iaload, 1) := by decide +kernel
theorem dL_law_490 : decode cL_law 490 = .ok (.invokevirtual 59, 3) := by decide +kernel
theorem dL_law_493 : decode cL_law 493 = .ok (.if_icmp .eq 816, 3) := by decide +kernel
theorem dL_law_496 : decode cL_law 496 = .ok (.iconst 0, 1) := by decide +kernel
theorem dL_law_497 : decode cL_law 497 = .ok (.ireturn, 1) := by decide +kernel
theorem dL_law_498 : decode cL_law 498 = .ok (.aload_n 1, 1) := by decide +kernel
theorem dL_law_499 : decode cL_law 499 = .ok (.aload_n 0, 1) := by decide +kernel
theorem dL_law_500 : decode cL_law 500 = .ok (.iload_n 3, 1) := by decide +kernel
theorem dL_law_501 : decode cL_law 501 = .ok (.iconst 1, 1) := by decide +kernel
theorem dL_law_502 : decode cL_law 502 = .ok (.iadd, 1) := by decide +kernel
theorem dL_law_503 : decode cL_law 503 = .ok (.iaload, 1) := by decide +kernel
theorem dL_law_504 : decode cL_law 504 = .ok (.invokevirtual 60, 3) := by decide +kernel
theorem dL_law_507 : decode cL_law 507 = .ok (.aload_n 2, 1) := by decide +kernel
theorem dL_law_508 : decode cL_law 508 = .ok (.aload_n 0, 1) := by decide +kernel
theorem dL_law_509 : decode cL_law 509 = .ok (.iload_n 3, 1) := by decide +kernel
theorem dL_law_510 : decode cL_law 510 = .ok (.iconst 1, 1) := by decide +kernel
theorem dL_law_511 : decode cL_law 511 = .ok (.iadd, 1) := by decide +kernel
theorem dL_law_512 : decode cL_law 512 = .ok (.iaload, 1) := by decide +kernel
theorem dL_law_513 : decode cL_law 513 = .ok (.invokevirtual 63, 3) := by decide +kernel
theorem dL_law_516 : decode cL_law 516 = .ok (.if_icmp .eq 793, 3) := by decide +kernel
theorem dL_law_519 : decode cL_law 519 = .ok (.iconst 0, 1) := by decide +kernel
theorem dL_law_520 : decode cL_law 520 = .ok (.ireturn, 1) := by decide +kernel
theorem dL_law_521 : decode cL_law 521 = .ok (.aload_n 1, 1) := by decide +kernel
theorem dL_law_522 : decode cL_law 522 = .ok (.aload_n 0, 1) := by decide +kernel
theorem dL_law_523 : decode cL_law 523 = .ok (.iload_n 3, 1) := by decide +kernel
theorem dL_law_524 : decode cL_law 524 = .ok (.iconst 1, 1) := by decide +kernel
theorem dL_law_525 : decode cL_law 525 = .ok (.iadd, 1) := by decide +kernel
theorem dL_law_526 : decode cL_law 526 = .ok (.iaload, 1) := by decide +kernel
theorem dL_law_527 : decode cL_law 527 = .ok (.aload_n 0, 1) := by decide +kernel
theorem dL_law_528 : decode cL_law 528 = .ok (.iload_n 3, 1) := by decide +kernel
theorem dL_law_529 : decode cL_law 529 = .ok (.iconst 2, 1) := by decide +kernel
theorem dL_law_530 : decode cL_law 530 = .ok (.iadd, 1) := by decide +kernel
theorem dL_law_531 : decode cL_law 531 = .ok (.iaload, 1) := by decide +kernel
theorem dL_law_532 : decode cL_law 532 = .ok (.invokevirtual 64, 3) := by decide +kernel
theorem dL_law_535 : decode cL_law 535 = .ok (.aload_n 2, 1) := by decide +kernel
theorem dL_law_536 : decode cL_law 536 = .ok (.aload_n 0, 1) := by decide +kernel
theorem dL_law_537 : decode cL_law 537 = .ok (.iload_n 3, 1) := by decide +kernel
theorem dL_law_538 : decode cL_law 538 = .ok (.iconst 1, 1) := by decide +kernel
theorem dL_law_539 : decode cL_law 539 = .ok (.iadd, 1) := by decide +kernel
theorem dL_law_540 : decode cL_law 540 = .ok (.iaload, 1) := by decide +kernel
theorem dL_law_541 : decode cL_law 541 = .ok (.aload_n 0, 1) := by decide +kernel
theorem dL_law_542 : decode cL_law 542 = .ok (.iload_n 3, 1) := by decide +kernel
theorem dL_law_543 : decode cL_law 543 = .ok (.iconst 2, 1) := by decide +kernel
theorem dL_law_544 : decode cL_law 544 = .ok (.iadd, 1) := by decide +kernel
theorem dL_law_545 : decode cL_law 545 = .ok (.iaload, 1) := by decide +kernel
theorem dL_law_546 : decode cL_law 546 = .ok (.invokevirtual 67, 3) := by decide +kernel
theorem dL_law_549 : decode cL_law 549 = .ok (.if_icmp .eq 760, 3) := by decide +kernel
theorem dL_law_552 : decode cL_law 552 = .ok (.iconst 0, 1) := by decide +kernel
theorem dL_law_553 : decode cL_law 553 = .ok (.ireturn, 1) := by decide +kernel
theorem dL_law_554 : decode cL_law 554 = .ok (.aload_n 1, 1) := by decide +kernel
theorem dL_law_555 : decode cL_law 555 = .ok (.aload_n 0, 1) := by decide +kernel
theorem dL_law_556 : decode cL_law 556 = .ok (.iload_n 3, 1) := by decide +kernel
theorem dL_law_557 : decode cL_law 557 = .ok (.iconst 1, 1) := by decide +kernel
theorem dL_law_558 : decode cL_law 558 = .ok (.iadd, 1) := by decide +kernel
theorem dL_law_559 : decode cL_law 559 = .ok (.iaload, 1) := by decide +kernel
theorem dL_law_560 : decode cL_law 560 = .ok (.aload_n 0, 1) := by decide +kernel
theorem dL_law_561 : decode cL_law 561 = .ok (.iload_n 3, 1) := by decide +kernel
theorem dL_law_562 : decode cL_law 562 = .ok (.iconst 2, 1) := by decide +kernel
theorem dL_law_563 : decode cL_law 563 = .ok (.iadd, 1) := by decide +kernel
theorem dL_law_564 : decode cL_law 564 = .ok (.iaload, 1) := by decide +kernel
theorem dL_law_565 : decode cL_law 565 = .ok (.aload_n 0, 1) := by decide +kernel
theorem dL_law_566 : decode cL_law 566 = .ok (.iload_n 3, 1) := by decide +kernel
theorem dL_law_567 : decode cL_law 567 = .ok (.iconst 3, 1) := by decide +kernel
theorem dL_law_568 : decode cL_law 568 = .ok (.iadd, 1) := by decide +kernel
theorem dL_law_569 : decode cL_law 569 = .ok (.iaload, 1) := by decide +kernel
theorem dL_law_570 : decode cL_law 570 = .ok (.invokevirtual 68, 3) := by decide +kernel
theorem dL_law_573 : decode cL_law 573 = .ok (.aload_n 2, 1) := by decide +kernel
theorem dL_law_574 : decode cL_law 574 = .ok (.aload_n 0, 1) := by decide +kernel
theorem dL_law_575 : decode cL_law 575 = .ok (.iload_n 3, 1) := by decide +kernel
theorem dL_law_576 : decode cL_law 576 = .ok (.iconst 1, 1) := by decide +kernel
theorem dL_law_577 : decode cL_law 577 = .ok (.iadd, 1) := by decide +kernel
theorem dL_law_578 : decode cL_law 578 = .ok (.iaload, 1) := by decide +kernel
theorem dL_law_579 : decode cL_law 579 = .ok (.aload_n 0, 1) := by decide +kernel
theorem dL_law_580 : decode cL_law 580 = .ok (.iload_n 3, 1) := by decide +kernel
theorem dL_law_581 : decode cL_law 581 = .ok (.iconst 2, 1) := by decide +kernel
theorem dL_law_582 : decode cL_law 582 = .ok (.iadd, 1) := by decide +kernel
theorem dL_law_583 : decode cL_law 583 = .ok (.iaload, 1) := by decide +kernel
theorem dL_law_584 : decode cL_law 584 = .ok (.aload_n 0, 1) := by decide +kernel
theorem dL_law_585 : decode cL_law 585 = .ok (.iload_n 3, 1) := by decide +kernel
theorem dL_law_586 : decode cL_law 586 = .ok (.iconst 3, 1) := by decide +kernel
theorem dL_law_587 : decode cL_law 587 = .ok (.iadd, 1) := by decide +kernel
theorem dL_law_588 : decode cL_law 588 = .ok (.iaload, 1) := by decide +kernel
theorem dL_law_589 : decode cL_law 589 = .ok (.invokevirtual 72, 3) := by decide +kernel
theorem dL_law_592 : decode cL_law 592 = .ok (.if_icmp .eq 717, 3) := by decide +kernel
theorem dL_law_595 : decode cL_law 595 = .ok (.iconst 0, 1) := by decide +kernel
theorem dL_law_596 : decode cL_law 596 = .ok (.ireturn, 1) := by decide +kernel
theorem dL_law_597 : decode cL_law 597 = .ok (.aload_n 1, 1) := by decide +kernel
theorem dL_law_598 : decode cL_law 598 = .ok (.aload_n 0, 1) := by decide +kernel
theorem dL_law_599 : decode cL_law 599 = .ok (.iload_n 3, 1) := by decide +kernel
theorem dL_law_600 : decode cL_law 600 = .ok (.iconst 1, 1) := by decide +kernel
theorem dL_law_601 : decode cL_law 601 = .ok (.iadd, 1) := by decide +kernel
theorem dL_law_602 : decode cL_law 602 = .ok (.iaload, 1) := by decide +kernel
theorem dL_law_603 : decode cL_law 603 = .ok (.aload_n 0, 1) := by decide +kernel
theorem dL_law_604 : decode cL_law 604 = .ok (.iload_n 3, 1) := by decide +kernel
theorem dL_law_605 : decode cL_law 605 = .ok (.iconst 2, 1) := by decide +kernel
theorem dL_law_606 : decode cL_law 606 = .ok (.iadd, 1) := by decide +kernel
theorem dL_law_607 : decode cL_law 607 = .ok (.iaload, 1) := by decide +kernel
theorem dL_law_608 : decode cL_law 608 = .ok (.aload_n 0, 1) := by decide +kernel
theorem dL_law_609 : decode cL_law 609 = .ok (.iload_n 3, 1) := by decide +kernel
theorem dL_law_610 : decode cL_law 610 = .ok (.iconst 3, 1) := by decide +kernel
theorem dL_law_611 : decode cL_law 611 = .ok (.iadd, 1) := by decide +kernel
theorem dL_law_612 : decode cL_law 612 = .ok (.iaload, 1) := by decide +kernel
theorem dL_law_613 : decode cL_law 613 = .ok (.invokevirtual 73, 3) := by decide +kernel
theorem dL_law_616 : decode cL_law 616 = .ok (.aload_n 2, 1) := by decide +kernel
theorem dL_law_617 : decode cL_law 617 = .ok (.aload_n 0, 1) := by decide +kernel
theorem dL_law_618 : decode cL_law 618 = .ok (.iload_n 3, 1) := by decide +kernel
theorem dL_law_619 : decode cL_law 619 = .ok (.iconst 1, 1) := by decide +kernel
theorem dL_law_620 : decode cL_law 620 = .ok (.iadd, 1) := by decide +kernel
theorem dL_law_621 : decode cL_law 621 = .ok (.iaload, 1) := by decide +kernel
theorem dL_law_622 : decode cL_law 622 = .ok (.aload_n 0, 1) := by decide +kernel
theorem dL_law_623 : decode cL_law 623 = .ok (.iload_n 3, 1) := by decide +kernel
theorem dL_law_624 : decode cL_law 624 = .ok (.iconst 2, 1) := by decide +kernel
theorem dL_law_625 : decode cL_law 625 = .ok (.iadd, 1) := by decide +kernel
theorem dL_law_626 : decode cL_law 626 = .ok (.iaload, 1) := by decide +kernel
theorem dL_law_627 : decode cL_law 627 = .ok (.aload_n 0, 1) := by decide +kernel
theorem dL_law_628 : decode cL_law 628 = .ok (.iload_n 3, 1) := by decide +kernel
theorem dL_law_629 : decode cL_law 629 = .ok (.iconst 3, 1) := by decide +kernel
theorem dL_law_630 : decode cL_law 630 = .ok (.iadd, 1) := by decide +kernel
theorem dL_law_631 : decode cL_law 631 = .ok (.iaload, 1) := by decide +kernel
theorem dL_law_632 : decode cL_law 632 = .ok (.invokevirtual 76, 3) := by decide +kernel
theorem dL_law_635 : decode cL_law 635 = .ok (.if_icmp .eq 674, 3) := by decide +kernel
theorem dL_law_638 : decode cL_law 638 = .ok (.iconst 0, 1) := by decide +kernel
theorem dL_law_639 : decode cL_law 639 = .ok (.ireturn, 1) := by decide +kernel
theorem dL_law_640 : decode cL_law 640 = .ok (.aload_n 1, 1) := by decide +kernel
theorem dL_law_641 : decode cL_law 641 = .ok (.aload_n 0, 1) := by decide +kernel
theorem dL_law_642 : decode cL_law 642 = .ok (.iload_n 3, 1) := by decide +kernel
theorem dL_law_643 : decode cL_law 643 = .ok (.iconst 1, 1) := by decide +kernel
theorem dL_law_644 : decode cL_law 644 = .ok (.iadd, 1) := by decide +kernel
theorem dL_law_645 : decode cL_law 645 = .ok (.iaload, 1) := by decide +kernel
theorem dL_law_646 : decode cL_law 646 = .ok (.aload_n 0, 1) := by decide +kernel
theorem dL_law_647 : decode cL_law 647 = .ok (.iload_n 3, 1) := by decide +kernel
theorem dL_law_648 : decode cL_law 648 = .ok (.iconst 2, 1) := by decide +kernel
theorem dL_law_649 : decode cL_law 649 = .ok (.iadd, 1) := by decide +kernel
theorem dL_law_650 : decode cL_law 650 = .ok (.iaload, 1) := by decide +kernel
theorem dL_law_651 : decode cL_law 651 = .ok (.invokevirtual 77, 3) := by decide +kernel
theorem dL_law_654 : decode cL_law 654 = .ok (.aload_n 2, 1) := by decide +kernel
theorem dL_law_655 : decode cL_law 655 = .ok (.aload_n 0, 1) := by decide +kernel
theorem dL_law_656 : decode cL_law 656 = .ok (.iload_n 3, 1) := by decide +kernel
theorem dL_law_657 : decode cL_law 657 = .ok (.iconst 1, 1) := by decide +kernel
theorem dL_law_658 : decode cL_law 658 = .ok (.iadd, 1) := by decide +kernel
theorem dL_law_659 : decode cL_law 659 = .ok (.iaload, 1) := by decide +kernel
theorem dL_law_660 : decode cL_law 660 = .ok (.aload_n 0, 1) := by decide +kernel
theorem dL_law_661 : decode cL_law 661 = .ok (.iload_n 3, 1) := by decide +kernel
theorem dL_law_662 : decode cL_law 662 = .ok (.iconst 2, 1) := by decide +kernel
theorem dL_law_663 : decode cL_law 663 = .ok (.iadd, 1) := by decide +kernel
theorem dL_law_664 : decode cL_law 664 = .ok (.iaload, 1) := by decide +kernel
theorem dL_law_665 : decode cL_law 665 = .ok (.invokevirtual 80, 3) := by decide +kernel
theorem dL_law_668 : decode cL_law 668 = .ok (.if_icmp .eq 641, 3) := by decide +kernel
theorem dL_law_671 : decode cL_law 671 = .ok (.iconst 0, 1) := by decide +kernel
theorem dL_law_672 : decode cL_law 672 = .ok (.ireturn, 1) := by decide +kernel
theorem dL_law_673 : decode cL_law 673 = .ok (.aload_n 1, 1) := by decide +kernel
theorem dL_law_674 : decode cL_law 674 = .ok (.aload_n 0, 1) := by decide +kernel
theorem dL_law_675 : decode cL_law 675 = .ok (.iload_n 3, 1) := by decide +kernel
theorem dL_law_676 : decode cL_law 676 = .ok (.iconst 1, 1) := by decide +kernel
theorem dL_law_677 : decode cL_law 677 = .ok (.iadd, 1) := by decide +kernel
theorem dL_law_678 : decode cL_law 678 = .ok (.iaload, 1) := by decide +kernel
theorem dL_law_679 : decode cL_law 679 = .ok (.invokevirtual 81, 3) := by decide +kernel
theorem dL_law_682 : decode cL_law 682 = .ok (.aload_n 2, 1) := by decide +kernel
theorem dL_law_683 : decode cL_law 683 = .ok (.aload_n 0, 1) := by decide +kernel
theorem dL_law_684 : decode cL_law 684 = .ok (.iload_n 3, 1) := by decide +kernel
theorem dL_law_685 : decode cL_law 685 = .ok (.iconst 1, 1) := by decide +kernel
theorem dL_law_686 : decode cL_law 686 = .ok (.iadd, 1) := by decide +kernel
theorem dL_law_687 : decode cL_law 687 = .ok (.iaload, 1) := by decide +kernel
theorem dL_law_688 : decode cL_law 688 = .ok (.invokevirtual 84, 3) := by decide +kernel
theorem dL_law_691 : decode cL_law 691 = .ok (.if_icmp .eq 618, 3) := by decide +kernel
theorem dL_law_694 : decode cL_law 694 = .ok (.iconst 0, 1) := by decide +kernel
theorem dL_law_695 : decode cL_law 695 = .ok (.ireturn, 1) := by decide +kernel
theorem dL_law_696 : decode cL_law 696 = .ok (.aload_n 1, 1) := by decide +kernel
theorem dL_law_697 : decode cL_law 697 = .ok (.invokevirtual 85, 3) := by decide +kernel
theorem dL_law_700 : decode cL_law 700 = .ok (.aload_n 2, 1) := by decide +kernel
theorem dL_law_701 : decode cL_law 701 = .ok (.invokevirtual 88, 3) := by decide +kernel
theorem dL_law_704 : decode cL_law 704 = .ok (.if_icmp .eq 605, 3) := by decide +kernel
theorem dL_law_707 : decode cL_law 707 = .ok (.iconst 0, 1) := by decide +kernel
theorem dL_law_708 : decode cL_law 708 = .ok (.ireturn, 1) := by decide +kernel
theorem dL_law_709 : decode cL_law 709 = .ok (.aload_n 1, 1) := by decide +kernel
theorem dL_law_710 : decode cL_law 710 = .ok (.aload_n 0, 1) := by decide +kernel
theorem dL_law_711 : decode cL_law 711 = .ok (.iload_n 3, 1) := by decide +kernel
theorem dL_law_712 : decode cL_law 712 = .ok (.iconst 1, 1) := by decide +kernel
theorem dL_law_713 : decode cL_law 713 = .ok (.iadd, 1) := by decide +kernel
theorem dL_law_714 : decode cL_law 714 = .ok (.iaload, 1) := by decide +kernel
theorem dL_law_715 : decode cL_law 715 = .ok (.aload_n 0, 1) := by decide +kernel
theorem dL_law_716 : decode cL_law 716 = .ok (.iload_n 3, 1) := by decide +kernel
theorem dL_law_717 : decode cL_law 717 = .ok (.iconst 2, 1) := by decide +kernel
theorem dL_law_718 : decode cL_law 718 = .ok (.iadd, 1) := by decide +kernel
theorem dL_law_719 : decode cL_law 719 = .ok (.iaload, 1) := by decide +kernel
theorem dL_law_720 : decode cL_law 720 = .ok (.aload_n 0, 1) := by decide +kernel
theorem dL_law_721 : decode cL_law 721 = .ok (.iload_n 3, 1) := by decide +kernel
theorem dL_law_722 : decode cL_law 722 = .ok (.iconst 3, 1) := by decide +kernel
theorem dL_law_723 : decode cL_law 723 = .ok (.iadd, 1) := by decide +kernel
theorem dL_law_724 : decode cL_law 724 = .ok (.iaload, 1) := by decide +kernel
theorem dL_law_725 : decode cL_law 725 = .ok (.invokevirtual 89, 3) := by decide +kernel
theorem dL_law_728 : decode cL_law 728 = .ok (.aload_n 2, 1) := by decide +kernel
theorem dL_law_729 : decode cL_law 729 = .ok (.aload_n 0, 1) := by decide +kernel
theorem dL_law_730 : decode cL_law 730 = .ok (.iload_n 3, 1) := by decide +kernel
theorem dL_law_731 : decode cL_law 731 = .ok (.iconst 1, 1) := by decide +kernel
theorem dL_law_732 : decode cL_law 732 = .ok (.iadd, 1) := by decide +kernel
theorem dL_law_733 : decode cL_law 733 = .ok (.iaload, 1) := by decide +kernel
theorem dL_law_734 : decode cL_law 734 = .ok (.aload_n 0, 1) := by decide +kernel
theorem dL_law_735 : decode cL_law 735 = .ok (.iload_n 3, 1) := by decide +kernel
theorem dL_law_736 : decode cL_law 736 = .ok (.iconst 2, 1) := by decide +kernel
theorem dL_law_737 : decode cL_law 737 = .ok (.iadd, 1) := by decide +kernel
theorem dL_law_738 : decode cL_law 738 = .ok (.iaload, 1) := by decide +kernel
theorem dL_law_739 : decode cL_law 739 = .ok (.aload_n 0, 1) := by decide +kernel
theorem dL_law_740 : decode cL_law 740 = .ok (.iload_n 3, 1) := by decide +kernel
theorem dL_law_741 : decode cL_law 741 = .ok (.iconst 3, 1) := by decide +kernel
theorem dL_law_742 : decode cL_law 742 = .ok (.iadd, 1) := by decide +kernel
theorem dL_law_743 : decode cL_law 743 = .ok (.iaload, 1) := by decide +kernel
theorem dL_law_744 : decode cL_law 744 = .ok (.invokevirtual 93, 3) := by decide +kernel
theorem dL_law_747 : decode cL_law 747 = .ok (.lcmp, 1) := by decide +kernel
theorem dL_law_748 : decode cL_law 748 = .ok (.ifCond .eq 561, 3) := by decide +kernel
theorem dL_law_751 : decode cL_law 751 = .ok (.iconst 0, 1) := by decide +kernel
theorem dL_law_752 : decode cL_law 752 = .ok (.ireturn, 1) := by decide +kernel
theorem dL_law_753 : decode cL_law 753 = .ok (.aload_n 1, 1) := by decide +kernel
theorem dL_law_754 : decode cL_law 754 = .ok (.aload_n 0, 1) := by decide +kernel
theorem dL_law_755 : decode cL_law 755 = .ok (.iload_n 3, 1) := by decide +kernel
theorem dL_law_756 : decode cL_law 756 = .ok (.iconst 1, 1) := by decide +kernel
theorem dL_law_757 : decode cL_law 757 = .ok (.iadd, 1) := by decide +kernel
theorem dL_law_758 : decode cL_law 758 = .ok (.iaload, 1) := by decide +kernel
theorem dL_law_759 : decode cL_law 759 = .ok (.aload_n 0, 1) := by decide +kernel
theorem dL_law_760 : decode cL_law 760 = .ok (.iload_n 3, 1) := by decide +kernel
theorem dL_law_761 : decode cL_law 761 = .ok (.iconst 2, 1) := by decide +kernel
theorem dL_law_762 : decode cL_law 762 = .ok (.iadd, 1) := by decide +kernel
theorem dL_law_763 : decode cL_law 763 = .ok (.iaload, 1) := by decide +kernel
theorem dL_law_764 : decode cL_law 764 = .ok (.invokevirtual 94, 3) := by decide +kernel
theorem dL_law_767 : decode cL_law 767 = .ok (.aload_n 2, 1) := by decide +kernel
theorem dL_law_768 : decode cL_law 768 = .ok (.aload_n 0, 1) := by decide +kernel
theorem dL_law_769 : decode cL_law 769 = .ok (.iload_n 3, 1) := by decide +kernel
theorem dL_law_770 : decode cL_law 770 = .ok (.iconst 1, 1) := by decide +kernel
theorem dL_law_771 : decode cL_law 771 = .ok (.iadd, 1) := by decide +kernel
theorem dL_law_772 : decode cL_law 772 = .ok (.iaload, 1) := by decide +kernel
theorem dL_law_773 : decode cL_law 773 = .ok (.aload_n 0, 1) := by decide +kernel
theorem dL_law_774 : decode cL_law 774 = .ok (.iload_n 3, 1) := by decide +kernel
theorem dL_law_775 : decode cL_law 775 = .ok (.iconst 2, 1) := by decide +kernel
theorem dL_law_776 : decode cL_law 776 = .ok (.iadd, 1) := by decide +kernel
theorem dL_law_777 : decode cL_law 777 = .ok (.iaload, 1) := by decide +kernel
theorem dL_law_778 : decode cL_law 778 = .ok (.invokevirtual 98, 3) := by decide +kernel
theorem dL_law_781 : decode cL_law 781 = .ok (.lcmp, 1) := by decide +kernel
theorem dL_law_782 : decode cL_law 782 = .ok (.ifCond .eq 527, 3) := by decide +kernel
theorem dL_law_785 : decode cL_law 785 = .ok (.iconst 0, 1) := by decide +kernel
theorem dL_law_786 : decode cL_law 786 = .ok (.ireturn, 1) := by decide +kernel
theorem dL_law_787 : decode cL_law 787 = .ok (.aload_n 1, 1) := by decide +kernel
theorem dL_law_788 : decode cL_law 788 = .ok (.aload_n 0, 1) := by decide +kernel
theorem dL_law_789 : decode cL_law 789 = .ok (.iload_n 3, 1) := by decide +kernel
theorem dL_law_790 : decode cL_law 790 = .ok (.iconst 1, 1) := by decide +kernel
theorem dL_law_791 : decode cL_law 791 = .ok (.iadd, 1) := by decide +kernel
theorem dL_law_792 : decode cL_law 792 = .ok (.iaload, 1) := by decide +kernel
theorem dL_law_793 : decode cL_law 793 = .ok (.aload_n 0, 1) := by decide +kernel
theorem dL_law_794 : decode cL_law 794 = .ok (.iload_n 3, 1) := by decide +kernel
theorem dL_law_795 : decode cL_law 795 = .ok (.iconst 2, 1) := by decide +kernel
theorem dL_law_796 : decode cL_law 796 = .ok (.iadd, 1) := by decide +kernel
theorem dL_law_797 : decode cL_law 797 = .ok (.iaload, 1) := by decide +kernel
theorem dL_law_798 : decode cL_law 798 = .ok (.invokevirtual 99, 3) := by decide +kernel
theorem dL_law_801 : decode cL_law 801 = .ok (.aload_n 2, 1) := by decide +kernel
theorem dL_law_802 : decode cL_law 802 = .ok (.aload_n 0, 1) := by decide +kernel
theorem dL_law_803 : decode cL_law 803 = .ok (.iload_n 3, 1) := by decide +kernel
theorem dL_law_804 : decode cL_law 804 = .ok (.iconst 1, 1) := by decide +kernel
theorem dL_law_805 : decode cL_law 805 = .ok (.iadd, 1) := by decide +kernel
theorem dL_law_806 : decode cL_law 806 = .ok (.iaload, 1) := by decide +kernel
theorem dL_law_807 : decode cL_law 807 = .ok (.aload_n 0, 1) := by decide +kernel
theorem dL_law_808 : decode cL_law 808 = .ok (.iload_n 3, 1) := by decide +kernel
theorem dL_law_809 : decode cL_law 809 = .ok (.iconst 2, 1) := by decide +kernel
theorem dL_law_810 : decode cL_law 810 = .ok (.iadd, 1) := by decide +kernel
theorem dL_law_811 : decode cL_law 811 = .ok (.iaload, 1) := by decide +kernel
theorem dL_law_812 : decode cL_law 812 = .ok (.invokevirtual 102, 3) := by decide +kernel
theorem dL_law_815 : decode cL_law 815 = .ok (.if_icmp .eq 494, 3) := by decide +kernel
theorem dL_law_818 : decode cL_law 818 = .ok (.iconst 0, 1) := by decide +kernel
theorem dL_law_819 : decode cL_law 819 = .ok (.ireturn, 1) := by decide +kernel
theorem dL_law_820 : decode cL_law 820 = .ok (.aload_n 1, 1) := by decide +kernel
theorem dL_law_821 : decode cL_law 821 = .ok (.aload_n 0, 1) := by decide +kernel
theorem dL_law_822 : decode cL_law 822 = .ok (.iload_n 3, 1) := by decide +kernel
theorem dL_law_823 : decode cL_law 823 = .ok (.iconst 1, 1) := by decide +kernel
theorem dL_law_824 : decode cL_law 824 = .ok (.iadd, 1) := by decide +kernel
theorem dL_law_825 : decode cL_law 825 = .ok (.iaload, 1) := by decide +kernel
theorem dL_law_826 : decode cL_law 826 = .ok (.aload_n 0, 1) := by decide +kernel
theorem dL_law_827 : decode cL_law 827 = .ok (.iload_n 3, 1) := by decide +kernel
theorem dL_law_828 : decode cL_law 828 = .ok (.iconst 2, 1) := by decide +kernel
theorem dL_law_829 : decode cL_law 829 = .ok (.iadd, 1) := by decide +kernel
theorem dL_law_830 : decode cL_law 830 = .ok (.iaload, 1) := by decide +kernel
theorem dL_law_831 : decode cL_law 831 = .ok (.invokevirtual 103, 3) := by decide +kernel
theorem dL_law_834 : decode cL_law 834 = .ok (.aload_n 2, 1) := by decide +kernel
theorem dL_law_835 : decode cL_law 835 = .ok (.aload_n 0, 1) := by decide +kernel
theorem dL_law_836 : decode cL_law 836 = .ok (.iload_n 3, 1) := by decide +kernel
theorem dL_law_837 : decode cL_law 837 = .ok (.iconst 1, 1) := by decide +kernel
theorem dL_law_838 : decode cL_law 838 = .ok (.iadd, 1) := by decide +kernel
theorem dL_law_839 : decode cL_law 839 = .ok (.iaload, 1) := by decide +kernel
theorem dL_law_840 : decode cL_law 840 = .ok (.aload_n 0, 1) := by decide +kernel
theorem dL_law_841 : decode cL_law 841 = .ok (.iload_n 3, 1) := by decide +kernel
theorem dL_law_842 : decode cL_law 842 = .ok (.iconst 2, 1) := by decide +kernel
theorem dL_law_843 : decode cL_law 843 = .ok (.iadd, 1) := by decide +kernel
theorem dL_law_844 : decode cL_law 844 = .ok (.iaload, 1) := by decide +kernel
theorem dL_law_845 : decode cL_law 845 = .ok (.invokevirtual 106, 3) := by decide +kernel
theorem dL_law_848 : decode cL_law 848 = .ok (.if_icmp .eq 461, 3) := by decide +kernel
theorem dL_law_851 : decode cL_law 851 = .ok (.iconst 0, 1) := by decide +kernel
theorem dL_law_852 : decode cL_law 852 = .ok (.ireturn, 1) := by decide +kernel
theorem dL_law_853 : decode cL_law 853 = .ok (.aload_n 1, 1) := by decide +kernel
theorem dL_law_854 : decode cL_law 854 = .ok (.aload_n 0, 1) := by decide +kernel
theorem dL_law_855 : decode cL_law 855 = .ok (.iload_n 3, 1) := by decide +kernel
theorem dL_law_856 : decode cL_law 856 = .ok (.iconst 1, 1) := by decide +kernel
theorem dL_law_857 : decode cL_law 857 = .ok (.iadd, 1) := by decide +kernel
theorem dL_law_858 : decode cL_law 858 = .ok (.iaload, 1) := by decide +kernel
theorem dL_law_859 : decode cL_law 859 = .ok (.aload_n 0, 1) := by decide +kernel
theorem dL_law_860 : decode cL_law 860 = .ok (.iload_n 3, 1) := by decide +kernel
theorem dL_law_861 : decode cL_law 861 = .ok (.iconst 2, 1) := by decide +kernel
theorem dL_law_862 : decode cL_law 862 = .ok (.iadd, 1) := by decide +kernel
theorem dL_law_863 : decode cL_law 863 = .ok (.iaload, 1) := by decide +kernel
theorem dL_law_864 : decode cL_law 864 = .ok (.aload_n 0, 1) := by decide +kernel
theorem dL_law_865 : decode cL_law 865 = .ok (.iload_n 3, 1) := by decide +kernel
theorem dL_law_866 : decode cL_law 866 = .ok (.iconst 3, 1) := by decide +kernel
theorem dL_law_867 : decode cL_law 867 = .ok (.iadd, 1) := by decide +kernel
theorem dL_law_868 : decode cL_law 868 = .ok (.iaload, 1) := by decide +kernel
theorem dL_law_869 : decode cL_law 869 = .ok (.invokevirtual 107, 3) := by decide +kernel
theorem dL_law_872 : decode cL_law 872 = .ok (.aload_n 2, 1) := by decide +kernel
theorem dL_law_873 : decode cL_law 873 = .ok (.aload_n 0, 1) := by decide +kernel
theorem dL_law_874 : decode cL_law 874 = .ok (.iload_n 3, 1) := by decide +kernel
theorem dL_law_875 : decode cL_law 875 = .ok (.iconst 1, 1) := by decide +kernel
theorem dL_law_876 : decode cL_law 876 = .ok (.iadd, 1) := by decide +kernel
theorem dL_law_877 : decode cL_law 877 = .ok (.iaload, 1) := by decide +kernel
theorem dL_law_878 : decode cL_law 878 = .ok (.aload_n 0, 1) := by decide +kernel
theorem dL_law_879 : decode cL_law 879 = .ok (.iload_n 3, 1) := by decide +kernel
theorem dL_law_880 : decode cL_law 880 = .ok (.iconst 2, 1) := by decide +kernel
theorem dL_law_881 : decode cL_law 881 = .ok (.iadd, 1) := by decide +kernel
theorem dL_law_882 : decode cL_law 882 = .ok (.iaload, 1) := by decide +kernel
theorem dL_law_883 : decode cL_law 883 = .ok (.aload_n 0, 1) := by decide +kernel
theorem dL_law_884 : decode cL_law 884 = .ok (.iload_n 3, 1) := by decide +kernel
theorem dL_law_885 : decode cL_law 885 = .ok (.iconst 3, 1) := by decide +kernel
theorem dL_law_886 : decode cL_law 886 = .ok (.iadd, 1) := by decide +kernel
theorem dL_law_887 : decode cL_law 887 = .ok (.iaload, 1) := by decide +kernel
theorem dL_law_888 : decode cL_law 888 = .ok (.invokevirtual 110, 3) := by decide +kernel
theorem dL_law_891 : decode cL_law 891 = .ok (.if_icmp .eq 418, 3) := by decide +kernel
theorem dL_law_894 : decode cL_law 894 = .ok (.iconst 0, 1) := by decide +kernel
theorem dL_law_895 : decode cL_law 895 = .ok (.ireturn, 1) := by decide +kernel
theorem dL_law_896 : decode cL_law 896 = .ok (.aload_n 1, 1) := by decide +kernel
theorem dL_law_897 : decode cL_law 897 = .ok (.aload_n 0, 1) := by decide +kernel
theorem dL_law_898 : decode cL_law 898 = .ok (.iload_n 3, 1) := by decide +kernel
theorem dL_law_899 : decode cL_law 899 = .ok (.iconst 1, 1) := by decide +kernel
theorem dL_law_900 : decode cL_law 900 = .ok (.iadd, 1) := by decide +kernel
theorem dL_law_901 : decode cL_law 901 = .ok (.iaload, 1) := by decide +kernel
theorem dL_law_902 : decode cL_law 902 = .ok (.invokevirtual 111, 3) := by decide +kernel
theorem dL_law_905 : decode cL_law 905 = .ok (.aload_n 2, 1) := by decide +kernel
theorem dL_law_906 : decode cL_law 906 = .ok (.aload_n 0, 1) := by decide +kernel
theorem dL_law_907 : decode cL_law 907 = .ok (.iload_n 3, 1) := by decide +kernel
theorem dL_law_908 : decode cL_law 908 = .ok (.iconst 1, 1) := by decide +kernel
theorem dL_law_909 : decode cL_law 909 = .ok (.iadd, 1) := by decide +kernel
theorem dL_law_910 : decode cL_law 910 = .ok (.iaload, 1) := by decide +kernel
theorem dL_law_911 : decode cL_law 911 = .ok (.invokevirtual 114, 3) := by decide +kernel
theorem dL_law_914 : decode cL_law 914 = .ok (.if_icmp .eq 395, 3) := by decide +kernel
theorem dL_law_917 : decode cL_law 917 = .ok (.iconst 0, 1) := by decide +kernel
theorem dL_law_918 : decode cL_law 918 = .ok (.ireturn, 1) := by decide +kernel
theorem dL_law_919 : decode cL_law 919 = .ok (.aload_n 1, 1) := by decide +kernel
theorem dL_law_920 : decode cL_law 920 = .ok (.aload_n 0, 1) := by decide +kernel
theorem dL_law_921 : decode cL_law 921 = .ok (.iload_n 3, 1) := by decide +kernel
theorem dL_law_922 : decode cL_law 922 = .ok (.iconst 1, 1) := by decide +kernel
theorem dL_law_923 : decode cL_law 923 = .ok (.iadd, 1) := by decide +kernel
theorem dL_law_924 : decode cL_law 924 = .ok (.iaload, 1) := by decide +kernel
theorem dL_law_925 : decode cL_law 925 = .ok (.invokevirtual 115, 3) := by decide +kernel
theorem dL_law_928 : decode cL_law 928 = .ok (.aload_n 2, 1) := by decide +kernel
theorem dL_law_929 : decode cL_law 929 = .ok (.aload_n 0, 1) := by decide +kernel
theorem dL_law_930 : decode cL_law 930 = .ok (.iload_n 3, 1) := by decide +kernel
theorem dL_law_931 : decode cL_law 931 = .ok (.iconst 1, 1) := by decide +kernel
theorem dL_law_932 : decode cL_law 932 = .ok (.iadd, 1) := by decide +kernel
theorem dL_law_933 : decode cL_law 933 = .ok (.iaload, 1) := by decide +kernel
theorem dL_law_934 : decode cL_law 934 = .ok (.invokevirtual 118, 3) := by decide +kernel
theorem dL_law_937 : decode cL_law 937 = .ok (.if_icmp .eq 372, 3) := by decide +kernel
theorem dL_law_940 : decode cL_law 940 = .ok (.iconst 0, 1) := by decide +kernel
theorem dL_law_941 : decode cL_law 941 = .ok (.ireturn, 1) := by decide +kernel
theorem dL_law_942 : decode cL_law 942 = .ok (.aload_n 1, 1) := by decide +kernel
theorem dL_law_943 : decode cL_law 943 = .ok (.aload_n 0, 1) := by decide +kernel
theorem dL_law_944 : decode cL_law 944 = .ok (.iload_n 3, 1) := by decide +kernel
theorem dL_law_945 : decode cL_law 945 = .ok (.iconst 1, 1) := by decide +kernel
theorem dL_law_946 : decode cL_law 946 = .ok (.iadd, 1) := by decide +kernel
theorem dL_law_947 : decode cL_law 947 = .ok (.iaload, 1) := by decide +kernel
theorem dL_law_948 : decode cL_law 948 = .ok (.invokevirtual 119, 3) := by decide +kernel
theorem dL_law_951 : decode cL_law 951 = .ok (.aload_n 2, 1) := by decide +kernel
theorem dL_law_952 : decode cL_law 952 = .ok (.aload_n 0, 1) := by decide +kernel
theorem dL_law_953 : decode cL_law 953 = .ok (.iload_n 3, 1) := by decide +kernel
theorem dL_law_954 : decode cL_law 954 = .ok (.iconst 1, 1) := by decide +kernel
theorem dL_law_955 : decode cL_law 955 = .ok (.iadd, 1) := by decide +kernel
theorem dL_law_956 : decode cL_law 956 = .ok (.iaload, 1) := by decide +kernel
theorem dL_law_957 : decode cL_law 957 = .ok (.invokevirtual 122, 3) := by decide +kernel
theorem dL_law_960 : decode cL_law 960 = .ok (.if_icmp .eq 349, 3) := by decide +kernel
theorem dL_law_963 : decode cL_law 963 = .ok (.iconst 0, 1) := by decide +kernel
theorem dL_law_964 : decode cL_law 964 = .ok (.ireturn, 1) := by decide +kernel
theorem dL_law_965 : decode cL_law 965 = .ok (.aload_n 1, 1) := by decide +kernel
theorem dL_law_966 : decode cL_law 966 = .ok (.aload_n 0, 1) := by decide +kernel
theorem dL_law_967 : decode cL_law 967 = .ok (.iload_n 3, 1) := by decide +kernel
theorem dL_law_968 : decode cL_law 968 = .ok (.iconst 1, 1) := by decide +kernel
theorem dL_law_969 : decode cL_law 969 = .ok (.iadd, 1) := by decide +kernel
theorem dL_law_970 : decode cL_law 970 = .ok (.iaload, 1) := by decide +kernel
theorem dL_law_971 : decode cL_law 971 = .ok (.invokevirtual 123, 3) := by decide +kernel
theorem dL_law_974 : decode cL_law 974 = .ok (.aload_n 2, 1) := by decide +kernel
theorem dL_law_975 : decode cL_law 975 = .ok (.aload_n 0, 1) := by decide +kernel
theorem dL_law_976 : decode cL_law 976 = .ok (.iload_n 3, 1) := by decide +kernel
theorem dL_law_977 : decode cL_law 977 = .ok (.iconst 1, 1) := by decide +kernel
theorem dL_law_978 : decode cL_law 978 = .ok (.iadd, 1) := by decide +kernel
theorem dL_law_979 : decode cL_law 979 = .ok (.iaload, 1) := by decide +kernel
theorem dL_law_980 : decode cL_law 980 = .ok (.invokevirtual 126, 3) := by decide +kernel
theorem dL_law_983 : decode cL_law 983 = .ok (.if_icmp .eq 326, 3) := by decide +kernel
theorem dL_law_986 : decode cL_law 986 = .ok (.iconst 0, 1) := by decide +kernel
theorem dL_law_987 : decode cL_law 987 = .ok (.ireturn, 1) := by decide +kernel
theorem dL_law_988 : decode cL_law 988 = .ok (.aload_n 1, 1) := by decide +kernel
theorem dL_law_989 : decode cL_law 989 = .ok (.aload_n 0, 1) := by decide +kernel
theorem dL_law_990 : decode cL_law 990 = .ok (.iload_n 3, 1) := by decide +kernel
theorem dL_law_991 : decode cL_law 991 = .ok (.iconst 1, 1) := by decide +kernel
theorem dL_law_992 : decode cL_law 992 = .ok (.iadd, 1) := by decide +kernel
theorem dL_law_993 : decode cL_law 993 = .ok (.iaload, 1) := by decide +kernel
theorem dL_law_994 : decode cL_law 994 = .ok (.invokevirtual 127, 3) := by decide +kernel
theorem dL_law_997 : decode cL_law 997 = .ok (.aload_n 2, 1) := by decide +kernel
theorem dL_law_998 : decode cL_law 998 = .ok (.aload_n 0, 1) := by decide +kernel
theorem dL_law_999 : decode cL_law 999 = .ok (.iload_n 3, 1) := by decide +kernel
theorem dL_law_1000 : decode cL_law 1000 = .ok (.iconst 1, 1) := by decide +kernel
theorem dL_law_1001 : decode cL_law 1001 = .ok (.iadd, 1) := by decide +kernel
theorem dL_law_1002 : decode cL_law 1002 = .ok (.iaload, 1) := by decide +kernel
theorem dL_law_1003 : decode cL_law 1003 = .ok (.invokevirtual 130, 3) := by decide +kernel
theorem dL_law_1006 : decode cL_law 1006 = .ok (.if_icmp .eq 303, 3) := by decide +kernel
theorem dL_law_1009 : decode cL_law 1009 = .ok (.iconst 0, 1) := by decide +kernel
theorem dL_law_1010 : decode cL_law 1010 = .ok (.ireturn, 1) := by decide +kernel
theorem dL_law_1011 : decode cL_law 1011 = .ok (.aload_n 1, 1) := by decide +kernel
theorem dL_law_1012 : decode cL_law 1012 = .ok (.aload_n 0, 1) := by decide +kernel
theorem dL_law_1013 : decode cL_law 1013 = .ok (.iload_n 3, 1) := by decide +kernel
theorem dL_law_1014 : decode cL_law 1014 = .ok (.iconst 1, 1) := by decide +kernel
theorem dL_law_1015 : decode cL_law 1015 = .ok (.iadd, 1) := by decide +kernel
theorem dL_law_1016 : decode cL_law 1016 = .ok (.iaload, 1) := by decide +kernel
theorem dL_law_1017 : decode cL_law 1017 = .ok (.aload_n 0, 1) := by decide +kernel
theorem dL_law_1018 : decode cL_law 1018 = .ok (.iload_n 3, 1) := by decide +kernel
theorem dL_law_1019 : decode cL_law 1019 = .ok (.iconst 2, 1) := by decide +kernel
theorem dL_law_1020 : decode cL_law 1020 = .ok (.iadd, 1) := by decide +kernel
theorem dL_law_1021 : decode cL_law 1021 = .ok (.iaload, 1) := by decide +kernel
theorem dL_law_1022 : decode cL_law 1022 = .ok (.aload_n 0, 1) := by decide +kernel
theorem dL_law_1023 : decode cL_law 1023 = .ok (.iload_n 3, 1) := by decide +kernel
theorem dL_law_1024 : decode cL_law 1024 = .ok (.iconst 3, 1) := by decide +kernel
theorem dL_law_1025 : decode cL_law 1025 = .ok (.iadd, 1) := by decide +kernel
theorem dL_law_1026 : decode cL_law 1026 = .ok (.iaload, 1) := by decide +kernel
theorem dL_law_1027 : decode cL_law 1027 = .ok (.invokevirtual 131, 3) := by decide +kernel
theorem dL_law_1030 : decode cL_law 1030 = .ok (.aload_n 2, 1) := by decide +kernel
theorem dL_law_1031 : decode cL_law 1031 = .ok (.aload_n 0, 1) := by decide +kernel
theorem dL_law_1032 : decode cL_law 1032 = .ok (.iload_n 3, 1) := by decide +kernel
theorem dL_law_1033 : decode cL_law 1033 = .ok (.iconst 1, 1) := by decide +kernel
theorem dL_law_1034 : decode cL_law 1034 = .ok (.iadd, 1) := by decide +kernel
theorem dL_law_1035 : decode cL_law 1035 = .ok (.iaload, 1) := by decide +kernel
theorem dL_law_1036 : decode cL_law 1036 = .ok (.aload_n 0, 1) := by decide +kernel
theorem dL_law_1037 : decode cL_law 1037 = .ok (.iload_n 3, 1) := by decide +kernel
theorem dL_law_1038 : decode cL_law 1038 = .ok (.iconst 2, 1) := by decide +kernel
theorem dL_law_1039 : decode cL_law 1039 = .ok (.iadd, 1) := by decide +kernel
theorem dL_law_1040 : decode cL_law 1040 = .ok (.iaload, 1) := by decide +kernel
theorem dL_law_1041 : decode cL_law 1041 = .ok (.aload_n 0, 1) := by decide +kernel
theorem dL_law_1042 : decode cL_law 1042 = .ok (.iload_n 3, 1) := by decide +kernel
theorem dL_law_1043 : decode cL_law 1043 = .ok (.iconst 3, 1) := by decide +kernel
theorem dL_law_1044 : decode cL_law 1044 = .ok (.iadd, 1) := by decide +kernel
theorem dL_law_1045 : decode cL_law 1045 = .ok (.iaload, 1) := by decide +kernel
theorem dL_law_1046 : decode cL_law 1046 = .ok (.invokevirtual 134, 3) := by decide +kernel
theorem dL_law_1049 : decode cL_law 1049 = .ok (.lcmp, 1) := by decide +kernel
theorem dL_law_1050 : decode cL_law 1050 = .ok (.ifCond .eq 259, 3) := by decide +kernel
theorem dL_law_1053 : decode cL_law 1053 = .ok (.iconst 0, 1) := by decide +kernel
theorem dL_law_1054 : decode cL_law 1054 = .ok (.ireturn, 1) := by decide +kernel
theorem dL_law_1055 : decode cL_law 1055 = .ok (.aload_n 1, 1) := by decide +kernel
theorem dL_law_1056 : decode cL_law 1056 = .ok (.aload_n 0, 1) := by decide +kernel
theorem dL_law_1057 : decode cL_law 1057 = .ok (.iload_n 3, 1) := by decide +kernel
theorem dL_law_1058 : decode cL_law 1058 = .ok (.iconst 1, 1) := by decide +kernel
theorem dL_law_1059 : decode cL_law 1059 = .ok (.iadd, 1) := by decide +kernel
theorem dL_law_1060 : decode cL_law 1060 = .ok (.iaload, 1) := by decide +kernel
theorem dL_law_1061 : decode cL_law 1061 = .ok (.aload_n 0, 1) := by decide +kernel
theorem dL_law_1062 : decode cL_law 1062 = .ok (.iload_n 3, 1) := by decide +kernel
theorem dL_law_1063 : decode cL_law 1063 = .ok (.iconst 2, 1) := by decide +kernel
theorem dL_law_1064 : decode cL_law 1064 = .ok (.iadd, 1) := by decide +kernel
theorem dL_law_1065 : decode cL_law 1065 = .ok (.iaload, 1) := by decide +kernel
theorem dL_law_1066 : decode cL_law 1066 = .ok (.invokevirtual 135, 3) := by decide +kernel
theorem dL_law_1069 : decode cL_law 1069 = .ok (.aload_n 2, 1) := by decide +kernel
theorem dL_law_1070 : decode cL_law 1070 = .ok (.aload_n 0, 1) := by decide +kernel
theorem dL_law_1071 : decode cL_law 1071 = .ok (.iload_n 3, 1) := by decide +kernel
theorem dL_law_1072 : decode cL_law 1072 = .ok (.iconst 1, 1) := by decide +kernel
theorem dL_law_1073 : decode cL_law 1073 = .ok (.iadd, 1) := by decide +kernel
theorem dL_law_1074 : decode cL_law 1074 = .ok (.iaload, 1) := by decide +kernel
theorem dL_law_1075 : decode cL_law 1075 = .ok (.aload_n 0, 1) := by decide +kernel
theorem dL_law_1076 : decode cL_law 1076 = .ok (.iload_n 3, 1) := by decide +kernel
theorem dL_law_1077 : decode cL_law 1077 = .ok (.iconst 2, 1) := by decide +kernel
theorem dL_law_1078 : decode cL_law 1078 = .ok (.iadd, 1) := by decide +kernel
theorem dL_law_1079 : decode cL_law 1079 = .ok (.iaload, 1) := by decide +kernel
theorem dL_law_1080 : decode cL_law 1080 = .ok (.invokevirtual 138, 3) := by decide +kernel
theorem dL_law_1083 : decode cL_law 1083 = .ok (.if_icmp .eq 226, 3) := by decide +kernel
theorem dL_law_1086 : decode cL_law 1086 = .ok (.iconst 0, 1) := by decide +kernel
theorem dL_law_1087 : decode cL_law 1087 = .ok (.ireturn, 1) := by decide +kernel
theorem dL_law_1088 : decode cL_law 1088 = .ok (.aload_n 1, 1) := by decide +kernel
theorem dL_law_1089 : decode cL_law 1089 = .ok (.aload_n 0, 1) := by decide +kernel
theorem dL_law_1090 : decode cL_law 1090 = .ok (.iload_n 3, 1) := by decide +kernel
theorem dL_law_1091 : decode cL_law 1091 = .ok (.iconst 1, 1) := by decide +kernel
theorem dL_law_1092 : decode cL_law 1092 = .ok (.iadd, 1) := by decide +kernel
theorem dL_law_1093 : decode cL_law 1093 = .ok (.iaload, 1) := by decide +kernel
theorem dL_law_1094 : decode cL_law 1094 = .ok (.invokevirtual 139, 3) := by decide +kernel
theorem dL_law_1097 : decode cL_law 1097 = .ok (.aload_n 2, 1) := by decide +kernel
theorem dL_law_1098 : decode cL_law 1098 = .ok (.aload_n 0, 1) := by decide +kernel
theorem dL_law_1099 : decode cL_law 1099 = .ok (.iload_n 3, 1) := by decide +kernel
theorem dL_law_1100 : decode cL_law 1100 = .ok (.iconst 1, 1) := by decide +kernel
theorem dL_law_1101 : decode cL_law 1101 = .ok (.iadd, 1) := by decide +kernel
theorem dL_law_1102 : decode cL_law 1102 = .ok (.iaload, 1) := by decide +kernel
theorem dL_law_1103 : decode cL_law 1103 = .ok (.invokevirtual 142, 3) := by decide +kernel
theorem dL_law_1106 : decode cL_law 1106 = .ok (.if_icmp .eq 203, 3) := by decide +kernel
theorem dL_law_1109 : decode cL_law 1109 = .ok (.iconst 0, 1) := by decide +kernel
theorem dL_law_1110 : decode cL_law 1110 = .ok (.ireturn, 1) := by decide +kernel
theorem dL_law_1111 : decode cL_law 1111 = .ok (.aload_n 1, 1) := by decide +kernel
theorem dL_law_1112 : decode cL_law 1112 = .ok (.aload_n 0, 1) := by decide +kernel
theorem dL_law_1113 : decode cL_law 1113 = .ok (.iload_n 3, 1) := by decide +kernel
theorem dL_law_1114 : decode cL_law 1114 = .ok (.iconst 1, 1) := by decide +kernel
theorem dL_law_1115 : decode cL_law 1115 = .ok (.iadd, 1) := by decide +kernel
theorem dL_law_1116 : decode cL_law 1116 = .ok (.iaload, 1) := by decide +kernel
theorem dL_law_1117 : decode cL_law 1117 = .ok (.invokevirtual 143, 3) := by decide +kernel
theorem dL_law_1120 : decode cL_law 1120 = .ok (.aload_n 2, 1) := by decide +kernel
theorem dL_law_1121 : decode cL_law 1121 = .ok (.aload_n 0, 1) := by decide +kernel
theorem dL_law_1122 : decode cL_law 1122 = .ok (.iload_n 3, 1) := by decide +kernel
theorem dL_law_1123 : decode cL_law 1123 = .ok (.iconst 1, 1) := by decide +kernel
theorem dL_law_1124 : decode cL_law 1124 = .ok (.iadd, 1) := by decide +kernel
theorem dL_law_1125 : decode cL_law 1125 = .ok (.iaload, 1) := by decide +kernel
theorem dL_law_1126 : decode cL_law 1126 = .ok (.invokevirtual 146, 3) := by decide +kernel
theorem dL_law_1129 : decode cL_law 1129 = .ok (.if_icmp .eq 180, 3) := by decide +kernel
theorem dL_law_1132 : decode cL_law 1132 = .ok (.iconst 0, 1) := by decide +kernel
theorem dL_law_1133 : decode cL_law 1133 = .ok (.ireturn, 1) := by decide +kernel
theorem dL_law_1134 : decode cL_law 1134 = .ok (.aload_n 1, 1) := by decide +kernel
theorem dL_law_1135 : decode cL_law 1135 = .ok (.aload_n 0, 1) := by decide +kernel
theorem dL_law_1136 : decode cL_law 1136 = .ok (.iload_n 3, 1) := by decide +kernel
theorem dL_law_1137 : decode cL_law 1137 = .ok (.iconst 1, 1) := by decide +kernel
theorem dL_law_1138 : decode cL_law 1138 = .ok (.iadd, 1) := by decide +kernel
theorem dL_law_1139 : decode cL_law 1139 = .ok (.iaload, 1) := by decide +kernel
theorem dL_law_1140 : decode cL_law 1140 = .ok (.aload_n 0, 1) := by decide +kernel
theorem dL_law_1141 : decode cL_law 1141 = .ok (.iload_n 3, 1) := by decide +kernel
theorem dL_law_1142 : decode cL_law 1142 = .ok (.iconst 2, 1) := by decide +kernel
theorem dL_law_1143 : decode cL_law 1143 = .ok (.iadd, 1) := by decide +kernel
theorem dL_law_1144 : decode cL_law 1144 = .ok (.iaload, 1) := by decide +kernel
theorem dL_law_1145 : decode cL_law 1145 = .ok (.aload_n 0, 1) := by decide +kernel
theorem dL_law_1146 : decode cL_law 1146 = .ok (.iload_n 3, 1) := by decide +kernel
theorem dL_law_1147 : decode cL_law 1147 = .ok (.iconst 3, 1) := by decide +kernel
theorem dL_law_1148 : decode cL_law 1148 = .ok (.iadd, 1) := by decide +kernel
theorem dL_law_1149 : decode cL_law 1149 = .ok (.iaload, 1) := by decide +kernel
theorem dL_law_1150 : decode cL_law 1150 = .ok (.invokevirtual 147, 3) := by decide +kernel
theorem dL_law_1153 : decode cL_law 1153 = .ok (.aload_n 2, 1) := by decide +kernel
theorem dL_law_1154 : decode cL_law 1154 = .ok (.aload_n 0, 1) := by decide +kernel
theorem dL_law_1155 : decode cL_law 1155 = .ok (.iload_n 3, 1) := by decide +kernel
theorem dL_law_1156 : decode cL_law 1156 = .ok (.iconst 1, 1) := by decide +kernel
theorem dL_law_1157 : decode cL_law 1157 = .ok (.iadd, 1) := by decide +kernel
theorem dL_law_1158 : decode cL_law 1158 = .ok (.iaload, 1) := by decide +kernel
theorem dL_law_1159 : decode cL_law 1159 = .ok (.aload_n 0, 1) := by decide +kernel
theorem dL_law_1160 : decode cL_law 1160 = .ok (.iload_n 3, 1) := by decide +kernel
theorem dL_law_1161 : decode cL_law 1161 = .ok (.iconst 2, 1) := by decide +kernel
theorem dL_law_1162 : decode cL_law 1162 = .ok (.iadd, 1) := by decide +kernel
theorem dL_law_1163 : decode cL_law 1163 = .ok (.iaload, 1) := by decide +kernel
theorem dL_law_1164 : decode cL_law 1164 = .ok (.aload_n 0, 1) := by decide +kernel
theorem dL_law_1165 : decode cL_law 1165 = .ok (.iload_n 3, 1) := by decide +kernel
theorem dL_law_1166 : decode cL_law 1166 = .ok (.iconst 3, 1) := by decide +kernel
theorem dL_law_1167 : decode cL_law 1167 = .ok (.iadd, 1) := by decide +kernel
theorem dL_law_1168 : decode cL_law 1168 = .ok (.iaload, 1) := by decide +kernel
theorem dL_law_1169 : decode cL_law 1169 = .ok (.invokevirtual 150, 3) := by decide +kernel
theorem dL_law_1172 : decode cL_law 1172 = .ok (.if_icmp .eq 137, 3) := by decide +kernel
theorem dL_law_1175 : decode cL_law 1175 = .ok (.iconst 0, 1) := by decide +kernel
theorem dL_law_1176 : decode cL_law 1176 = .ok (.ireturn, 1) := by decide +kernel
theorem dL_law_1177 : decode cL_law 1177 = .ok (.aload_n 1, 1) := by decide +kernel
theorem dL_law_1178 : decode cL_law 1178 = .ok (.aload_n 0, 1) := by decide +kernel
theorem dL_law_1179 : decode cL_law 1179 = .ok (.iload_n 3, 1) := by decide +kernel
theorem dL_law_1180 : decode cL_law 1180 = .ok (.iconst 1, 1) := by decide +kernel
theorem dL_law_1181 : decode cL_law 1181 = .ok (.iadd, 1) := by decide +kernel
theorem dL_law_1182 : decode cL_law 1182 = .ok (.iaload, 1) := by decide +kernel
theorem dL_law_1183 : decode cL_law 1183 = .ok (.aload_n 0, 1) := by decide +kernel
theorem dL_law_1184 : decode cL_law 1184 = .ok (.iload_n 3, 1) := by decide +kernel
theorem dL_law_1185 : decode cL_law 1185 = .ok (.iconst 2, 1) := by decide +kernel
theorem dL_law_1186 : decode cL_law 1186 = .ok (.iadd, 1) := by decide +kernel
theorem dL_law_1187 : decode cL_law 1187 = .ok (.iaload, 1) := by decide +kernel
theorem dL_law_1188 : decode cL_law 1188 = .ok (.aload_n 0, 1) := by decide +kernel
theorem dL_law_1189 : decode cL_law 1189 = .ok (.iload_n 3, 1) := by decide +kernel
theorem dL_law_1190 : decode cL_law 1190 = .ok (.iconst 3, 1) := by decide +kernel
theorem dL_law_1191 : decode cL_law 1191 = .ok (.iadd, 1) := by decide +kernel
theorem dL_law_1192 : decode cL_law 1192 = .ok (.iaload, 1) := by decide +kernel
theorem dL_law_1193 : decode cL_law 1193 = .ok (.invokevirtual 151, 3) := by decide +kernel
theorem dL_law_1196 : decode cL_law 1196 = .ok (.aload_n 2, 1) := by decide +kernel
theorem dL_law_1197 : decode cL_law 1197 = .ok (.aload_n 0, 1) := by decide +kernel
theorem dL_law_1198 : decode cL_law 1198 = .ok (.iload_n 3, 1) := by decide +kernel
theorem dL_law_1199 : decode cL_law 1199 = .ok (.iconst 1, 1) := by decide +kernel
theorem dL_law_1200 : decode cL_law 1200 = .ok (.iadd, 1) := by decide +kernel
theorem dL_law_1201 : decode cL_law 1201 = .ok (.iaload, 1) := by decide +kernel
theorem dL_law_1202 : decode cL_law 1202 = .ok (.aload_n 0, 1) := by decide +kernel
theorem dL_law_1203 : decode cL_law 1203 = .ok (.iload_n 3, 1) := by decide +kernel
theorem dL_law_1204 : decode cL_law 1204 = .ok (.iconst 2, 1) := by decide +kernel
theorem dL_law_1205 : decode cL_law 1205 = .ok (.iadd, 1) := by decide +kernel
theorem dL_law_1206 : decode cL_law 1206 = .ok (.iaload, 1) := by decide +kernel
theorem dL_law_1207 : decode cL_law 1207 = .ok (.aload_n 0, 1) := by decide +kernel
theorem dL_law_1208 : decode cL_law 1208 = .ok (.iload_n 3, 1) := by decide +kernel
theorem dL_law_1209 : decode cL_law 1209 = .ok (.iconst 3, 1) := by decide +kernel
theorem dL_law_1210 : decode cL_law 1210 = .ok (.iadd, 1) := by decide +kernel
theorem dL_law_1211 : decode cL_law 1211 = .ok (.iaload, 1) := by decide +kernel
theorem dL_law_1212 : decode cL_law 1212 = .ok (.invokevirtual 154, 3) := by decide +kernel
theorem dL_law_1215 : decode cL_law 1215 = .ok (.if_icmp .eq 94, 3) := by decide +kernel
theorem dL_law_1218 : decode cL_law 1218 = .ok (.iconst 0, 1) := by decide +kernel
theorem dL_law_1219 : decode cL_law 1219 = .ok (.ireturn, 1) := by decide +kernel
theorem dL_law_1220 : decode cL_law 1220 = .ok (.aload_n 1, 1) := by decide +kernel
theorem dL_law_1221 : decode cL_law 1221 = .ok (.aload_n 0, 1) := by decide +kernel
theorem dL_law_1222 : decode cL_law 1222 = .ok (.iload_n 3, 1) := by decide +kernel
theorem dL_law_1223 : decode cL_law 1223 = .ok (.iconst 1, 1) := by decide +kernel
theorem dL_law_1224 : decode cL_law 1224 = .ok (.iadd, 1) := by decide +kernel
theorem dL_law_1225 : decode cL_law 1225 = .ok (.iaload, 1) := by decide +kernel
theorem dL_law_1226 : decode cL_law 1226 = .ok (.aload_n 0, 1) := by decide +kernel
theorem dL_law_1227 : decode cL_law 1227 = .ok (.iload_n 3, 1) := by decide +kernel
theorem dL_law_1228 : decode cL_law 1228 = .ok (.iconst 2, 1) := by decide +kernel
theorem dL_law_1229 : decode cL_law 1229 = .ok (.iadd, 1) := by decide +kernel
theorem dL_law_1230 : decode cL_law 1230 = .ok (.iaload, 1) := by decide +kernel
theorem dL_law_1231 : decode cL_law 1231 = .ok (.aload_n 0, 1) := by decide +kernel
theorem dL_law_1232 : decode cL_law 1232 = .ok (.iload_n 3, 1) := by decide +kernel
theorem dL_law_1233 : decode cL_law 1233 = .ok (.iconst 3, 1) := by decide +kernel
theorem dL_law_1234 : decode cL_law 1234 = .ok (.iadd, 1) := by decide +kernel
theorem dL_law_1235 : decode cL_law 1235 = .ok (.iaload, 1) := by decide +kernel
theorem dL_law_1236 : decode cL_law 1236 = .ok (.aload_n 0, 1) := by decide +kernel
theorem dL_law_1237 : decode cL_law 1237 = .ok (.iload_n 3, 1) := by decide +kernel
theorem dL_law_1238 : decode cL_law 1238 = .ok (.iconst 4, 1) := by decide +kernel
theorem dL_law_1239 : decode cL_law 1239 = .ok (.iadd, 1) := by decide +kernel
theorem dL_law_1240 : decode cL_law 1240 = .ok (.iaload, 1) := by decide +kernel
theorem dL_law_1241 : decode cL_law 1241 = .ok (.invokevirtual 155, 3) := by decide +kernel
theorem dL_law_1244 : decode cL_law 1244 = .ok (.aload_n 2, 1) := by decide +kernel
theorem dL_law_1245 : decode cL_law 1245 = .ok (.aload_n 0, 1) := by decide +kernel
theorem dL_law_1246 : decode cL_law 1246 = .ok (.iload_n 3, 1) := by decide +kernel
theorem dL_law_1247 : decode cL_law 1247 = .ok (.iconst 1, 1) := by decide +kernel
theorem dL_law_1248 : decode cL_law 1248 = .ok (.iadd, 1) := by decide +kernel
theorem dL_law_1249 : decode cL_law 1249 = .ok (.iaload, 1) := by decide +kernel
theorem dL_law_1250 : decode cL_law 1250 = .ok (.aload_n 0, 1) := by decide +kernel
theorem dL_law_1251 : decode cL_law 1251 = .ok (.iload_n 3, 1) := by decide +kernel
theorem dL_law_1252 : decode cL_law 1252 = .ok (.iconst 2, 1) := by decide +kernel
theorem dL_law_1253 : decode cL_law 1253 = .ok (.iadd, 1) := by decide +kernel
theorem dL_law_1254 : decode cL_law 1254 = .ok (.iaload, 1) := by decide +kernel
theorem dL_law_1255 : decode cL_law 1255 = .ok (.aload_n 0, 1) := by decide +kernel
theorem dL_law_1256 : decode cL_law 1256 = .ok (.iload_n 3, 1) := by decide +kernel
theorem dL_law_1257 : decode cL_law 1257 = .ok (.iconst 3, 1) := by decide +kernel
theorem dL_law_1258 : decode cL_law 1258 = .ok (.iadd, 1) := by decide +kernel
theorem dL_law_1259 : decode cL_law 1259 = .ok (.iaload, 1) := by decide +kernel
theorem dL_law_1260 : decode cL_law 1260 = .ok (.aload_n 0, 1) := by decide +kernel
theorem dL_law_1261 : decode cL_law 1261 = .ok (.iload_n 3, 1) := by decide +kernel
theorem dL_law_1262 : decode cL_law 1262 = .ok (.iconst 4, 1) := by decide +kernel
theorem dL_law_1263 : decode cL_law 1263 = .ok (.iadd, 1) := by decide +kernel
theorem dL_law_1264 : decode cL_law 1264 = .ok (.iaload, 1) := by decide +kernel
theorem dL_law_1265 : decode cL_law 1265 = .ok (.invokevirtual 159, 3) := by decide +kernel
theorem dL_law_1268 : decode cL_law 1268 = .ok (.if_icmp .eq 41, 3) := by decide +kernel
theorem dL_law_1271 : decode cL_law 1271 = .ok (.iconst 0, 1) := by decide +kernel
theorem dL_law_1272 : decode cL_law 1272 = .ok (.ireturn, 1) := by decide +kernel
theorem dL_law_1273 : decode cL_law 1273 = .ok (.aload_n 1, 1) := by decide +kernel
theorem dL_law_1274 : decode cL_law 1274 = .ok (.invokevirtual 160, 3) := by decide +kernel
theorem dL_law_1277 : decode cL_law 1277 = .ok (.aload_n 2, 1) := by decide +kernel
theorem dL_law_1278 : decode cL_law 1278 = .ok (.invokevirtual 163, 3) := by decide +kernel
theorem dL_law_1281 : decode cL_law 1281 = .ok (.if_icmp .eq 28, 3) := by decide +kernel
theorem dL_law_1284 : decode cL_law 1284 = .ok (.iconst 0, 1) := by decide +kernel
theorem dL_law_1285 : decode cL_law 1285 = .ok (.ireturn, 1) := by decide +kernel
theorem dL_law_1286 : decode cL_law 1286 = .ok (.aload_n 1, 1) := by decide +kernel
theorem dL_law_1287 : decode cL_law 1287 = .ok (.aload_n 0, 1) := by decide +kernel
theorem dL_law_1288 : decode cL_law 1288 = .ok (.iload_n 3, 1) := by decide +kernel
theorem dL_law_1289 : decode cL_law 1289 = .ok (.iconst 1, 1) := by decide +kernel
theorem dL_law_1290 : decode cL_law 1290 = .ok (.iadd, 1) := by decide +kernel
theorem dL_law_1291 : decode cL_law 1291 = .ok (.iaload, 1) := by decide +kernel
theorem dL_law_1292 : decode cL_law 1292 = .ok (.invokevirtual 164, 3) := by decide +kernel
theorem dL_law_1295 : decode cL_law 1295 = .ok (.aload_n 2, 1) := by decide +kernel
theorem dL_law_1296 : decode cL_law 1296 = .ok (.aload_n 0, 1) := by decide +kernel
theorem dL_law_1297 : decode cL_law 1297 = .ok (.iload_n 3, 1) := by decide +kernel
theorem dL_law_1298 : decode cL_law 1298 = .ok (.iconst 1, 1) := by decide +kernel
theorem dL_law_1299 : decode cL_law 1299 = .ok (.iadd, 1) := by decide +kernel
theorem dL_law_1300 : decode cL_law 1300 = .ok (.iaload, 1) := by decide +kernel
theorem dL_law_1301 : decode cL_law 1301 = .ok (.invokevirtual 167, 3) := by decide +kernel
theorem dL_law_1304 : decode cL_law 1304 = .ok (.if_icmp .eq 5, 3) := by decide +kernel
theorem dL_law_1307 : decode cL_law 1307 = .ok (.iconst 0, 1) := by decide +kernel
theorem dL_law_1308 : decode cL_law 1308 = .ok (.ireturn, 1) := by decide +kernel
theorem dL_law_1309 : decode cL_law 1309 = .ok (.iinc 3 5, 3) := by decide +kernel
theorem dL_law_1312 : decode cL_law 1312 = .ok (.goto (-1294), 3) := by decide +kernel
theorem dL_law_1315 : decode cL_law 1315 = .ok (.iconst 1, 1) := by decide +kernel
theorem dL_law_1316 : decode cL_law 1316 = .ok (.ireturn, 1) := by decide +kernel
abbrev vwCl : List vw_C := [(RX0, TX0, 1), (RX1, TX1, 9), (RX2, TX2, 5), (RX3, TX3, 4), (RX4, TX4, 2), (RX5, TX5, 3), (RX6, TX6, 7), (RX7, TX7, 3), (RX8, TX8, 9), (RX9, TX9, 6), (RX10, TX10, 9), (RX11, TX11, 15), (RX12, TX12, 37)]
