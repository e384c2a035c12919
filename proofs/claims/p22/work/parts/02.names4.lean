theorem dX12_canGo_44 : decode cX12_canGo 44 = .ok (.goto 4, 3) := by decide +kernel
theorem dX12_canGo_47 : decode cX12_canGo 47 = .ok (.iconst 0, 1) := by decide +kernel
theorem dX12_canGo_48 : decode cX12_canGo 48 = .ok (.ireturn, 1) := by decide +kernel
set_option maxRecDepth 20000 in
theorem ggX12_histories_X12_in : GoodIn wsX12_histories wsX12_in := goodIn_r _ [9] rfl (by decide +kernel)
set_option maxRecDepth 20000 in
theorem gX12_histories_X12_in : GoodIn wsX12_histories (va_wsS RX12 115 yX12_in wsX12_in) := goodIn_app (goodIn_of _ (by decide +kernel)) ggX12_histories_X12_in
set_option maxRecDepth 20000 in
theorem ggX12_histories_X12_findHistories : GoodIn wsX12_histories wsX12_findHistories := goodIn_r _ [13, 4, 3, 5, 14, 15, 16, 17, 8, 18, 19, 20, 21, 22, 23, 24, 25, 26, 27, 28, 29, 30, 31, 40, 41, 42, 43, 44, 45, 46, 47, 48, 49, 50, 51, 52, 53, 54, 55, 56, 57, 58, 59, 60, 61, 62, 63, 64, 65, 66, 67, 68, 69, 70, 71, 72, 73, 74, 75, 76] rfl (by decide +kernel)
set_option maxRecDepth 20000 in
theorem gX12_histories_X12_findHistories : GoodIn wsX12_histories (wsV RX12 290 RX12 yX12_findHistories wsX12_findHistories) := goodIn_app (goodIn_of _ (by decide +kernel)) ggX12_histories_X12_findHistories
set_option maxRecDepth 20000 in
theorem ggX12_histories_X12_stateNow : GoodIn wsX12_histories wsX12_stateNow := goodIn_r _ [35, 4, 40, 41, 42, 43, 44, 45, 46, 47, 48, 49, 50, 51, 52, 53, 54, 55, 56, 57, 58, 59, 60, 61, 62, 63, 64, 65, 66, 67, 68, 69, 70, 71, 72, 73, 74, 75, 76] rfl (by decide +kernel)
set_option maxRecDepth 20000 in
theorem gX12_histories_X12_stateNow : GoodIn wsX12_histories (wsV RX12 268 RX12 yX12_stateNow wsX12_stateNow) := goodIn_app (goodIn_of _ (by decide +kernel)) ggX12_histories_X12_stateNow
set_option maxRecDepth 20000 in
theorem ggX12_histories_X12_canGo : GoodIn wsX12_histories wsX12_canGo := goodIn_r _ [39, 4, 3, 15, 16, 17, 8, 18, 19, 20, 21, 22, 23, 24, 25, 26, 27, 28, 14, 29, 30, 31, 40, 41, 42, 43, 44, 45, 46, 47, 48, 49, 50, 51, 52, 53, 54, 55, 56, 57, 58, 59, 60, 61, 62, 63, 64, 65, 66, 67, 68, 69, 70, 71, 72, 73, 74, 75, 76] rfl (by decide +kernel)
set_option maxRecDepth 20000 in
theorem gX12_histories_X12_canGo : GoodIn wsX12_histories (wsV RX12 293 RX12 yX12_canGo wsX12_canGo) := goodIn_app (goodIn_of _ (by decide +kernel)) ggX12_histories_X12_canGo
set_option maxRecDepth 20000 in
theorem ggX12_histories_X12_then : GoodIn wsX12_histories wsX12_then := goodIn_r _ [18, 19, 20, 21, 22, 8, 23, 24, 25, 26, 27, 28, 14, 4, 29, 30, 31, 40, 41, 42, 43, 44, 45, 46, 47, 48, 49, 50, 51, 52, 53, 54, 55, 56, 57, 58, 59, 60, 61, 62, 63, 64, 65, 66, 67, 68, 69, 70, 71, 72, 73, 74, 75, 76] rfl (by decide +kernel)
set_option maxRecDepth 20000 in
theorem gX12_histories_X12_then : GoodIn wsX12_histories (wsV RX12 233 RX12 yX12_then wsX12_then) := goodIn_app (goodIn_of _ (by decide +kernel)) ggX12_histories_X12_then
theorem dX12_histories_0 : decode cX12_histories 0 = .ok (.iload_n 1, 1) := by decide +kernel
theorem dX12_histories_1 : decode cX12_histories 1 = .ok (.ifCond .eq 19, 3) := by decide +kernel
theorem dX12_histories_4 : decode cX12_histories 4 = .ok (.iload_n 1, 1) := by decide +kernel
theorem dX12_histories_5 : decode cX12_histories 5 = .ok (.i2l, 1) := by decide +kernel
theorem dX12_histories_6 : decode cX12_histories 6 = .ok (.ldc2_w 236, 3) := by decide +kernel
theorem dX12_histories_9 : decode cX12_histories 9 = .ok (.ldc2_w 288, 3) := by decide +kernel
theorem dX12_histories_12 : decode cX12_histories 12 = .ok (.invokestatic 115, 3) := by decide +kernel
theorem dX12_histories_15 : decode cX12_histories 15 = .ok (.ifCond .ne 5, 3) := by decide +kernel
theorem dX12_histories_18 : decode cX12_histories 18 = .ok (.iconst (-1), 1) := by decide +kernel
theorem dX12_histories_19 : decode cX12_histories 19 = .ok (.ireturn, 1) := by decide +kernel
theorem dX12_histories_20 : decode cX12_histories 20 = .ok (.aload_n 0, 1) := by decide +kernel
theorem dX12_histories_21 : decode cX12_histories 21 = .ok (.invokevirtual 290, 3) := by decide +kernel
theorem dX12_histories_24 : decode cX12_histories 24 = .ok (.aload_n 0, 1) := by decide +kernel
theorem dX12_histories_25 : decode cX12_histories 25 = .ok (.invokevirtual 268, 3) := by decide +kernel
theorem dX12_histories_28 : decode cX12_histories 28 = .ok (.istore_n 2, 1) := by decide +kernel
theorem dX12_histories_29 : decode cX12_histories 29 = .ok (.iload_n 1, 1) := by decide +kernel
theorem dX12_histories_30 : decode cX12_histories 30 = .ok (.ifCond .ne 10, 3) := by decide +kernel
theorem dX12_histories_33 : decode cX12_histories 33 = .ok (.aload_n 0, 1) := by decide +kernel
theorem dX12_histories_34 : decode cX12_histories 34 = .ok (.getfield 60, 3) := by decide +kernel
theorem dX12_histories_37 : decode cX12_histories 37 = .ok (.iload_n 2, 1) := by decide +kernel
theorem dX12_histories_38 : decode cX12_histories 38 = .ok (.iaload, 1) := by decide +kernel
theorem dX12_histories_39 : decode cX12_histories 39 = .ok (.ireturn, 1) := by decide +kernel
theorem dX12_histories_40 : decode cX12_histories 40 = .ok (.aload_n 0, 1) := by decide +kernel
theorem dX12_histories_41 : decode cX12_histories 41 = .ok (.getfield 60, 3) := by decide +kernel
theorem dX12_histories_44 : decode cX12_histories 44 = .ok (.iload_n 2, 1) := by decide +kernel
theorem dX12_histories_45 : decode cX12_histories 45 = .ok (.iaload, 1) := by decide +kernel
theorem dX12_histories_46 : decode cX12_histories 46 = .ok (.ifCond .eq 17, 3) := by decide +kernel
theorem dX12_histories_49 : decode cX12_histories 49 = .ok (.iload_n 1, 1) := by decide +kernel
theorem dX12_histories_50 : decode cX12_histories 50 = .ok (.bipush 10, 2) := by decide +kernel
theorem dX12_histories_52 : decode cX12_histories 52 = .ok (.isub, 1) := by decide +kernel
theorem dX12_histories_53 : decode cX12_histories 53 = .ok (.aload_n 0, 1) := by decide +kernel
theorem dX12_histories_54 : decode cX12_histories 54 = .ok (.getfield 7, 3) := by decide +kernel
theorem dX12_histories_57 : decode cX12_histories 57 = .ok (.bipush 31, 2) := by decide +kernel
theorem dX12_histories_59 : decode cX12_histories 59 = .ok (.iaload, 1) := by decide +kernel
theorem dX12_histories_60 : decode cX12_histories 60 = .ok (.if_icmp .lt 6, 3) := by decide +kernel
theorem dX12_histories_63 : decode cX12_histories 63 = .ok (.bipush (-4), 2) := by decide +kernel
theorem dX12_histories_65 : decode cX12_histories 65 = .ok (.ireturn, 1) := by decide +kernel
theorem dX12_histories_66 : decode cX12_histories 66 = .ok (.bipush (-4), 2) := by decide +kernel
theorem dX12_histories_68 : decode cX12_histories 68 = .ok (.istore_n 3, 1) := by decide +kernel
theorem dX12_histories_69 : decode cX12_histories 69 = .ok (.iconst 0, 1) := by decide +kernel
theorem dX12_histories_70 : decode cX12_histories 70 = .ok (.istore 4, 2) := by decide +kernel
theorem dX12_histories_72 : decode cX12_histories 72 = .ok (.iload 4, 2) := by decide +kernel
theorem dX12_histories_74 : decode cX12_histories 74 = .ok (.iload_n 1, 1) := by decide +kernel
theorem dX12_histories_75 : decode cX12_histories 75 = .ok (.bipush 10, 2) := by decide +kernel
theorem dX12_histories_77 : decode cX12_histories 77 = .ok (.isub, 1) := by decide +kernel
theorem dX12_histories_78 : decode cX12_histories 78 = .ok (.if_icmp .gt 57, 3) := by decide +kernel
theorem dX12_histories_81 : decode cX12_histories 81 = .ok (.bipush (-4), 2) := by decide +kernel
theorem dX12_histories_83 : decode cX12_histories 83 = .ok (.istore_n 3, 1) := by decide +kernel
theorem dX12_histories_84 : decode cX12_histories 84 = .ok (.aload_n 0, 1) := by decide +kernel
theorem dX12_histories_85 : decode cX12_histories 85 = .ok (.getfield 103, 3) := by decide +kernel
theorem dX12_histories_88 : decode cX12_histories 88 = .ok (.iconst 1, 1) := by decide +kernel
theorem dX12_histories_89 : decode cX12_histories 89 = .ok (.isub, 1) := by decide +kernel
theorem dX12_histories_90 : decode cX12_histories 90 = .ok (.istore 5, 2) := by decide +kernel
theorem dX12_histories_92 : decode cX12_histories 92 = .ok (.iload 5, 2) := by decide +kernel
theorem dX12_histories_94 : decode cX12_histories 94 = .ok (.ifCond .lt 28, 3) := by decide +kernel
theorem dX12_histories_97 : decode cX12_histories 97 = .ok (.aload_n 0, 1) := by decide +kernel
theorem dX12_histories_98 : decode cX12_histories 98 = .ok (.iload 4, 2) := by decide +kernel
theorem dX12_histories_100 : decode cX12_histories 100 = .ok (.iload_n 2, 1) := by decide +kernel
theorem dX12_histories_101 : decode cX12_histories 101 = .ok (.iload 5, 2) := by decide +kernel
theorem dX12_histories_103 : decode cX12_histories 103 = .ok (.invokevirtual 293, 3) := by decide +kernel
theorem dX12_histories_106 : decode cX12_histories 106 = .ok (.ifCond .eq 8, 3) := by decide +kernel
theorem dX12_histories_109 : decode cX12_histories 109 = .ok (.iload 5, 2) := by decide +kernel
theorem dX12_histories_111 : decode cX12_histories 111 = .ok (.goto 4, 3) := by decide +kernel
theorem dX12_histories_114 : decode cX12_histories 114 = .ok (.iload_n 3, 1) := by decide +kernel
theorem dX12_histories_115 : decode cX12_histories 115 = .ok (.istore_n 3, 1) := by decide +kernel
theorem dX12_histories_116 : decode cX12_histories 116 = .ok (.iinc 5 (-1), 3) := by decide +kernel
theorem dX12_histories_119 : decode cX12_histories 119 = .ok (.goto (-27), 3) := by decide +kernel
theorem dX12_histories_122 : decode cX12_histories 122 = .ok (.aload_n 0, 1) := by decide +kernel
theorem dX12_histories_123 : decode cX12_histories 123 = .ok (.iload_n 2, 1) := by decide +kernel
theorem dX12_histories_124 : decode cX12_histories 124 = .ok (.iload_n 3, 1) := by decide +kernel
theorem dX12_histories_125 : decode cX12_histories 125 = .ok (.invokevirtual 233, 3) := by decide +kernel
theorem dX12_histories_128 : decode cX12_histories 128 = .ok (.istore_n 2, 1) := by decide +kernel
theorem dX12_histories_129 : decode cX12_histories 129 = .ok (.iinc 4 1, 3) := by decide +kernel
theorem dX12_histories_132 : decode cX12_histories 132 = .ok (.goto (-60), 3) := by decide +kernel
theorem dX12_histories_135 : decode cX12_histories 135 = .ok (.iload_n 3, 1) := by decide +kernel
theorem dX12_histories_136 : decode cX12_histories 136 = .ok (.ireturn, 1) := by decide +kernel
set_option maxRecDepth 20000 in
theorem ggX12_could_X12_in : GoodIn wsX12_could wsX12_in := goodIn_r _ [8] rfl (by decide +kernel)
set_option maxRecDepth 20000 in
theorem gX12_could_X12_in : GoodIn wsX12_could (va_wsS RX12 115 yX12_in wsX12_in) := goodIn_app (goodIn_of _ (by decide +kernel)) ggX12_could_X12_in
set_option maxRecDepth 20000 in
theorem ggX12_could_X12_findHistories : GoodIn wsX12_could wsX12_findHistories := goodIn_r _ [12, 1, 13, 4, 14, 15, 16, 17, 7, 18, 19, 20, 21, 22, 23, 24, 25, 26, 27, 28, 29, 30, 31, 40, 41, 42, 43, 44, 45, 46, 47, 48, 49, 50, 51, 52, 53, 54, 55, 56, 57, 58, 59, 60, 61, 62, 63, 64, 65, 66, 67, 68, 69, 70, 71, 72, 73, 74, 75, 76] rfl (by decide +kernel)
set_option maxRecDepth 20000 in
theorem gX12_could_X12_findHistories : GoodIn wsX12_could (wsV RX12 290 RX12 yX12_findHistories wsX12_findHistories) := goodIn_app (goodIn_of _ (by decide +kernel)) ggX12_could_X12_findHistories
set_option maxRecDepth 20000 in
theorem ggX12_could_X12_stateNow : GoodIn wsX12_could wsX12_stateNow := goodIn_r _ [35, 1, 40, 41, 42, 43, 44, 45, 46, 47, 48, 49, 50, 51, 52, 53, 54, 55, 56, 57, 58, 59, 60, 61, 62, 63, 64, 65, 66, 67, 68, 69, 70, 71, 72, 73, 74, 75, 76] rfl (by decide +kernel)
set_option maxRecDepth 20000 in
theorem gX12_could_X12_stateNow : GoodIn wsX12_could (wsV RX12 268 RX12 yX12_stateNow wsX12_stateNow) := goodIn_app (goodIn_of _ (by decide +kernel)) ggX12_could_X12_stateNow
set_option maxRecDepth 20000 in
theorem ggX12_could_X12_canGo : GoodIn wsX12_could wsX12_canGo := goodIn_r _ [39, 1, 13, 15, 16, 17, 7, 18, 19, 20, 21, 22, 23, 24, 25, 26, 27, 28, 14, 29, 30, 31, 40, 41, 42, 43, 44, 45, 46, 47, 48, 49, 50, 51, 52, 53, 54, 55, 56, 57, 58, 59, 60, 61, 62, 63, 64, 65, 66, 67, 68, 69, 70, 71, 72, 73, 74, 75, 76] rfl (by decide +kernel)
set_option maxRecDepth 20000 in
theorem gX12_could_X12_canGo : GoodIn wsX12_could (wsV RX12 293 RX12 yX12_canGo wsX12_canGo) := goodIn_app (goodIn_of _ (by decide +kernel)) ggX12_could_X12_canGo
set_option maxRecDepth 20000 in
theorem ggX12_could_X12_then : GoodIn wsX12_could wsX12_then := goodIn_r _ [18, 19, 20, 21, 22, 7, 23, 24, 25, 26, 27, 28, 14, 1, 29, 30, 31, 40, 41, 42, 43, 44, 45, 46, 47, 48, 49, 50, 51, 52, 53, 54, 55, 56, 57, 58, 59, 60, 61, 62, 63, 64, 65, 66, 67, 68, 69, 70, 71, 72, 73, 74, 75, 76] rfl (by decide +kernel)
set_option maxRecDepth 20000 in
theorem gX12_could_X12_then : GoodIn wsX12_could (wsV RX12 233 RX12 yX12_then wsX12_then) := goodIn_app (goodIn_of _ (by decide +kernel)) ggX12_could_X12_then
theorem dX12_could_0 : decode cX12_could 0 = .ok (.iload_n 1, 1) := by decide +kernel
theorem dX12_could_1 : decode cX12_could 1 = .ok (.i2l, 1) := by decide +kernel
theorem dX12_could_2 : decode cX12_could 2 = .ok (.lconst 0, 1) := by decide +kernel
theorem dX12_could_3 : decode cX12_could 3 = .ok (.aload_n 0, 1) := by decide +kernel
theorem dX12_could_4 : decode cX12_could 4 = .ok (.getfield 7, 3) := by decide +kernel
theorem dX12_could_7 : decode cX12_could 7 = .ok (.bipush 31, 2) := by decide +kernel
theorem dX12_could_9 : decode cX12_could 9 = .ok (.iaload, 1) := by decide +kernel
theorem dX12_could_10 : decode cX12_could 10 = .ok (.iconst 1, 1) := by decide +kernel
theorem dX12_could_11 : decode cX12_could 11 = .ok (.isub, 1) := by decide +kernel
theorem dX12_could_12 : decode cX12_could 12 = .ok (.i2l, 1) := by decide +kernel
theorem dX12_could_13 : decode cX12_could 13 = .ok (.invokestatic 115, 3) := by decide +kernel
theorem dX12_could_16 : decode cX12_could 16 = .ok (.ifCond .ne 5, 3) := by decide +kernel
theorem dX12_could_19 : decode cX12_could 19 = .ok (.iconst (-1), 1) := by decide +kernel
theorem dX12_could_20 : decode cX12_could 20 = .ok (.ireturn, 1) := by decide +kernel
theorem dX12_could_21 : decode cX12_could 21 = .ok (.aload_n 0, 1) := by decide +kernel
theorem dX12_could_22 : decode cX12_could 22 = .ok (.invokevirtual 290, 3) := by decide +kernel
theorem dX12_could_25 : decode cX12_could 25 = .ok (.iconst 0, 1) := by decide +kernel
theorem dX12_could_26 : decode cX12_could 26 = .ok (.istore_n 2, 1) := by decide +kernel
theorem dX12_could_27 : decode cX12_could 27 = .ok (.iconst 0, 1) := by decide +kernel
theorem dX12_could_28 : decode cX12_could 28 = .ok (.istore_n 3, 1) := by decide +kernel
theorem dX12_could_29 : decode cX12_could 29 = .ok (.iload_n 3, 1) := by decide +kernel
theorem dX12_could_30 : decode cX12_could 30 = .ok (.bipush 49, 2) := by decide +kernel
theorem dX12_could_32 : decode cX12_could 32 = .ok (.if_icmp .ge 28, 3) := by decide +kernel
theorem dX12_could_35 : decode cX12_could 35 = .ok (.aload_n 0, 1) := by decide +kernel
theorem dX12_could_36 : decode cX12_could 36 = .ok (.getfield 63, 3) := by decide +kernel
theorem dX12_could_39 : decode cX12_could 39 = .ok (.iload_n 3, 1) := by decide +kernel
theorem dX12_could_40 : decode cX12_could 40 = .ok (.iload_n 3, 1) := by decide +kernel
theorem dX12_could_41 : decode cX12_could 41 = .ok (.aload_n 0, 1) := by decide +kernel
theorem dX12_could_42 : decode cX12_could 42 = .ok (.invokevirtual 268, 3) := by decide +kernel
theorem dX12_could_45 : decode cX12_could 45 = .ok (.if_icmp .ne 7, 3) := by decide +kernel
theorem dX12_could_48 : decode cX12_could 48 = .ok (.iconst 1, 1) := by decide +kernel
theorem dX12_could_49 : decode cX12_could 49 = .ok (.goto 4, 3) := by decide +kernel
theorem dX12_could_52 : decode cX12_could 52 = .ok (.iconst 0, 1) := by decide +kernel
theorem dX12_could_53 : decode cX12_could 53 = .ok (.bastore, 1) := by decide +kernel
theorem dX12_could_54 : decode cX12_could 54 = .ok (.iinc 3 1, 3) := by decide +kernel
theorem dX12_could_57 : decode cX12_could 57 = .ok (.goto (-28), 3) := by decide +kernel
theorem dX12_could_60 : decode cX12_could 60 = .ok (.iconst 0, 1) := by decide +kernel
theorem dX12_could_61 : decode cX12_could 61 = .ok (.istore_n 3, 1) := by decide +kernel
theorem dX12_could_62 : decode cX12_could 62 = .ok (.iload_n 3, 1) := by decide +kernel
theorem dX12_could_63 : decode cX12_could 63 = .ok (.iload_n 1, 1) := by decide +kernel
theorem dX12_could_64 : decode cX12_could 64 = .ok (.if_icmp .gt 142, 3) := by decide +kernel
theorem dX12_could_67 : decode cX12_could 67 = .ok (.iconst 0, 1) := by decide +kernel
theorem dX12_could_68 : decode cX12_could 68 = .ok (.istore_n 2, 1) := by decide +kernel
theorem dX12_could_69 : decode cX12_could 69 = .ok (.iconst 0, 1) := by decide +kernel
theorem dX12_could_70 : decode cX12_could 70 = .ok (.istore 4, 2) := by decide +kernel
theorem dX12_could_72 : decode cX12_could 72 = .ok (.iload 4, 2) := by decide +kernel
theorem dX12_could_74 : decode cX12_could 74 = .ok (.bipush 49, 2) := by decide +kernel
theorem dX12_could_76 : decode cX12_could 76 = .ok (.if_icmp .ge 17, 3) := by decide +kernel
theorem dX12_could_79 : decode cX12_could 79 = .ok (.aload_n 0, 1) := by decide +kernel
theorem dX12_could_80 : decode cX12_could 80 = .ok (.getfield 66, 3) := by decide +kernel
theorem dX12_could_83 : decode cX12_could 83 = .ok (.iload 4, 2) := by decide +kernel
theorem dX12_could_85 : decode cX12_could 85 = .ok (.iconst 0, 1) := by decide +kernel
theorem dX12_could_86 : decode cX12_could 86 = .ok (.bastore, 1) := by decide +kernel
theorem dX12_could_87 : decode cX12_could 87 = .ok (.iinc 4 1, 3) := by decide +kernel
theorem dX12_could_90 : decode cX12_could 90 = .ok (.goto (-18), 3) := by decide +kernel
theorem dX12_could_93 : decode cX12_could 93 = .ok (.iconst 0, 1) := by decide +kernel
theorem dX12_could_94 : decode cX12_could 94 = .ok (.istore 4, 2) := by decide +kernel
theorem dX12_could_96 : decode cX12_could 96 = .ok (.iload 4, 2) := by decide +kernel
theorem dX12_could_98 : decode cX12_could 98 = .ok (.bipush 49, 2) := by decide +kernel
theorem dX12_could_100 : decode cX12_could 100 = .ok (.if_icmp .ge 70, 3) := by decide +kernel
theorem dX12_could_103 : decode cX12_could 103 = .ok (.iconst 0, 1) := by decide +kernel
theorem dX12_could_104 : decode cX12_could 104 = .ok (.istore 5, 2) := by decide +kernel
theorem dX12_could_106 : decode cX12_could 106 = .ok (.iload 5, 2) := by decide +kernel
theorem dX12_could_108 : decode cX12_could 108 = .ok (.aload_n 0, 1) := by decide +kernel
theorem dX12_could_109 : decode cX12_could 109 = .ok (.getfield 103, 3) := by decide +kernel
theorem dX12_could_112 : decode cX12_could 112 = .ok (.if_icmp .ge 52, 3) := by decide +kernel
theorem dX12_could_115 : decode cX12_could 115 = .ok (.aload_n 0, 1) := by decide +kernel
theorem dX12_could_116 : decode cX12_could 116 = .ok (.getfield 63, 3) := by decide +kernel
theorem dX12_could_119 : decode cX12_could 119 = .ok (.iload 4, 2) := by decide +kernel
theorem dX12_could_121 : decode cX12_could 121 = .ok (.baload, 1) := by decide +kernel
theorem dX12_could_122 : decode cX12_could 122 = .ok (.ifCond .eq 42, 3) := by decide +kernel
theorem dX12_could_125 : decode cX12_could 125 = .ok (.aload_n 0, 1) := by decide +kernel
theorem dX12_could_126 : decode cX12_could 126 = .ok (.iload_n 3, 1) := by decide +kernel
theorem dX12_could_127 : decode cX12_could 127 = .ok (.iload 4, 2) := by decide +kernel
theorem dX12_could_129 : decode cX12_could 129 = .ok (.iload 5, 2) := by decide +kernel
theorem dX12_could_131 : decode cX12_could 131 = .ok (.invokevirtual 293, 3) := by decide +kernel
theorem dX12_could_134 : decode cX12_could 134 = .ok (.ifCond .eq 24, 3) := by decide +kernel
theorem dX12_could_137 : decode cX12_could 137 = .ok (.iload_n 2, 1) := by decide +kernel
theorem dX12_could_138 : decode cX12_could 138 = .ok (.iconst 1, 1) := by decide +kernel
theorem dX12_could_139 : decode cX12_could 139 = .ok (.iload 5, 2) := by decide +kernel
theorem dX12_could_141 : decode cX12_could 141 = .ok (.ishl, 1) := by decide +kernel
theorem dX12_could_142 : decode cX12_could 142 = .ok (.ior, 1) := by decide +kernel
theorem dX12_could_143 : decode cX12_could 143 = .ok (.istore_n 2, 1) := by decide +kernel
theorem dX12_could_144 : decode cX12_could 144 = .ok (.aload_n 0, 1) := by decide +kernel
theorem dX12_could_145 : decode cX12_could 145 = .ok (.getfield 66, 3) := by decide +kernel
theorem dX12_could_148 : decode cX12_could 148 = .ok (.aload_n 0, 1) := by decide +kernel
theorem dX12_could_149 : decode cX12_could 149 = .ok (.iload 4, 2) := by decide +kernel
theorem dX12_could_151 : decode cX12_could 151 = .ok (.iload 5, 2) := by decide +kernel
theorem dX12_could_153 : decode cX12_could 153 = .ok (.invokevirtual 233, 3) := by decide +kernel
theorem dX12_could_156 : decode cX12_could 156 = .ok (.iconst 1, 1) := by decide +kernel
theorem dX12_could_157 : decode cX12_could 157 = .ok (.bastore, 1) := by decide +kernel
theorem dX12_could_158 : decode cX12_could 158 = .ok (.iinc 5 1, 3) := by decide +kernel
theorem dX12_could_161 : decode cX12_could 161 = .ok (.goto (-55), 3) := by decide +kernel
theorem dX12_could_164 : decode cX12_could 164 = .ok (.iinc 4 1, 3) := by decide +kernel
theorem dX12_could_167 : decode cX12_could 167 = .ok (.goto (-71), 3) := by decide +kernel
theorem dX12_could_170 : decode cX12_could 170 = .ok (.iconst 0, 1) := by decide +kernel
theorem dX12_could_171 : decode cX12_could 171 = .ok (.istore 4, 2) := by decide +kernel
theorem dX12_could_173 : decode cX12_could 173 = .ok (.iload 4, 2) := by decide +kernel
theorem dX12_could_175 : decode cX12_could 175 = .ok (.bipush 49, 2) := by decide +kernel
theorem dX12_could_177 : decode cX12_could 177 = .ok (.if_icmp .ge 23, 3) := by decide +kernel
theorem dX12_could_180 : decode cX12_could 180 = .ok (.aload_n 0, 1) := by decide +kernel
theorem dX12_could_181 : decode cX12_could 181 = .ok (.getfield 63, 3) := by decide +kernel
theorem dX12_could_184 : decode cX12_could 184 = .ok (.iload 4, 2) := by decide +kernel
theorem dX12_could_186 : decode cX12_could 186 = .ok (.aload_n 0, 1) := by decide +kernel
theorem dX12_could_187 : decode cX12_could 187 = .ok (.getfield 66, 3) := by decide +kernel
theorem dX12_could_190 : decode cX12_could 190 = .ok (.iload 4, 2) := by decide +kernel
theorem dX12_could_192 : decode cX12_could 192 = .ok (.baload, 1) := by decide +kernel
theorem dX12_could_193 : decode cX12_could 193 = .ok (.bastore, 1) := by decide +kernel
theorem dX12_could_194 : decode cX12_could 194 = .ok (.iinc 4 1, 3) := by decide +kernel
theorem dX12_could_197 : decode cX12_could 197 = .ok (.goto (-24), 3) := by decide +kernel
theorem dX12_could_200 : decode cX12_could 200 = .ok (.iinc 3 1, 3) := by decide +kernel
theorem dX12_could_203 : decode cX12_could 203 = .ok (.goto (-141), 3) := by decide +kernel
theorem dX12_could_206 : decode cX12_could 206 = .ok (.iload_n 2, 1) := by decide +kernel
theorem dX12_could_207 : decode cX12_could 207 = .ok (.ireturn, 1) := by decide +kernel
set_option maxRecDepth 20000 in
theorem ggX12_blind_X12_in : GoodIn wsX12_blind wsX12_in := goodIn_r _ [7] rfl (by decide +kernel)
set_option maxRecDepth 20000 in
theorem gX12_blind_X12_in : GoodIn wsX12_blind (va_wsS RX12 115 yX12_in wsX12_in) := goodIn_app (goodIn_of _ (by decide +kernel)) ggX12_blind_X12_in
set_option maxRecDepth 20000 in
theorem ggX12_blind_X12_isTold : GoodIn wsX12_blind wsX12_isTold := goodIn_r _ [10, 4, 5, 6, 7] rfl (by decide +kernel)
set_option maxRecDepth 20000 in
theorem gX12_blind_X12_isTold : GoodIn wsX12_blind (va_wsS RX12 238 yX12_isTold wsX12_isTold) := goodIn_app (goodIn_of _ (by decide +kernel)) ggX12_blind_X12_isTold
set_option maxRecDepth 20000 in
theorem ggX12_blind_X12_power : GoodIn wsX12_blind wsX12_power := goodIn_r _ [14] rfl (by decide +kernel)
set_option maxRecDepth 20000 in
theorem gX12_blind_X12_power : GoodIn wsX12_blind (wsV RX12 252 RX12 yX12_power wsX12_power) := goodIn_app (goodIn_of _ (by decide +kernel)) ggX12_blind_X12_power
set_option maxRecDepth 20000 in
theorem ggX12_blind_X12_lowest : GoodIn wsX12_blind wsX12_lowest := goodIn_r _ [17, 18, 19, 6, 20] rfl (by decide +kernel)
set_option maxRecDepth 20000 in
theorem gX12_blind_X12_lowest : GoodIn wsX12_blind (va_wsS RX12 256 yX12_lowest wsX12_lowest) := goodIn_app (goodIn_of _ (by decide +kernel)) ggX12_blind_X12_lowest
theorem dX12_blind_0 : decode cX12_blind 0 = .ok (.iload_n 2, 1) := by decide +kernel
theorem dX12_blind_1 : decode cX12_blind 1 = .ok (.i2l, 1) := by decide +kernel
theorem dX12_blind_2 : decode cX12_blind 2 = .ok (.lconst 1, 1) := by decide +kernel
theorem dX12_blind_3 : decode cX12_blind 3 = .ok (.ldc2_w 296, 3) := by decide +kernel
theorem dX12_blind_6 : decode cX12_blind 6 = .ok (.invokestatic 115, 3) := by decide +kernel
theorem dX12_blind_9 : decode cX12_blind 9 = .ok (.ifCond .eq 21, 3) := by decide +kernel
theorem dX12_blind_12 : decode cX12_blind 12 = .ok (.iload_n 1, 1) := by decide +kernel
theorem dX12_blind_13 : decode cX12_blind 13 = .ok (.i2l, 1) := by decide +kernel
theorem dX12_blind_14 : decode cX12_blind 14 = .ok (.lconst 0, 1) := by decide +kernel
theorem dX12_blind_15 : decode cX12_blind 15 = .ok (.iload_n 2, 1) := by decide +kernel
theorem dX12_blind_16 : decode cX12_blind 16 = .ok (.i2l, 1) := by decide +kernel
theorem dX12_blind_17 : decode cX12_blind 17 = .ok (.invokestatic 115, 3) := by decide +kernel
theorem dX12_blind_20 : decode cX12_blind 20 = .ok (.ifCond .eq 10, 3) := by decide +kernel
theorem dX12_blind_23 : decode cX12_blind 23 = .ok (.iload_n 3, 1) := by decide +kernel
theorem dX12_blind_24 : decode cX12_blind 24 = .ok (.invokestatic 238, 3) := by decide +kernel
theorem dX12_blind_27 : decode cX12_blind 27 = .ok (.ifCond .ne 7, 3) := by decide +kernel
theorem dX12_blind_30 : decode cX12_blind 30 = .ok (.ldc2_w 241, 3) := by decide +kernel
theorem dX12_blind_33 : decode cX12_blind 33 = .ok (.lreturn, 1) := by decide +kernel
theorem dX12_blind_34 : decode cX12_blind 34 = .ok (.lconst 0, 1) := by decide +kernel
theorem dX12_blind_35 : decode cX12_blind 35 = .ok (.lstore 4, 2) := by decide +kernel
theorem dX12_blind_37 : decode cX12_blind 37 = .ok (.lconst 1, 1) := by decide +kernel
theorem dX12_blind_38 : decode cX12_blind 38 = .ok (.lstore 6, 2) := by decide +kernel
theorem dX12_blind_40 : decode cX12_blind 40 = .ok (.iconst 0, 1) := by decide +kernel
theorem dX12_blind_41 : decode cX12_blind 41 = .ok (.istore 8, 2) := by decide +kernel
theorem dX12_blind_43 : decode cX12_blind 43 = .ok (.iload 8, 2) := by decide +kernel
theorem dX12_blind_45 : decode cX12_blind 45 = .ok (.iload_n 2, 1) := by decide +kernel
theorem dX12_blind_46 : decode cX12_blind 46 = .ok (.if_icmp .gt 58, 3) := by decide +kernel
theorem dX12_blind_49 : decode cX12_blind 49 = .ok (.lload 4, 2) := by decide +kernel
theorem dX12_blind_51 : decode cX12_blind 51 = .ok (.iload 8, 2) := by decide +kernel
theorem dX12_blind_53 : decode cX12_blind 53 = .ok (.iload_n 1, 1) := by decide +kernel
theorem dX12_blind_54 : decode cX12_blind 54 = .ok (.if_icmp .lt 24, 3) := by decide +kernel
theorem dX12_blind_57 : decode cX12_blind 57 = .ok (.lload 6, 2) := by decide +kernel
theorem dX12_blind_59 : decode cX12_blind 59 = .ok (.aload_n 0, 1) := by decide +kernel
theorem dX12_blind_60 : decode cX12_blind 60 = .ok (.aload_n 0, 1) := by decide +kernel
theorem dX12_blind_61 : decode cX12_blind 61 = .ok (.getfield 100, 3) := by decide +kernel
theorem dX12_blind_64 : decode cX12_blind 64 = .ok (.i2l, 1) := by decide +kernel
theorem dX12_blind_65 : decode cX12_blind 65 = .ok (.lconst 1, 1) := by decide +kernel
theorem dX12_blind_66 : decode cX12_blind 66 = .ok (.lsub, 1) := by decide +kernel
theorem dX12_blind_67 : decode cX12_blind 67 = .ok (.iload_n 2, 1) := by decide +kernel
theorem dX12_blind_68 : decode cX12_blind 68 = .ok (.iload 8, 2) := by decide +kernel
theorem dX12_blind_70 : decode cX12_blind 70 = .ok (.isub, 1) := by decide +kernel
theorem dX12_blind_71 : decode cX12_blind 71 = .ok (.invokevirtual 252, 3) := by decide +kernel
theorem dX12_blind_74 : decode cX12_blind 74 = .ok (.lmul, 1) := by decide +kernel
theorem dX12_blind_75 : decode cX12_blind 75 = .ok (.goto 4, 3) := by decide +kernel
theorem dX12_blind_78 : decode cX12_blind 78 = .ok (.lconst 0, 1) := by decide +kernel
theorem dX12_blind_79 : decode cX12_blind 79 = .ok (.ladd, 1) := by decide +kernel
theorem dX12_blind_80 : decode cX12_blind 80 = .ok (.lstore 4, 2) := by decide +kernel
theorem dX12_blind_82 : decode cX12_blind 82 = .ok (.lload 6, 2) := by decide +kernel
theorem dX12_blind_84 : decode cX12_blind 84 = .ok (.iload_n 2, 1) := by decide +kernel
theorem dX12_blind_85 : decode cX12_blind 85 = .ok (.iload 8, 2) := by decide +kernel
theorem dX12_blind_87 : decode cX12_blind 87 = .ok (.isub, 1) := by decide +kernel
theorem dX12_blind_88 : decode cX12_blind 88 = .ok (.i2l, 1) := by decide +kernel
theorem dX12_blind_89 : decode cX12_blind 89 = .ok (.lmul, 1) := by decide +kernel
theorem dX12_blind_90 : decode cX12_blind 90 = .ok (.iload 8, 2) := by decide +kernel
theorem dX12_blind_92 : decode cX12_blind 92 = .ok (.iconst 1, 1) := by decide +kernel
theorem dX12_blind_93 : decode cX12_blind 93 = .ok (.iadd, 1) := by decide +kernel
theorem dX12_blind_94 : decode cX12_blind 94 = .ok (.i2l, 1) := by decide +kernel
theorem dX12_blind_95 : decode cX12_blind 95 = .ok (.ldiv, 1) := by decide +kernel
theorem dX12_blind_96 : decode cX12_blind 96 = .ok (.lstore 6, 2) := by decide +kernel
theorem dX12_blind_98 : decode cX12_blind 98 = .ok (.iinc 8 1, 3) := by decide +kernel
theorem dX12_blind_101 : decode cX12_blind 101 = .ok (.goto (-58), 3) := by decide +kernel
theorem dX12_blind_104 : decode cX12_blind 104 = .ok (.lload 4, 2) := by decide +kernel
theorem dX12_blind_106 : decode cX12_blind 106 = .ok (.aload_n 0, 1) := by decide +kernel
theorem dX12_blind_107 : decode cX12_blind 107 = .ok (.aload_n 0, 1) := by decide +kernel
theorem dX12_blind_108 : decode cX12_blind 108 = .ok (.getfield 100, 3) := by decide +kernel
theorem dX12_blind_111 : decode cX12_blind 111 = .ok (.i2l, 1) := by decide +kernel
theorem dX12_blind_112 : decode cX12_blind 112 = .ok (.iload_n 2, 1) := by decide +kernel
theorem dX12_blind_113 : decode cX12_blind 113 = .ok (.invokevirtual 252, 3) := by decide +kernel
theorem dX12_blind_116 : decode cX12_blind 116 = .ok (.iload_n 3, 1) := by decide +kernel
theorem dX12_blind_117 : decode cX12_blind 117 = .ok (.invokestatic 256, 3) := by decide +kernel
theorem dX12_blind_120 : decode cX12_blind 120 = .ok (.lreturn, 1) := by decide +kernel
theorem dX12_copies_0 : decode cX12_copies 0 = .ok (.iconst 0, 1) := by decide +kernel
theorem dX12_copies_1 : decode cX12_copies 1 = .ok (.istore_n 3, 1) := by decide +kernel
theorem dX12_copies_2 : decode cX12_copies 2 = .ok (.iload_n 3, 1) := by decide +kernel
theorem dX12_copies_3 : decode cX12_copies 3 = .ok (.bipush 38, 2) := by decide +kernel
theorem dX12_copies_5 : decode cX12_copies 5 = .ok (.if_icmp .ge 25, 3) := by decide +kernel
theorem dX12_copies_8 : decode cX12_copies 8 = .ok (.aload_n 0, 1) := by decide +kernel
theorem dX12_copies_9 : decode cX12_copies 9 = .ok (.getfield 7, 3) := by decide +kernel
theorem dX12_copies_12 : decode cX12_copies 12 = .ok (.iload_n 1, 1) := by decide +kernel
theorem dX12_copies_13 : decode cX12_copies 13 = .ok (.iload_n 3, 1) := by decide +kernel
theorem dX12_copies_14 : decode cX12_copies 14 = .ok (.iadd, 1) := by decide +kernel
theorem dX12_copies_15 : decode cX12_copies 15 = .ok (.aload_n 0, 1) := by decide +kernel
theorem dX12_copies_16 : decode cX12_copies 16 = .ok (.getfield 7, 3) := by decide +kernel
theorem dX12_copies_19 : decode cX12_copies 19 = .ok (.iload_n 2, 1) := by decide +kernel
theorem dX12_copies_20 : decode cX12_copies 20 = .ok (.iload_n 3, 1) := by decide +kernel
theorem dX12_copies_21 : decode cX12_copies 21 = .ok (.iadd, 1) := by decide +kernel
theorem dX12_copies_22 : decode cX12_copies 22 = .ok (.iaload, 1) := by decide +kernel
theorem dX12_copies_23 : decode cX12_copies 23 = .ok (.iastore, 1) := by decide +kernel
theorem dX12_copies_24 : decode cX12_copies 24 = .ok (.iinc 3 1, 3) := by decide +kernel
theorem dX12_copies_27 : decode cX12_copies 27 = .ok (.goto (-25), 3) := by decide +kernel
theorem dX12_copies_30 : decode cX12_copies 30 = .ok (.return_, 1) := by decide +kernel
set_option maxRecDepth 20000 in
theorem ggX12_unlikeBy_X12_copies : GoodIn wsX12_unlikeBy wsX12_copies := goodIn_r _ [8, 2, 27, 28, 29, 30, 31, 32, 33, 34, 35, 36, 37, 38, 39, 40, 41, 42, 43, 44, 45, 46, 47, 48, 49, 50, 51, 52, 53, 54, 55, 56, 57, 58, 59, 60, 61, 62, 63] rfl (by decide +kernel)
set_option maxRecDepth 20000 in
theorem gX12_unlikeBy_X12_copies : GoodIn wsX12_unlikeBy (wsV RX12 298 RX12 yX12_copies wsX12_copies) := goodIn_app (goodIn_of _ (by decide +kernel)) ggX12_unlikeBy_X12_copies
set_option maxRecDepth 20000 in
theorem ggX12_unlikeBy_X12_goesDay : GoodIn wsX12_unlikeBy wsX12_goesDay := goodIn_r _ [12, 2, 1, 13, 14, 15, 16, 17, 18, 7, 19, 20, 21, 22, 23, 24, 25, 26, 27, 28, 29, 30, 31, 32, 33, 34, 35, 36, 37, 38, 39, 40, 41, 42, 43, 44, 45, 46, 47, 48, 49, 50, 51, 52, 53, 54, 55, 56, 57, 58, 59, 60, 61, 62, 63] rfl (by decide +kernel)
set_option maxRecDepth 20000 in
theorem gX12_unlikeBy_X12_goesDay : GoodIn wsX12_unlikeBy (wsV RX12 226 RX12 yX12_goesDay wsX12_goesDay) := goodIn_app (goodIn_of _ (by decide +kernel)) ggX12_unlikeBy_X12_goesDay
theorem dX12_unlikeBy_0 : decode cX12_unlikeBy 0 = .ok (.aload_n 0, 1) := by decide +kernel
theorem dX12_unlikeBy_1 : decode cX12_unlikeBy 1 = .ok (.bipush 114, 2) := by decide +kernel
theorem dX12_unlikeBy_3 : decode cX12_unlikeBy 3 = .ok (.iconst 0, 1) := by decide +kernel
theorem dX12_unlikeBy_4 : decode cX12_unlikeBy 4 = .ok (.invokevirtual 298, 3) := by decide +kernel
theorem dX12_unlikeBy_7 : decode cX12_unlikeBy 7 = .ok (.iconst 0, 1) := by decide +kernel
theorem dX12_unlikeBy_8 : decode cX12_unlikeBy 8 = .ok (.istore_n 3, 1) := by decide +kernel
theorem dX12_unlikeBy_9 : decode cX12_unlikeBy 9 = .ok (.iload_n 3, 1) := by decide +kernel
theorem dX12_unlikeBy_10 : decode cX12_unlikeBy 10 = .ok (.aload_n 0, 1) := by decide +kernel
theorem dX12_unlikeBy_11 : decode cX12_unlikeBy 11 = .ok (.getfield 100, 3) := by decide +kernel
theorem dX12_unlikeBy_14 : decode cX12_unlikeBy 14 = .ok (.if_icmp .ge 19, 3) := by decide +kernel
theorem dX12_unlikeBy_17 : decode cX12_unlikeBy 17 = .ok (.aload_n 0, 1) := by decide +kernel
theorem dX12_unlikeBy_18 : decode cX12_unlikeBy 18 = .ok (.getfield 7, 3) := by decide +kernel
theorem dX12_unlikeBy_21 : decode cX12_unlikeBy 21 = .ok (.bipush 23, 2) := by decide +kernel
theorem dX12_unlikeBy_23 : decode cX12_unlikeBy 23 = .ok (.iload_n 3, 1) := by decide +kernel
theorem dX12_unlikeBy_24 : decode cX12_unlikeBy 24 = .ok (.iadd, 1) := by decide +kernel
theorem dX12_unlikeBy_25 : decode cX12_unlikeBy 25 = .ok (.iconst 0, 1) := by decide +kernel
theorem dX12_unlikeBy_26 : decode cX12_unlikeBy 26 = .ok (.iastore, 1) := by decide +kernel
theorem dX12_unlikeBy_27 : decode cX12_unlikeBy 27 = .ok (.iinc 3 1, 3) := by decide +kernel
theorem dX12_unlikeBy_30 : decode cX12_unlikeBy 30 = .ok (.goto (-21), 3) := by decide +kernel
theorem dX12_unlikeBy_33 : decode cX12_unlikeBy 33 = .ok (.iconst 1, 1) := by decide +kernel
theorem dX12_unlikeBy_34 : decode cX12_unlikeBy 34 = .ok (.istore_n 3, 1) := by decide +kernel
theorem dX12_unlikeBy_35 : decode cX12_unlikeBy 35 = .ok (.iconst 1, 1) := by decide +kernel
theorem dX12_unlikeBy_36 : decode cX12_unlikeBy 36 = .ok (.istore 4, 2) := by decide +kernel
theorem dX12_unlikeBy_38 : decode cX12_unlikeBy 38 = .ok (.iload 4, 2) := by decide +kernel
theorem dX12_unlikeBy_40 : decode cX12_unlikeBy 40 = .ok (.iload_n 2, 1) := by decide +kernel
theorem dX12_unlikeBy_41 : decode cX12_unlikeBy 41 = .ok (.if_icmp .ge 16, 3) := by decide +kernel
theorem dX12_unlikeBy_44 : decode cX12_unlikeBy 44 = .ok (.iload_n 3, 1) := by decide +kernel
theorem dX12_unlikeBy_45 : decode cX12_unlikeBy 45 = .ok (.aload_n 0, 1) := by decide +kernel
theorem dX12_unlikeBy_46 : decode cX12_unlikeBy 46 = .ok (.getfield 103, 3) := by decide +kernel
theorem dX12_unlikeBy_49 : decode cX12_unlikeBy 49 = .ok (.imul, 1) := by decide +kernel
theorem dX12_unlikeBy_50 : decode cX12_unlikeBy 50 = .ok (.istore_n 3, 1) := by decide +kernel
theorem dX12_unlikeBy_51 : decode cX12_unlikeBy 51 = .ok (.iinc 4 1, 3) := by decide +kernel
theorem dX12_unlikeBy_54 : decode cX12_unlikeBy 54 = .ok (.goto (-16), 3) := by decide +kernel
theorem dX12_unlikeBy_57 : decode cX12_unlikeBy 57 = .ok (.iconst 0, 1) := by decide +kernel
theorem dX12_unlikeBy_58 : decode cX12_unlikeBy 58 = .ok (.istore 4, 2) := by decide +kernel
theorem dX12_unlikeBy_60 : decode cX12_unlikeBy 60 = .ok (.iload 4, 2) := by decide +kernel
theorem dX12_unlikeBy_62 : decode cX12_unlikeBy 62 = .ok (.iload_n 2, 1) := by decide +kernel
theorem dX12_unlikeBy_63 : decode cX12_unlikeBy 63 = .ok (.if_icmp .ge 37, 3) := by decide +kernel
theorem dX12_unlikeBy_66 : decode cX12_unlikeBy 66 = .ok (.aload_n 0, 1) := by decide +kernel
theorem dX12_unlikeBy_67 : decode cX12_unlikeBy 67 = .ok (.iload_n 1, 1) := by decide +kernel
theorem dX12_unlikeBy_68 : decode cX12_unlikeBy 68 = .ok (.iload_n 3, 1) := by decide +kernel
theorem dX12_unlikeBy_69 : decode cX12_unlikeBy 69 = .ok (.idiv, 1) := by decide +kernel
theorem dX12_unlikeBy_70 : decode cX12_unlikeBy 70 = .ok (.aload_n 0, 1) := by decide +kernel
theorem dX12_unlikeBy_71 : decode cX12_unlikeBy 71 = .ok (.getfield 103, 3) := by decide +kernel
theorem dX12_unlikeBy_74 : decode cX12_unlikeBy 74 = .ok (.irem, 1) := by decide +kernel
theorem dX12_unlikeBy_75 : decode cX12_unlikeBy 75 = .ok (.invokevirtual 226, 3) := by decide +kernel
theorem dX12_unlikeBy_78 : decode cX12_unlikeBy 78 = .ok (.iload_n 3, 1) := by decide +kernel
theorem dX12_unlikeBy_79 : decode cX12_unlikeBy 79 = .ok (.iconst 1, 1) := by decide +kernel
theorem dX12_unlikeBy_80 : decode cX12_unlikeBy 80 = .ok (.if_icmp .le 12, 3) := by decide +kernel
theorem dX12_unlikeBy_83 : decode cX12_unlikeBy 83 = .ok (.iload_n 3, 1) := by decide +kernel
theorem dX12_unlikeBy_84 : decode cX12_unlikeBy 84 = .ok (.aload_n 0, 1) := by decide +kernel
theorem dX12_unlikeBy_85 : decode cX12_unlikeBy 85 = .ok (.getfield 103, 3) := by decide +kernel
theorem dX12_unlikeBy_88 : decode cX12_unlikeBy 88 = .ok (.idiv, 1) := by decide +kernel
theorem dX12_unlikeBy_89 : decode cX12_unlikeBy 89 = .ok (.goto 4, 3) := by decide +kernel
theorem dX12_unlikeBy_92 : decode cX12_unlikeBy 92 = .ok (.iconst 1, 1) := by decide +kernel
theorem dX12_unlikeBy_93 : decode cX12_unlikeBy 93 = .ok (.istore_n 3, 1) := by decide +kernel
theorem dX12_unlikeBy_94 : decode cX12_unlikeBy 94 = .ok (.iinc 4 1, 3) := by decide +kernel
theorem dX12_unlikeBy_97 : decode cX12_unlikeBy 97 = .ok (.goto (-37), 3) := by decide +kernel
theorem dX12_unlikeBy_100 : decode cX12_unlikeBy 100 = .ok (.aload_n 0, 1) := by decide +kernel
theorem dX12_unlikeBy_101 : decode cX12_unlikeBy 101 = .ok (.getfield 7, 3) := by decide +kernel
theorem dX12_unlikeBy_104 : decode cX12_unlikeBy 104 = .ok (.bipush 23, 2) := by decide +kernel
theorem dX12_unlikeBy_106 : decode cX12_unlikeBy 106 = .ok (.iaload, 1) := by decide +kernel
theorem dX12_unlikeBy_107 : decode cX12_unlikeBy 107 = .ok (.istore 4, 2) := by decide +kernel
theorem dX12_unlikeBy_109 : decode cX12_unlikeBy 109 = .ok (.aload_n 0, 1) := by decide +kernel
theorem dX12_unlikeBy_110 : decode cX12_unlikeBy 110 = .ok (.getfield 7, 3) := by decide +kernel
theorem dX12_unlikeBy_113 : decode cX12_unlikeBy 113 = .ok (.bipush 23, 2) := by decide +kernel
theorem dX12_unlikeBy_115 : decode cX12_unlikeBy 115 = .ok (.iaload, 1) := by decide +kernel
theorem dX12_unlikeBy_116 : decode cX12_unlikeBy 116 = .ok (.istore 5, 2) := by decide +kernel
theorem dX12_unlikeBy_118 : decode cX12_unlikeBy 118 = .ok (.iconst 1, 1) := by decide +kernel
theorem dX12_unlikeBy_119 : decode cX12_unlikeBy 119 = .ok (.istore 6, 2) := by decide +kernel
theorem dX12_unlikeBy_121 : decode cX12_unlikeBy 121 = .ok (.iload 6, 2) := by decide +kernel
theorem dX12_unlikeBy_123 : decode cX12_unlikeBy 123 = .ok (.aload_n 0, 1) := by decide +kernel
theorem dX12_unlikeBy_124 : decode cX12_unlikeBy 124 = .ok (.getfield 100, 3) := by decide +kernel
theorem dX12_unlikeBy_127 : decode cX12_unlikeBy 127 = .ok (.if_icmp .ge 73, 3) := by decide +kernel
theorem dX12_unlikeBy_130 : decode cX12_unlikeBy 130 = .ok (.aload_n 0, 1) := by decide +kernel
theorem dX12_unlikeBy_131 : decode cX12_unlikeBy 131 = .ok (.getfield 7, 3) := by decide +kernel
theorem dX12_unlikeBy_134 : decode cX12_unlikeBy 134 = .ok (.bipush 23, 2) := by decide +kernel
theorem dX12_unlikeBy_136 : decode cX12_unlikeBy 136 = .ok (.iload 6, 2) := by decide +kernel
theorem dX12_unlikeBy_138 : decode cX12_unlikeBy 138 = .ok (.iadd, 1) := by decide +kernel
theorem dX12_unlikeBy_139 : decode cX12_unlikeBy 139 = .ok (.iaload, 1) := by decide +kernel
theorem dX12_unlikeBy_140 : decode cX12_unlikeBy 140 = .ok (.iload 4, 2) := by decide +kernel
theorem dX12_unlikeBy_142 : decode cX12_unlikeBy 142 = .ok (.if_icmp .le 16, 3) := by decide +kernel
theorem dX12_unlikeBy_145 : decode cX12_unlikeBy 145 = .ok (.aload_n 0, 1) := by decide +kernel
theorem dX12_unlikeBy_146 : decode cX12_unlikeBy 146 = .ok (.getfield 7, 3) := by decide +kernel
theorem dX12_unlikeBy_149 : decode cX12_unlikeBy 149 = .ok (.bipush 23, 2) := by decide +kernel
theorem dX12_unlikeBy_151 : decode cX12_unlikeBy 151 = .ok (.iload 6, 2) := by decide +kernel
theorem dX12_unlikeBy_153 : decode cX12_unlikeBy 153 = .ok (.iadd, 1) := by decide +kernel
theorem dX12_unlikeBy_154 : decode cX12_unlikeBy 154 = .ok (.iaload, 1) := by decide +kernel
theorem dX12_unlikeBy_155 : decode cX12_unlikeBy 155 = .ok (.goto 5, 3) := by decide +kernel
theorem dX12_unlikeBy_158 : decode cX12_unlikeBy 158 = .ok (.iload 4, 2) := by decide +kernel
theorem dX12_unlikeBy_160 : decode cX12_unlikeBy 160 = .ok (.istore 4, 2) := by decide +kernel
theorem dX12_unlikeBy_162 : decode cX12_unlikeBy 162 = .ok (.aload_n 0, 1) := by decide +kernel
theorem dX12_unlikeBy_163 : decode cX12_unlikeBy 163 = .ok (.getfield 7, 3) := by decide +kernel
theorem dX12_unlikeBy_166 : decode cX12_unlikeBy 166 = .ok (.bipush 23, 2) := by decide +kernel
theorem dX12_unlikeBy_168 : decode cX12_unlikeBy 168 = .ok (.iload 6, 2) := by decide +kernel
theorem dX12_unlikeBy_170 : decode cX12_unlikeBy 170 = .ok (.iadd, 1) := by decide +kernel
theorem dX12_unlikeBy_171 : decode cX12_unlikeBy 171 = .ok (.iaload, 1) := by decide +kernel
theorem dX12_unlikeBy_172 : decode cX12_unlikeBy 172 = .ok (.iload 5, 2) := by decide +kernel
theorem dX12_unlikeBy_174 : decode cX12_unlikeBy 174 = .ok (.if_icmp .ge 16, 3) := by decide +kernel
theorem dX12_unlikeBy_177 : decode cX12_unlikeBy 177 = .ok (.aload_n 0, 1) := by decide +kernel
theorem dX12_unlikeBy_178 : decode cX12_unlikeBy 178 = .ok (.getfield 7, 3) := by decide +kernel
theorem dX12_unlikeBy_181 : decode cX12_unlikeBy 181 = .ok (.bipush 23, 2) := by decide +kernel
theorem dX12_unlikeBy_183 : decode cX12_unlikeBy 183 = .ok (.iload 6, 2) := by decide +kernel
theorem dX12_unlikeBy_185 : decode cX12_unlikeBy 185 = .ok (.iadd, 1) := by decide +kernel
theorem dX12_unlikeBy_186 : decode cX12_unlikeBy 186 = .ok (.iaload, 1) := by decide +kernel
theorem dX12_unlikeBy_187 : decode cX12_unlikeBy 187 = .ok (.goto 5, 3) := by decide +kernel
theorem dX12_unlikeBy_190 : decode cX12_unlikeBy 190 = .ok (.iload 5, 2) := by decide +kernel
theorem dX12_unlikeBy_192 : decode cX12_unlikeBy 192 = .ok (.istore 5, 2) := by decide +kernel
theorem dX12_unlikeBy_194 : decode cX12_unlikeBy 194 = .ok (.iinc 6 1, 3) := by decide +kernel
theorem dX12_unlikeBy_197 : decode cX12_unlikeBy 197 = .ok (.goto (-76), 3) := by decide +kernel
theorem dX12_unlikeBy_200 : decode cX12_unlikeBy 200 = .ok (.aload_n 0, 1) := by decide +kernel
theorem dX12_unlikeBy_201 : decode cX12_unlikeBy 201 = .ok (.iconst 0, 1) := by decide +kernel
theorem dX12_unlikeBy_202 : decode cX12_unlikeBy 202 = .ok (.bipush 114, 2) := by decide +kernel
theorem dX12_unlikeBy_204 : decode cX12_unlikeBy 204 = .ok (.invokevirtual 298, 3) := by decide +kernel
theorem dX12_unlikeBy_207 : decode cX12_unlikeBy 207 = .ok (.iload 4, 2) := by decide +kernel
theorem dX12_unlikeBy_209 : decode cX12_unlikeBy 209 = .ok (.iload 5, 2) := by decide +kernel
theorem dX12_unlikeBy_211 : decode cX12_unlikeBy 211 = .ok (.isub, 1) := by decide +kernel
theorem dX12_unlikeBy_212 : decode cX12_unlikeBy 212 = .ok (.ireturn, 1) := by decide +kernel
set_option maxRecDepth 20000 in
theorem ggX12_fair_X12_in : GoodIn wsX12_fair wsX12_in := goodIn_r _ [10] rfl (by decide +kernel)
set_option maxRecDepth 20000 in
theorem gX12_fair_X12_in : GoodIn wsX12_fair (va_wsS RX12 115 yX12_in wsX12_in) := goodIn_app (goodIn_of _ (by decide +kernel)) ggX12_fair_X12_in
set_option maxRecDepth 20000 in
theorem ggX12_fair_X12_power : GoodIn wsX12_fair wsX12_power := goodIn_r _ [14] rfl (by decide +kernel)
set_option maxRecDepth 20000 in
theorem gX12_fair_X12_power : GoodIn wsX12_fair (wsV RX12 252 RX12 yX12_power wsX12_power) := goodIn_app (goodIn_of _ (by decide +kernel)) ggX12_fair_X12_power
set_option maxRecDepth 20000 in
theorem ggX12_fair_X12_unlikeBy : GoodIn wsX12_fair wsX12_unlikeBy := goodIn_r _ [18, 19, 20, 4, 21, 22, 23, 9, 24, 25, 26, 27, 28, 29, 30, 31, 32, 33, 34, 35, 36, 37, 38, 39, 40, 41, 42, 43, 44, 45, 46, 47, 48, 49, 50, 51, 52, 53, 54, 55, 56, 57, 58, 59, 60, 61, 62, 63, 64, 65, 66, 67, 68, 69, 70, 71, 72, 73, 74, 75, 76, 77, 78, 79] rfl (by decide +kernel)
set_option maxRecDepth 20000 in
theorem gX12_fair_X12_unlikeBy : GoodIn wsX12_fair (wsV RX12 303 RX12 yX12_unlikeBy wsX12_unlikeBy) := goodIn_app (goodIn_of _ (by decide +kernel)) ggX12_fair_X12_unlikeBy
theorem dX12_fair_0 : decode cX12_fair 0 = .ok (.iload_n 1, 1) := by decide +kernel
theorem dX12_fair_1 : decode cX12_fair 1 = .ok (.i2l, 1) := by decide +kernel
theorem dX12_fair_2 : decode cX12_fair 2 = .ok (.lconst 1, 1) := by decide +kernel
theorem dX12_fair_3 : decode cX12_fair 3 = .ok (.ldc2_w 193, 3) := by decide +kernel
theorem dX12_fair_6 : decode cX12_fair 6 = .ok (.invokestatic 115, 3) := by decide +kernel
theorem dX12_fair_9 : decode cX12_fair 9 = .ok (.ifCond .eq 21, 3) := by decide +kernel
theorem dX12_fair_12 : decode cX12_fair 12 = .ok (.iload_n 2, 1) := by decide +kernel
theorem dX12_fair_13 : decode cX12_fair 13 = .ok (.ifCond .eq 19, 3) := by decide +kernel
theorem dX12_fair_16 : decode cX12_fair 16 = .ok (.iload_n 2, 1) := by decide +kernel
theorem dX12_fair_17 : decode cX12_fair 17 = .ok (.i2l, 1) := by decide +kernel
theorem dX12_fair_18 : decode cX12_fair 18 = .ok (.ldc2_w 236, 3) := by decide +kernel
theorem dX12_fair_21 : decode cX12_fair 21 = .ok (.ldc2_w 301, 3) := by decide +kernel
theorem dX12_fair_24 : decode cX12_fair 24 = .ok (.invokestatic 115, 3) := by decide +kernel
theorem dX12_fair_27 : decode cX12_fair 27 = .ok (.ifCond .ne 5, 3) := by decide +kernel
theorem dX12_fair_30 : decode cX12_fair 30 = .ok (.iconst (-1), 1) := by decide +kernel
theorem dX12_fair_31 : decode cX12_fair 31 = .ok (.ireturn, 1) := by decide +kernel
theorem dX12_fair_32 : decode cX12_fair 32 = .ok (.aload_n 0, 1) := by decide +kernel
theorem dX12_fair_33 : decode cX12_fair 33 = .ok (.getfield 103, 3) := by decide +kernel
theorem dX12_fair_36 : decode cX12_fair 36 = .ok (.ifCond .ne 6, 3) := by decide +kernel
theorem dX12_fair_39 : decode cX12_fair 39 = .ok (.bipush (-2), 2) := by decide +kernel
theorem dX12_fair_41 : decode cX12_fair 41 = .ok (.ireturn, 1) := by decide +kernel
theorem dX12_fair_42 : decode cX12_fair 42 = .ok (.iload_n 2, 1) := by decide +kernel
theorem dX12_fair_43 : decode cX12_fair 43 = .ok (.bipush 10, 2) := by decide +kernel
theorem dX12_fair_45 : decode cX12_fair 45 = .ok (.isub, 1) := by decide +kernel
theorem dX12_fair_46 : decode cX12_fair 46 = .ok (.iload_n 1, 1) := by decide +kernel
theorem dX12_fair_47 : decode cX12_fair 47 = .ok (.if_icmp .lt 6, 3) := by decide +kernel
theorem dX12_fair_50 : decode cX12_fair 50 = .ok (.bipush (-4), 2) := by decide +kernel
theorem dX12_fair_52 : decode cX12_fair 52 = .ok (.ireturn, 1) := by decide +kernel
theorem dX12_fair_53 : decode cX12_fair 53 = .ok (.aload_n 0, 1) := by decide +kernel
theorem dX12_fair_54 : decode cX12_fair 54 = .ok (.aload_n 0, 1) := by decide +kernel
theorem dX12_fair_55 : decode cX12_fair 55 = .ok (.getfield 103, 3) := by decide +kernel
theorem dX12_fair_58 : decode cX12_fair 58 = .ok (.i2l, 1) := by decide +kernel
theorem dX12_fair_59 : decode cX12_fair 59 = .ok (.iload_n 1, 1) := by decide +kernel
theorem dX12_fair_60 : decode cX12_fair 60 = .ok (.invokevirtual 252, 3) := by decide +kernel
theorem dX12_fair_63 : decode cX12_fair 63 = .ok (.l2i, 1) := by decide +kernel
theorem dX12_fair_64 : decode cX12_fair 64 = .ok (.istore_n 3, 1) := by decide +kernel
theorem dX12_fair_65 : decode cX12_fair 65 = .ok (.iconst 0, 1) := by decide +kernel
theorem dX12_fair_66 : decode cX12_fair 66 = .ok (.istore 4, 2) := by decide +kernel
theorem dX12_fair_68 : decode cX12_fair 68 = .ok (.ldc_w 271, 3) := by decide +kernel
theorem dX12_fair_71 : decode cX12_fair 71 = .ok (.istore 5, 2) := by decide +kernel
theorem dX12_fair_73 : decode cX12_fair 73 = .ok (.iconst 0, 1) := by decide +kernel
theorem dX12_fair_74 : decode cX12_fair 74 = .ok (.istore 6, 2) := by decide +kernel
theorem dX12_fair_76 : decode cX12_fair 76 = .ok (.iload 6, 2) := by decide +kernel
theorem dX12_fair_78 : decode cX12_fair 78 = .ok (.iload_n 3, 1) := by decide +kernel
theorem dX12_fair_79 : decode cX12_fair 79 = .ok (.if_icmp .ge 50, 3) := by decide +kernel
theorem dX12_fair_82 : decode cX12_fair 82 = .ok (.aload_n 0, 1) := by decide +kernel
theorem dX12_fair_83 : decode cX12_fair 83 = .ok (.iload 6, 2) := by decide +kernel
theorem dX12_fair_85 : decode cX12_fair 85 = .ok (.iload_n 1, 1) := by decide +kernel
theorem dX12_fair_86 : decode cX12_fair 86 = .ok (.invokevirtual 303, 3) := by decide +kernel
theorem dX12_fair_89 : decode cX12_fair 89 = .ok (.istore 7, 2) := by decide +kernel
theorem dX12_fair_91 : decode cX12_fair 91 = .ok (.iload 7, 2) := by decide +kernel
theorem dX12_fair_93 : decode cX12_fair 93 = .ok (.iload 5, 2) := by decide +kernel
theorem dX12_fair_95 : decode cX12_fair 95 = .ok (.if_icmp .ge 8, 3) := by decide +kernel
theorem dX12_fair_98 : decode cX12_fair 98 = .ok (.iload 6, 2) := by decide +kernel
theorem dX12_fair_100 : decode cX12_fair 100 = .ok (.goto 5, 3) := by decide +kernel
theorem dX12_fair_103 : decode cX12_fair 103 = .ok (.iload 4, 2) := by decide +kernel
theorem dX12_fair_105 : decode cX12_fair 105 = .ok (.istore 4, 2) := by decide +kernel
theorem dX12_fair_107 : decode cX12_fair 107 = .ok (.iload 7, 2) := by decide +kernel
theorem dX12_fair_109 : decode cX12_fair 109 = .ok (.iload 5, 2) := by decide +kernel
theorem dX12_fair_111 : decode cX12_fair 111 = .ok (.if_icmp .ge 8, 3) := by decide +kernel
theorem dX12_fair_114 : decode cX12_fair 114 = .ok (.iload 7, 2) := by decide +kernel
theorem dX12_fair_116 : decode cX12_fair 116 = .ok (.goto 5, 3) := by decide +kernel
theorem dX12_fair_119 : decode cX12_fair 119 = .ok (.iload 5, 2) := by decide +kernel
theorem dX12_fair_121 : decode cX12_fair 121 = .ok (.istore 5, 2) := by decide +kernel
theorem dX12_fair_123 : decode cX12_fair 123 = .ok (.iinc 6 1, 3) := by decide +kernel
theorem dX12_fair_126 : decode cX12_fair 126 = .ok (.goto (-50), 3) := by decide +kernel
theorem dX12_fair_129 : decode cX12_fair 129 = .ok (.iload_n 1, 1) := by decide +kernel
theorem dX12_fair_130 : decode cX12_fair 130 = .ok (.iconst 1, 1) := by decide +kernel
theorem dX12_fair_131 : decode cX12_fair 131 = .ok (.isub, 1) := by decide +kernel
theorem dX12_fair_132 : decode cX12_fair 132 = .ok (.istore 6, 2) := by decide +kernel
theorem dX12_fair_134 : decode cX12_fair 134 = .ok (.iload 6, 2) := by decide +kernel
theorem dX12_fair_136 : decode cX12_fair 136 = .ok (.ifCond .lt 32, 3) := by decide +kernel
theorem dX12_fair_139 : decode cX12_fair 139 = .ok (.aload_n 0, 1) := by decide +kernel
theorem dX12_fair_140 : decode cX12_fair 140 = .ok (.getfield 69, 3) := by decide +kernel
theorem dX12_fair_143 : decode cX12_fair 143 = .ok (.iload 6, 2) := by decide +kernel
theorem dX12_fair_145 : decode cX12_fair 145 = .ok (.iload 4, 2) := by decide +kernel
theorem dX12_fair_147 : decode cX12_fair 147 = .ok (.aload_n 0, 1) := by decide +kernel
theorem dX12_fair_148 : decode cX12_fair 148 = .ok (.getfield 103, 3) := by decide +kernel
theorem dX12_fair_151 : decode cX12_fair 151 = .ok (.irem, 1) := by decide +kernel
theorem dX12_fair_152 : decode cX12_fair 152 = .ok (.iastore, 1) := by decide +kernel
theorem dX12_fair_153 : decode cX12_fair 153 = .ok (.iload 4, 2) := by decide +kernel
theorem dX12_fair_155 : decode cX12_fair 155 = .ok (.aload_n 0, 1) := by decide +kernel
theorem dX12_fair_156 : decode cX12_fair 156 = .ok (.getfield 103, 3) := by decide +kernel
theorem dX12_fair_159 : decode cX12_fair 159 = .ok (.idiv, 1) := by decide +kernel
theorem dX12_fair_160 : decode cX12_fair 160 = .ok (.istore 4, 2) := by decide +kernel
theorem dX12_fair_162 : decode cX12_fair 162 = .ok (.iinc 6 (-1), 3) := by decide +kernel
theorem dX12_fair_165 : decode cX12_fair 165 = .ok (.goto (-31), 3) := by decide +kernel
theorem dX12_fair_168 : decode cX12_fair 168 = .ok (.iload_n 2, 1) := by decide +kernel
theorem dX12_fair_169 : decode cX12_fair 169 = .ok (.ifCond .ne 8, 3) := by decide +kernel
theorem dX12_fair_172 : decode cX12_fair 172 = .ok (.iload 5, 2) := by decide +kernel
theorem dX12_fair_174 : decode cX12_fair 174 = .ok (.goto 12, 3) := by decide +kernel
theorem dX12_fair_177 : decode cX12_fair 177 = .ok (.aload_n 0, 1) := by decide +kernel
theorem dX12_fair_178 : decode cX12_fair 178 = .ok (.getfield 69, 3) := by decide +kernel
theorem dX12_fair_181 : decode cX12_fair 181 = .ok (.iload_n 2, 1) := by decide +kernel
theorem dX12_fair_182 : decode cX12_fair 182 = .ok (.bipush 10, 2) := by decide +kernel
theorem dX12_fair_184 : decode cX12_fair 184 = .ok (.isub, 1) := by decide +kernel
theorem dX12_fair_185 : decode cX12_fair 185 = .ok (.iaload, 1) := by decide +kernel
theorem dX12_fair_186 : decode cX12_fair 186 = .ok (.ireturn, 1) := by decide +kernel
set_option maxRecDepth 20000 in
theorem ggX12_keep_X12_in : GoodIn wsX12_keep wsX12_in := goodIn_r _ [5] rfl (by decide +kernel)
set_option maxRecDepth 20000 in
theorem gX12_keep_X12_in : GoodIn wsX12_keep (va_wsS RX12 115 yX12_in wsX12_in) := goodIn_app (goodIn_of _ (by decide +kernel)) ggX12_keep_X12_in
set_option maxRecDepth 20000 in
theorem ggX12_keep_X12_flag : GoodIn wsX12_keep wsX12_flag := goodIn_r _ [8] rfl (by decide +kernel)
set_option maxRecDepth 20000 in
theorem gX12_keep_X12_flag : GoodIn wsX12_keep (va_wsS RX12 212 yX12_flag wsX12_flag) := goodIn_app (goodIn_of _ (by decide +kernel)) ggX12_keep_X12_flag
set_option maxRecDepth 20000 in
theorem ggX12_keep_X12_copies : GoodIn wsX12_keep wsX12_copies := goodIn_r _ [12, 13, 14, 15, 16, 17, 18, 19, 20, 21, 22, 23, 24, 25, 26, 27, 28, 29, 30, 31, 32, 33, 34, 35, 36, 37, 38, 39, 40, 41, 42, 43, 44, 45, 46, 47, 48, 49, 50] rfl (by decide +kernel)
set_option maxRecDepth 20000 in
theorem gX12_keep_X12_copies : GoodIn wsX12_keep (wsV RX12 298 RX12 yX12_copies wsX12_copies) := goodIn_app (goodIn_of _ (by decide +kernel)) ggX12_keep_X12_copies
theorem dX12_keep_0 : decode cX12_keep 0 = .ok (.iload_n 1, 1) := by decide +kernel
theorem dX12_keep_1 : decode cX12_keep 1 = .ok (.i2l, 1) := by decide +kernel
theorem dX12_keep_2 : decode cX12_keep 2 = .ok (.lconst 0, 1) := by decide +kernel
theorem dX12_keep_3 : decode cX12_keep 3 = .ok (.lconst 1, 1) := by decide +kernel
theorem dX12_keep_4 : decode cX12_keep 4 = .ok (.invokestatic 115, 3) := by decide +kernel
theorem dX12_keep_7 : decode cX12_keep 7 = .ok (.ifCond .ne 5, 3) := by decide +kernel
theorem dX12_keep_10 : decode cX12_keep 10 = .ok (.iconst (-1), 1) := by decide +kernel
theorem dX12_keep_11 : decode cX12_keep 11 = .ok (.ireturn, 1) := by decide +kernel
theorem dX12_keep_12 : decode cX12_keep 12 = .ok (.aload_n 0, 1) := by decide +kernel
theorem dX12_keep_13 : decode cX12_keep 13 = .ok (.getfield 13, 3) := by decide +kernel
theorem dX12_keep_16 : decode cX12_keep 16 = .ok (.iload_n 1, 1) := by decide +kernel
theorem dX12_keep_17 : decode cX12_keep 17 = .ok (.baload, 1) := by decide +kernel
theorem dX12_keep_18 : decode cX12_keep 18 = .ok (.invokestatic 212, 3) := by decide +kernel
theorem dX12_keep_21 : decode cX12_keep 21 = .ok (.istore_n 2, 1) := by decide +kernel
theorem dX12_keep_22 : decode cX12_keep 22 = .ok (.aload_n 0, 1) := by decide +kernel
theorem dX12_keep_23 : decode cX12_keep 23 = .ok (.getfield 13, 3) := by decide +kernel
theorem dX12_keep_26 : decode cX12_keep 26 = .ok (.iload_n 1, 1) := by decide +kernel
theorem dX12_keep_27 : decode cX12_keep 27 = .ok (.iconst 1, 1) := by decide +kernel
theorem dX12_keep_28 : decode cX12_keep 28 = .ok (.bastore, 1) := by decide +kernel
theorem dX12_keep_29 : decode cX12_keep 29 = .ok (.aload_n 0, 1) := by decide +kernel
theorem dX12_keep_30 : decode cX12_keep 30 = .ok (.bipush 38, 2) := by decide +kernel
theorem dX12_keep_32 : decode cX12_keep 32 = .ok (.iload_n 1, 1) := by decide +kernel
theorem dX12_keep_33 : decode cX12_keep 33 = .ok (.iconst 1, 1) := by decide +kernel
theorem dX12_keep_34 : decode cX12_keep 34 = .ok (.iadd, 1) := by decide +kernel
theorem dX12_keep_35 : decode cX12_keep 35 = .ok (.imul, 1) := by decide +kernel
theorem dX12_keep_36 : decode cX12_keep 36 = .ok (.iconst 0, 1) := by decide +kernel
theorem dX12_keep_37 : decode cX12_keep 37 = .ok (.invokevirtual 298, 3) := by decide +kernel
theorem dX12_keep_40 : decode cX12_keep 40 = .ok (.iload_n 2, 1) := by decide +kernel
theorem dX12_keep_41 : decode cX12_keep 41 = .ok (.ireturn, 1) := by decide +kernel
set_option maxRecDepth 20000 in
theorem ggX12_back_X12_in : GoodIn wsX12_back wsX12_in := goodIn_r _ [6] rfl (by decide +kernel)
set_option maxRecDepth 20000 in
theorem gX12_back_X12_in : GoodIn wsX12_back (va_wsS RX12 115 yX12_in wsX12_in) := goodIn_app (goodIn_of _ (by decide +kernel)) ggX12_back_X12_in
set_option maxRecDepth 20000 in
theorem ggX12_back_X12_copies : GoodIn wsX12_back wsX12_copies := goodIn_r _ [10, 2, 11, 12, 13, 14, 15, 16, 17, 18, 19, 20, 21, 22, 23, 24, 25, 26, 27, 28, 29, 30, 31, 32, 33, 34, 35, 36, 37, 38, 39, 40, 41, 42, 43, 44, 45, 46, 47] rfl (by decide +kernel)
set_option maxRecDepth 20000 in
theorem gX12_back_X12_copies : GoodIn wsX12_back (wsV RX12 298 RX12 yX12_copies wsX12_copies) := goodIn_app (goodIn_of _ (by decide +kernel)) ggX12_back_X12_copies
theorem dX12_back_0 : decode cX12_back 0 = .ok (.iload_n 1, 1) := by decide +kernel
theorem dX12_back_1 : decode cX12_back 1 = .ok (.i2l, 1) := by decide +kernel
theorem dX12_back_2 : decode cX12_back 2 = .ok (.lconst 0, 1) := by decide +kernel
theorem dX12_back_3 : decode cX12_back 3 = .ok (.lconst 1, 1) := by decide +kernel
theorem dX12_back_4 : decode cX12_back 4 = .ok (.invokestatic 115, 3) := by decide +kernel
theorem dX12_back_7 : decode cX12_back 7 = .ok (.ifCond .ne 5, 3) := by decide +kernel
theorem dX12_back_10 : decode cX12_back 10 = .ok (.iconst (-1), 1) := by decide +kernel
theorem dX12_back_11 : decode cX12_back 11 = .ok (.ireturn, 1) := by decide +kernel
theorem dX12_back_12 : decode cX12_back 12 = .ok (.aload_n 0, 1) := by decide +kernel
theorem dX12_back_13 : decode cX12_back 13 = .ok (.getfield 13, 3) := by decide +kernel
theorem dX12_back_16 : decode cX12_back 16 = .ok (.iload_n 1, 1) := by decide +kernel
theorem dX12_back_17 : decode cX12_back 17 = .ok (.baload, 1) := by decide +kernel
theorem dX12_back_18 : decode cX12_back 18 = .ok (.ifCond .ne 6, 3) := by decide +kernel
theorem dX12_back_21 : decode cX12_back 21 = .ok (.bipush (-2), 2) := by decide +kernel
theorem dX12_back_23 : decode cX12_back 23 = .ok (.ireturn, 1) := by decide +kernel
theorem dX12_back_24 : decode cX12_back 24 = .ok (.aload_n 0, 1) := by decide +kernel
theorem dX12_back_25 : decode cX12_back 25 = .ok (.iconst 0, 1) := by decide +kernel
theorem dX12_back_26 : decode cX12_back 26 = .ok (.bipush 38, 2) := by decide +kernel
theorem dX12_back_28 : decode cX12_back 28 = .ok (.iload_n 1, 1) := by decide +kernel
theorem dX12_back_29 : decode cX12_back 29 = .ok (.iconst 1, 1) := by decide +kernel
theorem dX12_back_30 : decode cX12_back 30 = .ok (.iadd, 1) := by decide +kernel
theorem dX12_back_31 : decode cX12_back 31 = .ok (.imul, 1) := by decide +kernel
theorem dX12_back_32 : decode cX12_back 32 = .ok (.invokevirtual 298, 3) := by decide +kernel
theorem dX12_back_35 : decode cX12_back 35 = .ok (.aload_n 0, 1) := by decide +kernel
theorem dX12_back_36 : decode cX12_back 36 = .ok (.getfield 7, 3) := by decide +kernel
theorem dX12_back_39 : decode cX12_back 39 = .ok (.bipush 8, 2) := by decide +kernel
theorem dX12_back_41 : decode cX12_back 41 = .ok (.iaload, 1) := by decide +kernel
theorem dX12_back_42 : decode cX12_back 42 = .ok (.ireturn, 1) := by decide +kernel
set_option maxRecDepth 20000 in
theorem ggX12_isSheet_X12_in : GoodIn wsX12_isSheet wsX12_in := goodIn_r _ [6] rfl (by decide +kernel)
set_option maxRecDepth 20000 in
theorem gX12_isSheet_X12_in : GoodIn wsX12_isSheet (va_wsS RX12 115 yX12_in wsX12_in) := goodIn_app (goodIn_of _ (by decide +kernel)) ggX12_isSheet_X12_in
theorem dX12_isSheet_0 : decode cX12_isSheet 0 = .ok (.iload_n 0, 1) := by decide +kernel
theorem dX12_isSheet_1 : decode cX12_isSheet 1 = .ok (.i2l, 1) := by decide +kernel
theorem dX12_isSheet_2 : decode cX12_isSheet 2 = .ok (.lconst 0, 1) := by decide +kernel
theorem dX12_isSheet_3 : decode cX12_isSheet 3 = .ok (.ldc2_w 306, 3) := by decide +kernel
theorem dX12_isSheet_6 : decode cX12_isSheet 6 = .ok (.invokestatic 115, 3) := by decide +kernel
theorem dX12_isSheet_9 : decode cX12_isSheet 9 = .ok (.ifCond .eq 19, 3) := by decide +kernel
theorem dX12_isSheet_12 : decode cX12_isSheet 12 = .ok (.iload_n 1, 1) := by decide +kernel
theorem dX12_isSheet_13 : decode cX12_isSheet 13 = .ok (.i2l, 1) := by decide +kernel
theorem dX12_isSheet_14 : decode cX12_isSheet 14 = .ok (.lconst 0, 1) := by decide +kernel
theorem dX12_isSheet_15 : decode cX12_isSheet 15 = .ok (.ldc2_w 308, 3) := by decide +kernel
theorem dX12_isSheet_18 : decode cX12_isSheet 18 = .ok (.invokestatic 115, 3) := by decide +kernel
theorem dX12_isSheet_21 : decode cX12_isSheet 21 = .ok (.ifCond .eq 7, 3) := by decide +kernel
theorem dX12_isSheet_24 : decode cX12_isSheet 24 = .ok (.iconst 1, 1) := by decide +kernel
theorem dX12_isSheet_25 : decode cX12_isSheet 25 = .ok (.goto 4, 3) := by decide +kernel
theorem dX12_isSheet_28 : decode cX12_isSheet 28 = .ok (.iconst 0, 1) := by decide +kernel
theorem dX12_isSheet_29 : decode cX12_isSheet 29 = .ok (.ireturn, 1) := by decide +kernel
set_option maxRecDepth 20000 in
theorem ggX12_sheet_X12_isSheet : GoodIn wsX12_sheet wsX12_isSheet := goodIn_r _ [7, 8, 9, 10, 11, 6, 12] rfl (by decide +kernel)
set_option maxRecDepth 20000 in
theorem gX12_sheet_X12_isSheet : GoodIn wsX12_sheet (va_wsS RX12 310 yX12_isSheet wsX12_isSheet) := goodIn_app (goodIn_of _ (by decide +kernel)) ggX12_sheet_X12_isSheet
theorem dX12_sheet_0 : decode cX12_sheet 0 = .ok (.iload_n 1, 1) := by decide +kernel
theorem dX12_sheet_1 : decode cX12_sheet 1 = .ok (.iload_n 2, 1) := by decide +kernel
theorem dX12_sheet_2 : decode cX12_sheet 2 = .ok (.invokestatic 310, 3) := by decide +kernel
theorem dX12_sheet_5 : decode cX12_sheet 5 = .ok (.ifCond .eq 9, 3) := by decide +kernel
theorem dX12_sheet_8 : decode cX12_sheet 8 = .ok (.iload_n 3, 1) := by decide +kernel
theorem dX12_sheet_9 : decode cX12_sheet 9 = .ok (.bipush 40, 2) := by decide +kernel
theorem dX12_sheet_11 : decode cX12_sheet 11 = .ok (.if_icmp .le 5, 3) := by decide +kernel
theorem dX12_sheet_14 : decode cX12_sheet 14 = .ok (.iconst (-1), 1) := by decide +kernel
theorem dX12_sheet_15 : decode cX12_sheet 15 = .ok (.ireturn, 1) := by decide +kernel
theorem dX12_sheet_16 : decode cX12_sheet 16 = .ok (.iload_n 3, 1) := by decide +kernel
theorem dX12_sheet_17 : decode cX12_sheet 17 = .ok (.ifCond .ge 6, 3) := by decide +kernel
theorem dX12_sheet_20 : decode cX12_sheet 20 = .ok (.bipush (-14), 2) := by decide +kernel
theorem dX12_sheet_22 : decode cX12_sheet 22 = .ok (.ireturn, 1) := by decide +kernel
theorem dX12_sheet_23 : decode cX12_sheet 23 = .ok (.aload_n 0, 1) := by decide +kernel
theorem dX12_sheet_24 : decode cX12_sheet 24 = .ok (.getfield 72, 3) := by decide +kernel
theorem dX12_sheet_27 : decode cX12_sheet 27 = .ok (.iload_n 1, 1) := by decide +kernel
theorem dX12_sheet_28 : decode cX12_sheet 28 = .ok (.iload_n 2, 1) := by decide +kernel
theorem dX12_sheet_29 : decode cX12_sheet 29 = .ok (.iastore, 1) := by decide +kernel
theorem dX12_sheet_30 : decode cX12_sheet 30 = .ok (.aload_n 0, 1) := by decide +kernel
theorem dX12_sheet_31 : decode cX12_sheet 31 = .ok (.getfield 75, 3) := by decide +kernel
theorem dX12_sheet_34 : decode cX12_sheet 34 = .ok (.iload_n 1, 1) := by decide +kernel
theorem dX12_sheet_35 : decode cX12_sheet 35 = .ok (.iload_n 3, 1) := by decide +kernel
theorem dX12_sheet_36 : decode cX12_sheet 36 = .ok (.iastore, 1) := by decide +kernel
theorem dX12_sheet_37 : decode cX12_sheet 37 = .ok (.iconst 0, 1) := by decide +kernel
theorem dX12_sheet_38 : decode cX12_sheet 38 = .ok (.istore 4, 2) := by decide +kernel
theorem dX12_sheet_40 : decode cX12_sheet 40 = .ok (.iload 4, 2) := by decide +kernel
theorem dX12_sheet_42 : decode cX12_sheet 42 = .ok (.bipush 40, 2) := by decide +kernel
theorem dX12_sheet_44 : decode cX12_sheet 44 = .ok (.if_icmp .ge 22, 3) := by decide +kernel
theorem dX12_sheet_47 : decode cX12_sheet 47 = .ok (.aload_n 0, 1) := by decide +kernel
theorem dX12_sheet_48 : decode cX12_sheet 48 = .ok (.getfield 78, 3) := by decide +kernel
theorem dX12_sheet_51 : decode cX12_sheet 51 = .ok (.bipush 40, 2) := by decide +kernel
theorem dX12_sheet_53 : decode cX12_sheet 53 = .ok (.iload_n 1, 1) := by decide +kernel
theorem dX12_sheet_54 : decode cX12_sheet 54 = .ok (.imul, 1) := by decide +kernel
theorem dX12_sheet_55 : decode cX12_sheet 55 = .ok (.iload 4, 2) := by decide +kernel
theorem dX12_sheet_57 : decode cX12_sheet 57 = .ok (.iadd, 1) := by decide +kernel
theorem dX12_sheet_58 : decode cX12_sheet 58 = .ok (.iconst 0, 1) := by decide +kernel
theorem dX12_sheet_59 : decode cX12_sheet 59 = .ok (.iastore, 1) := by decide +kernel
theorem dX12_sheet_60 : decode cX12_sheet 60 = .ok (.iinc 4 1, 3) := by decide +kernel
theorem dX12_sheet_63 : decode cX12_sheet 63 = .ok (.goto (-23), 3) := by decide +kernel
theorem dX12_sheet_66 : decode cX12_sheet 66 = .ok (.iconst 1, 1) := by decide +kernel
theorem dX12_sheet_67 : decode cX12_sheet 67 = .ok (.ireturn, 1) := by decide +kernel
set_option maxRecDepth 20000 in
theorem ggX12_lay_X12_isSheet : GoodIn wsX12_lay wsX12_isSheet := goodIn_r _ [7, 8, 9, 10, 11, 6, 12] rfl (by decide +kernel)
set_option maxRecDepth 20000 in
theorem gX12_lay_X12_isSheet : GoodIn wsX12_lay (va_wsS RX12 310 yX12_isSheet wsX12_isSheet) := goodIn_app (goodIn_of _ (by decide +kernel)) ggX12_lay_X12_isSheet
set_option maxRecDepth 20000 in
theorem ggX12_lay_X12_in : GoodIn wsX12_lay wsX12_in := goodIn_r _ [12] rfl (by decide +kernel)
set_option maxRecDepth 20000 in
theorem gX12_lay_X12_in : GoodIn wsX12_lay (va_wsS RX12 115 yX12_in wsX12_in) := goodIn_app (goodIn_of _ (by decide +kernel)) ggX12_lay_X12_in
theorem dX12_lay_0 : decode cX12_lay 0 = .ok (.iload_n 1, 1) := by decide +kernel
theorem dX12_lay_1 : decode cX12_lay 1 = .ok (.iconst 0, 1) := by decide +kernel
theorem dX12_lay_2 : decode cX12_lay 2 = .ok (.invokestatic 310, 3) := by decide +kernel
theorem dX12_lay_5 : decode cX12_lay 5 = .ok (.ifCond .ne 5, 3) := by decide +kernel
theorem dX12_lay_8 : decode cX12_lay 8 = .ok (.iconst (-1), 1) := by decide +kernel
theorem dX12_lay_9 : decode cX12_lay 9 = .ok (.ireturn, 1) := by decide +kernel
theorem dX12_lay_10 : decode cX12_lay 10 = .ok (.aload_n 0, 1) := by decide +kernel
theorem dX12_lay_11 : decode cX12_lay 11 = .ok (.getfield 72, 3) := by decide +kernel
theorem dX12_lay_14 : decode cX12_lay 14 = .ok (.iload_n 1, 1) := by decide +kernel
theorem dX12_lay_15 : decode cX12_lay 15 = .ok (.iaload, 1) := by decide +kernel
theorem dX12_lay_16 : decode cX12_lay 16 = .ok (.bipush (-4), 2) := by decide +kernel
theorem dX12_lay_18 : decode cX12_lay 18 = .ok (.if_icmp .ne 6, 3) := by decide +kernel
theorem dX12_lay_21 : decode cX12_lay 21 = .ok (.bipush (-11), 2) := by decide +kernel
theorem dX12_lay_23 : decode cX12_lay 23 = .ok (.ireturn, 1) := by decide +kernel
theorem dX12_lay_24 : decode cX12_lay 24 = .ok (.iload_n 2, 1) := by decide +kernel
theorem dX12_lay_25 : decode cX12_lay 25 = .ok (.i2l, 1) := by decide +kernel
theorem dX12_lay_26 : decode cX12_lay 26 = .ok (.lconst 0, 1) := by decide +kernel
theorem dX12_lay_27 : decode cX12_lay 27 = .ok (.aload_n 0, 1) := by decide +kernel
theorem dX12_lay_28 : decode cX12_lay 28 = .ok (.getfield 75, 3) := by decide +kernel
theorem dX12_lay_31 : decode cX12_lay 31 = .ok (.iload_n 1, 1) := by decide +kernel
theorem dX12_lay_32 : decode cX12_lay 32 = .ok (.iaload, 1) := by decide +kernel
theorem dX12_lay_33 : decode cX12_lay 33 = .ok (.iconst 1, 1) := by decide +kernel
theorem dX12_lay_34 : decode cX12_lay 34 = .ok (.isub, 1) := by decide +kernel
theorem dX12_lay_35 : decode cX12_lay 35 = .ok (.i2l, 1) := by decide +kernel
theorem dX12_lay_36 : decode cX12_lay 36 = .ok (.invokestatic 115, 3) := by decide +kernel
theorem dX12_lay_39 : decode cX12_lay 39 = .ok (.ifCond .ne 6, 3) := by decide +kernel
theorem dX12_lay_42 : decode cX12_lay 42 = .ok (.bipush (-12), 2) := by decide +kernel
theorem dX12_lay_44 : decode cX12_lay 44 = .ok (.ireturn, 1) := by decide +kernel
theorem dX12_lay_45 : decode cX12_lay 45 = .ok (.aload_n 0, 1) := by decide +kernel
theorem dX12_lay_46 : decode cX12_lay 46 = .ok (.getfield 78, 3) := by decide +kernel
theorem dX12_lay_49 : decode cX12_lay 49 = .ok (.bipush 40, 2) := by decide +kernel
theorem dX12_lay_51 : decode cX12_lay 51 = .ok (.iload_n 1, 1) := by decide +kernel
theorem dX12_lay_52 : decode cX12_lay 52 = .ok (.imul, 1) := by decide +kernel
theorem dX12_lay_53 : decode cX12_lay 53 = .ok (.iload_n 2, 1) := by decide +kernel
theorem dX12_lay_54 : decode cX12_lay 54 = .ok (.iadd, 1) := by decide +kernel
theorem dX12_lay_55 : decode cX12_lay 55 = .ok (.aload_n 0, 1) := by decide +kernel
theorem dX12_lay_56 : decode cX12_lay 56 = .ok (.getfield 72, 3) := by decide +kernel
theorem dX12_lay_59 : decode cX12_lay 59 = .ok (.iload_n 1, 1) := by decide +kernel
theorem dX12_lay_60 : decode cX12_lay 60 = .ok (.iaload, 1) := by decide +kernel
theorem dX12_lay_61 : decode cX12_lay 61 = .ok (.ifCond .ne 8, 3) := by decide +kernel
theorem dX12_lay_64 : decode cX12_lay 64 = .ok (.iload_n 3, 1) := by decide +kernel
theorem dX12_lay_65 : decode cX12_lay 65 = .ok (.i2b, 1) := by decide +kernel
theorem dX12_lay_66 : decode cX12_lay 66 = .ok (.goto 19, 3) := by decide +kernel
theorem dX12_lay_69 : decode cX12_lay 69 = .ok (.aload_n 0, 1) := by decide +kernel
theorem dX12_lay_70 : decode cX12_lay 70 = .ok (.getfield 72, 3) := by decide +kernel
theorem dX12_lay_73 : decode cX12_lay 73 = .ok (.iload_n 1, 1) := by decide +kernel
theorem dX12_lay_74 : decode cX12_lay 74 = .ok (.iaload, 1) := by decide +kernel
theorem dX12_lay_75 : decode cX12_lay 75 = .ok (.iconst 1, 1) := by decide +kernel
theorem dX12_lay_76 : decode cX12_lay 76 = .ok (.if_icmp .ne 8, 3) := by decide +kernel
theorem dX12_lay_79 : decode cX12_lay 79 = .ok (.iload_n 3, 1) := by decide +kernel
theorem dX12_lay_80 : decode cX12_lay 80 = .ok (.i2s, 1) := by decide +kernel
theorem dX12_lay_81 : decode cX12_lay 81 = .ok (.goto 4, 3) := by decide +kernel
theorem dX12_lay_84 : decode cX12_lay 84 = .ok (.iload_n 3, 1) := by decide +kernel
theorem dX12_lay_85 : decode cX12_lay 85 = .ok (.iastore, 1) := by decide +kernel
theorem dX12_lay_86 : decode cX12_lay 86 = .ok (.iconst 1, 1) := by decide +kernel
theorem dX12_lay_87 : decode cX12_lay 87 = .ok (.ireturn, 1) := by decide +kernel
set_option maxRecDepth 20000 in
theorem ggX12_read_X12_isSheet : GoodIn wsX12_read wsX12_isSheet := goodIn_r _ [9, 10, 11, 12, 13, 8, 14] rfl (by decide +kernel)
set_option maxRecDepth 20000 in
theorem gX12_read_X12_isSheet : GoodIn wsX12_read (va_wsS RX12 310 yX12_isSheet wsX12_isSheet) := goodIn_app (goodIn_of _ (by decide +kernel)) ggX12_read_X12_isSheet
set_option maxRecDepth 20000 in
theorem ggX12_read_X12_in : GoodIn wsX12_read wsX12_in := goodIn_r _ [14] rfl (by decide +kernel)
set_option maxRecDepth 20000 in
theorem gX12_read_X12_in : GoodIn wsX12_read (va_wsS RX12 115 yX12_in wsX12_in) := goodIn_app (goodIn_of _ (by decide +kernel)) ggX12_read_X12_in
set_option maxRecDepth 20000 in
theorem ggX12_read_X12_copies : GoodIn wsX12_read wsX12_copies := goodIn_r _ [18, 19, 48, 49, 50, 51, 52, 53, 54, 55, 56, 57, 58, 59, 60, 61, 62, 63, 64, 65, 66, 67, 68, 69, 70, 71, 72, 73, 74, 75, 76, 77, 78, 79, 80, 81, 82, 83, 84] rfl (by decide +kernel)
set_option maxRecDepth 20000 in
theorem gX12_read_X12_copies : GoodIn wsX12_read (wsV RX12 298 RX12 yX12_copies wsX12_copies) := goodIn_app (goodIn_of _ (by decide +kernel)) ggX12_read_X12_copies
set_option maxRecDepth 20000 in
theorem ggX12_read_X12_day : GoodIn wsX12_read wsX12_day := goodIn_r _ [23, 19, 24, 25, 26, 8, 27, 28, 12, 13, 14, 29, 30, 31, 32, 33, 34, 35, 36, 37, 38, 39, 40, 41, 42, 43, 44, 45, 46, 47, 48, 49, 50, 51, 52, 53, 54, 55, 56, 57, 58, 59, 60, 61, 62, 63, 64, 65, 66, 67, 68, 69, 70, 71, 72, 73, 74, 75, 76, 77, 78, 79, 80, 81, 82, 83, 84] rfl (by decide +kernel)
set_option maxRecDepth 20000 in
theorem gX12_read_X12_day : GoodIn wsX12_read (wsV RX12 316 RX12 yX12_day wsX12_day) := goodIn_app (goodIn_of _ (by decide +kernel)) ggX12_read_X12_day
theorem dX12_read_0 : decode cX12_read 0 = .ok (.iload_n 1, 1) := by decide +kernel
theorem dX12_read_1 : decode cX12_read 1 = .ok (.iload_n 2, 1) := by decide +kernel
theorem dX12_read_2 : decode cX12_read 2 = .ok (.invokestatic 310, 3) := by decide +kernel
theorem dX12_read_5 : decode cX12_read 5 = .ok (.ifCond .eq 16, 3) := by decide +kernel
theorem dX12_read_8 : decode cX12_read 8 = .ok (.iload 4, 2) := by decide +kernel
theorem dX12_read_10 : decode cX12_read 10 = .ok (.i2l, 1) := by decide +kernel
theorem dX12_read_11 : decode cX12_read 11 = .ok (.lconst 0, 1) := by decide +kernel
theorem dX12_read_12 : decode cX12_read 12 = .ok (.ldc2_w 314, 3) := by decide +kernel
theorem dX12_read_15 : decode cX12_read 15 = .ok (.invokestatic 115, 3) := by decide +kernel
theorem dX12_read_18 : decode cX12_read 18 = .ok (.ifCond .ne 5, 3) := by decide +kernel
theorem dX12_read_21 : decode cX12_read 21 = .ok (.iconst (-1), 1) := by decide +kernel
theorem dX12_read_22 : decode cX12_read 22 = .ok (.ireturn, 1) := by decide +kernel
theorem dX12_read_23 : decode cX12_read 23 = .ok (.aload_n 0, 1) := by decide +kernel
theorem dX12_read_24 : decode cX12_read 24 = .ok (.bipush 114, 2) := by decide +kernel
theorem dX12_read_26 : decode cX12_read 26 = .ok (.iconst 0, 1) := by decide +kernel
theorem dX12_read_27 : decode cX12_read 27 = .ok (.invokevirtual 298, 3) := by decide +kernel
theorem dX12_read_30 : decode cX12_read 30 = .ok (.iconst 0, 1) := by decide +kernel
theorem dX12_read_31 : decode cX12_read 31 = .ok (.istore 5, 2) := by decide +kernel
theorem dX12_read_33 : decode cX12_read 33 = .ok (.iconst 0, 1) := by decide +kernel
theorem dX12_read_34 : decode cX12_read 34 = .ok (.istore 6, 2) := by decide +kernel
theorem dX12_read_36 : decode cX12_read 36 = .ok (.iconst 0, 1) := by decide +kernel
theorem dX12_read_37 : decode cX12_read 37 = .ok (.istore 7, 2) := by decide +kernel
theorem dX12_read_39 : decode cX12_read 39 = .ok (.iload 7, 2) := by decide +kernel
theorem dX12_read_41 : decode cX12_read 41 = .ok (.iload 4, 2) := by decide +kernel
theorem dX12_read_43 : decode cX12_read 43 = .ok (.if_icmp .ge 120, 3) := by decide +kernel
theorem dX12_read_46 : decode cX12_read 46 = .ok (.iload 5, 2) := by decide +kernel
theorem dX12_read_48 : decode cX12_read 48 = .ok (.ifCond .ne 115, 3) := by decide +kernel
theorem dX12_read_51 : decode cX12_read 51 = .ok (.iload_n 3, 1) := by decide +kernel
theorem dX12_read_52 : decode cX12_read 52 = .ok (.i2l, 1) := by decide +kernel
theorem dX12_read_53 : decode cX12_read 53 = .ok (.iload 7, 2) := by decide +kernel
theorem dX12_read_55 : decode cX12_read 55 = .ok (.i2l, 1) := by decide +kernel
theorem dX12_read_56 : decode cX12_read 56 = .ok (.ladd, 1) := by decide +kernel
theorem dX12_read_57 : decode cX12_read 57 = .ok (.lstore 8, 2) := by decide +kernel
theorem dX12_read_59 : decode cX12_read 59 = .ok (.aload_n 0, 1) := by decide +kernel
theorem dX12_read_60 : decode cX12_read 60 = .ok (.getfield 72, 3) := by decide +kernel
theorem dX12_read_63 : decode cX12_read 63 = .ok (.iload_n 1, 1) := by decide +kernel
theorem dX12_read_64 : decode cX12_read 64 = .ok (.iaload, 1) := by decide +kernel
theorem dX12_read_65 : decode cX12_read 65 = .ok (.bipush (-4), 2) := by decide +kernel
theorem dX12_read_67 : decode cX12_read 67 = .ok (.if_icmp .ne 7, 3) := by decide +kernel
theorem dX12_read_70 : decode cX12_read 70 = .ok (.iconst 1, 1) := by decide +kernel
theorem dX12_read_71 : decode cX12_read 71 = .ok (.goto 42, 3) := by decide +kernel
theorem dX12_read_74 : decode cX12_read 74 = .ok (.aload_n 0, 1) := by decide +kernel
theorem dX12_read_75 : decode cX12_read 75 = .ok (.getfield 72, 3) := by decide +kernel
theorem dX12_read_78 : decode cX12_read 78 = .ok (.iload_n 1, 1) := by decide +kernel
theorem dX12_read_79 : decode cX12_read 79 = .ok (.iaload, 1) := by decide +kernel
theorem dX12_read_80 : decode cX12_read 80 = .ok (.iload_n 2, 1) := by decide +kernel
theorem dX12_read_81 : decode cX12_read 81 = .ok (.if_icmp .eq 7, 3) := by decide +kernel
theorem dX12_read_84 : decode cX12_read 84 = .ok (.iconst 3, 1) := by decide +kernel
theorem dX12_read_85 : decode cX12_read 85 = .ok (.goto 28, 3) := by decide +kernel
theorem dX12_read_88 : decode cX12_read 88 = .ok (.lload 8, 2) := by decide +kernel
theorem dX12_read_90 : decode cX12_read 90 = .ok (.lconst 0, 1) := by decide +kernel
theorem dX12_read_91 : decode cX12_read 91 = .ok (.lcmp, 1) := by decide +kernel
theorem dX12_read_92 : decode cX12_read 92 = .ok (.ifCond .lt 16, 3) := by decide +kernel
theorem dX12_read_95 : decode cX12_read 95 = .ok (.lload 8, 2) := by decide +kernel
theorem dX12_read_97 : decode cX12_read 97 = .ok (.aload_n 0, 1) := by decide +kernel
theorem dX12_read_98 : decode cX12_read 98 = .ok (.getfield 75, 3) := by decide +kernel
theorem dX12_read_101 : decode cX12_read 101 = .ok (.iload_n 1, 1) := by decide +kernel
theorem dX12_read_102 : decode cX12_read 102 = .ok (.iaload, 1) := by decide +kernel
theorem dX12_read_103 : decode cX12_read 103 = .ok (.i2l, 1) := by decide +kernel
theorem dX12_read_104 : decode cX12_read 104 = .ok (.lcmp, 1) := by decide +kernel
theorem dX12_read_105 : decode cX12_read 105 = .ok (.ifCond .lt 7, 3) := by decide +kernel
theorem dX12_read_108 : decode cX12_read 108 = .ok (.iconst 2, 1) := by decide +kernel
theorem dX12_read_109 : decode cX12_read 109 = .ok (.goto 4, 3) := by decide +kernel
theorem dX12_read_112 : decode cX12_read 112 = .ok (.iconst 0, 1) := by decide +kernel
theorem dX12_read_113 : decode cX12_read 113 = .ok (.istore 5, 2) := by decide +kernel
theorem dX12_read_115 : decode cX12_read 115 = .ok (.iload 5, 2) := by decide +kernel
theorem dX12_read_117 : decode cX12_read 117 = .ok (.ifCond .ne 40, 3) := by decide +kernel
theorem dX12_read_120 : decode cX12_read 120 = .ok (.aload_n 0, 1) := by decide +kernel
theorem dX12_read_121 : decode cX12_read 121 = .ok (.aload_n 0, 1) := by decide +kernel
theorem dX12_read_122 : decode cX12_read 122 = .ok (.getfield 78, 3) := by decide +kernel
theorem dX12_read_125 : decode cX12_read 125 = .ok (.bipush 40, 2) := by decide +kernel
theorem dX12_read_127 : decode cX12_read 127 = .ok (.iload_n 1, 1) := by decide +kernel
theorem dX12_read_128 : decode cX12_read 128 = .ok (.imul, 1) := by decide +kernel
theorem dX12_read_129 : decode cX12_read 129 = .ok (.iload_n 3, 1) := by decide +kernel
theorem dX12_read_130 : decode cX12_read 130 = .ok (.iadd, 1) := by decide +kernel
theorem dX12_read_131 : decode cX12_read 131 = .ok (.iload 7, 2) := by decide +kernel
theorem dX12_read_133 : decode cX12_read 133 = .ok (.iadd, 1) := by decide +kernel
theorem dX12_read_134 : decode cX12_read 134 = .ok (.iaload, 1) := by decide +kernel
theorem dX12_read_135 : decode cX12_read 135 = .ok (.invokevirtual 316, 3) := by decide +kernel
theorem dX12_read_138 : decode cX12_read 138 = .ok (.ifCond .ge 16, 3) := by decide +kernel
theorem dX12_read_141 : decode cX12_read 141 = .ok (.aload_n 0, 1) := by decide +kernel
theorem dX12_read_142 : decode cX12_read 142 = .ok (.iconst 0, 1) := by decide +kernel
theorem dX12_read_143 : decode cX12_read 143 = .ok (.bipush 114, 2) := by decide +kernel
theorem dX12_read_145 : decode cX12_read 145 = .ok (.invokevirtual 298, 3) := by decide +kernel
theorem dX12_read_148 : decode cX12_read 148 = .ok (.bipush (-20), 2) := by decide +kernel
theorem dX12_read_150 : decode cX12_read 150 = .ok (.iload 7, 2) := by decide +kernel
theorem dX12_read_152 : decode cX12_read 152 = .ok (.isub, 1) := by decide +kernel
theorem dX12_read_153 : decode cX12_read 153 = .ok (.ireturn, 1) := by decide +kernel
theorem dX12_read_154 : decode cX12_read 154 = .ok (.iinc 6 1, 3) := by decide +kernel
theorem dX12_read_157 : decode cX12_read 157 = .ok (.iinc 7 1, 3) := by decide +kernel
theorem dX12_read_160 : decode cX12_read 160 = .ok (.goto (-121), 3) := by decide +kernel
theorem dX12_read_163 : decode cX12_read 163 = .ok (.aload_n 0, 1) := by decide +kernel
theorem dX12_read_164 : decode cX12_read 164 = .ok (.iload 5, 2) := by decide +kernel
theorem dX12_read_166 : decode cX12_read 166 = .ok (.putfield 319, 3) := by decide +kernel
theorem dX12_read_169 : decode cX12_read 169 = .ok (.iload 6, 2) := by decide +kernel
theorem dX12_read_171 : decode cX12_read 171 = .ok (.ireturn, 1) := by decide +kernel
theorem dX12_torn_0 : decode cX12_torn 0 = .ok (.aload_n 0, 1) := by decide +kernel
theorem dX12_torn_1 : decode cX12_torn 1 = .ok (.getfield 319, 3) := by decide +kernel
theorem dX12_torn_4 : decode cX12_torn 4 = .ok (.ireturn, 1) := by decide +kernel
set_option maxRecDepth 20000 in
theorem ggX12_count_X12_flag : GoodIn wsX12_count wsX12_flag := goodIn_r _ [10] rfl (by decide +kernel)
set_option maxRecDepth 20000 in
theorem gX12_count_X12_flag : GoodIn wsX12_count (va_wsS RX12 212 yX12_flag wsX12_flag) := goodIn_app (goodIn_of _ (by decide +kernel)) ggX12_count_X12_flag
theorem dX12_count_0 : decode cX12_count 0 = .ok (.iconst 0, 1) := by decide +kernel
theorem dX12_count_1 : decode cX12_count 1 = .ok (.istore_n 2, 1) := by decide +kernel
theorem dX12_count_2 : decode cX12_count 2 = .ok (.iconst 0, 1) := by decide +kernel
theorem dX12_count_3 : decode cX12_count 3 = .ok (.istore_n 3, 1) := by decide +kernel
theorem dX12_count_4 : decode cX12_count 4 = .ok (.iload_n 3, 1) := by decide +kernel
theorem dX12_count_5 : decode cX12_count 5 = .ok (.aload_n 0, 1) := by decide +kernel
theorem dX12_count_6 : decode cX12_count 6 = .ok (.getfield 100, 3) := by decide +kernel
theorem dX12_count_9 : decode cX12_count 9 = .ok (.if_icmp .ge 18, 3) := by decide +kernel
theorem dX12_count_12 : decode cX12_count 12 = .ok (.iload_n 2, 1) := by decide +kernel
theorem dX12_count_13 : decode cX12_count 13 = .ok (.aload_n 0, 1) := by decide +kernel
theorem dX12_count_14 : decode cX12_count 14 = .ok (.getfield 7, 3) := by decide +kernel
theorem dX12_count_17 : decode cX12_count 17 = .ok (.iload_n 3, 1) := by decide +kernel
theorem dX12_count_18 : decode cX12_count 18 = .ok (.iaload, 1) := by decide +kernel
theorem dX12_count_19 : decode cX12_count 19 = .ok (.iadd, 1) := by decide +kernel
theorem dX12_count_20 : decode cX12_count 20 = .ok (.istore_n 2, 1) := by decide +kernel
theorem dX12_count_21 : decode cX12_count 21 = .ok (.iinc 3 1, 3) := by decide +kernel
theorem dX12_count_24 : decode cX12_count 24 = .ok (.goto (-20), 3) := by decide +kernel
theorem dX12_count_27 : decode cX12_count 27 = .ok (.iload_n 1, 1) := by decide +kernel
theorem dX12_count_28 : decode cX12_count 28 = .ok (.tableswitch 94 0 4 #[36, 44, 64, 69, 92], 36) := by decide +kernel
theorem dX12_count_64 : decode cX12_count 64 = .ok (.aload_n 0, 1) := by decide +kernel
theorem dX12_count_65 : decode cX12_count 65 = .ok (.getfield 7, 3) := by decide +kernel
theorem dX12_count_68 : decode cX12_count 68 = .ok (.bipush 31, 2) := by decide +kernel
theorem dX12_count_70 : decode cX12_count 70 = .ok (.iaload, 1) := by decide +kernel
theorem dX12_count_71 : decode cX12_count 71 = .ok (.ireturn, 1) := by decide +kernel
theorem dX12_count_72 : decode cX12_count 72 = .ok (.aload_n 0, 1) := by decide +kernel
theorem dX12_count_73 : decode cX12_count 73 = .ok (.getfield 13, 3) := by decide +kernel
theorem dX12_count_76 : decode cX12_count 76 = .ok (.iconst 0, 1) := by decide +kernel
theorem dX12_count_77 : decode cX12_count 77 = .ok (.baload, 1) := by decide +kernel
theorem dX12_count_78 : decode cX12_count 78 = .ok (.invokestatic 212, 3) := by decide +kernel
theorem dX12_count_81 : decode cX12_count 81 = .ok (.aload_n 0, 1) := by decide +kernel
theorem dX12_count_82 : decode cX12_count 82 = .ok (.getfield 13, 3) := by decide +kernel
theorem dX12_count_85 : decode cX12_count 85 = .ok (.iconst 1, 1) := by decide +kernel
theorem dX12_count_86 : decode cX12_count 86 = .ok (.baload, 1) := by decide +kernel
theorem dX12_count_87 : decode cX12_count 87 = .ok (.invokestatic 212, 3) := by decide +kernel
theorem dX12_count_90 : decode cX12_count 90 = .ok (.iadd, 1) := by decide +kernel
theorem dX12_count_91 : decode cX12_count 91 = .ok (.ireturn, 1) := by decide +kernel
theorem dX12_count_92 : decode cX12_count 92 = .ok (.aload_n 0, 1) := by decide +kernel
theorem dX12_count_93 : decode cX12_count 93 = .ok (.getfield 110, 3) := by decide +kernel
theorem dX12_count_96 : decode cX12_count 96 = .ok (.ireturn, 1) := by decide +kernel
theorem dX12_count_97 : decode cX12_count 97 = .ok (.aload_n 0, 1) := by decide +kernel
theorem dX12_count_98 : decode cX12_count 98 = .ok (.getfield 72, 3) := by decide +kernel
theorem dX12_count_101 : decode cX12_count 101 = .ok (.iconst 0, 1) := by decide +kernel
theorem dX12_count_102 : decode cX12_count 102 = .ok (.iaload, 1) := by decide +kernel
theorem dX12_count_103 : decode cX12_count 103 = .ok (.bipush (-4), 2) := by decide +kernel
theorem dX12_count_105 : decode cX12_count 105 = .ok (.if_icmp .ne 8, 3) := by decide +kernel
theorem dX12_count_108 : decode cX12_count 108 = .ok (.bipush (-4), 2) := by decide +kernel
theorem dX12_count_110 : decode cX12_count 110 = .ok (.goto 9, 3) := by decide +kernel
theorem dX12_count_113 : decode cX12_count 113 = .ok (.aload_n 0, 1) := by decide +kernel
theorem dX12_count_114 : decode cX12_count 114 = .ok (.getfield 75, 3) := by decide +kernel
theorem dX12_count_117 : decode cX12_count 117 = .ok (.iconst 0, 1) := by decide +kernel
theorem dX12_count_118 : decode cX12_count 118 = .ok (.iaload, 1) := by decide +kernel
theorem dX12_count_119 : decode cX12_count 119 = .ok (.ireturn, 1) := by decide +kernel
theorem dX12_count_120 : decode cX12_count 120 = .ok (.iload_n 2, 1) := by decide +kernel
theorem dX12_count_121 : decode cX12_count 121 = .ok (.ireturn, 1) := by decide +kernel
theorem dX12_count_122 : decode cX12_count 122 = .ok (.iconst (-1), 1) := by decide +kernel
theorem dX12_count_123 : decode cX12_count 123 = .ok (.ireturn, 1) := by decide +kernel
theorem dJ6_bitCount_0f7a4_0 : decode cJ6_bitCount_0f7a4 0 = .ok (.iload_n 0, 1) := by decide +kernel
theorem dJ6_bitCount_0f7a4_1 : decode cJ6_bitCount_0f7a4 1 = .ok (.iload_n 0, 1) := by decide +kernel
theorem dJ6_bitCount_0f7a4_2 : decode cJ6_bitCount_0f7a4 2 = .ok (.iconst 1, 1) := by decide +kernel
theorem dJ6_bitCount_0f7a4_3 : decode cJ6_bitCount_0f7a4 3 = .ok (.iushr, 1) := by decide +kernel
theorem dJ6_bitCount_0f7a4_4 : decode cJ6_bitCount_0f7a4 4 = .ok (.ldc_w 265, 3) := by decide +kernel
theorem dJ6_bitCount_0f7a4_7 : decode cJ6_bitCount_0f7a4 7 = .ok (.iand, 1) := by decide +kernel
theorem dJ6_bitCount_0f7a4_8 : decode cJ6_bitCount_0f7a4 8 = .ok (.isub, 1) := by decide +kernel
theorem dJ6_bitCount_0f7a4_9 : decode cJ6_bitCount_0f7a4 9 = .ok (.istore_n 0, 1) := by decide +kernel
theorem dJ6_bitCount_0f7a4_10 : decode cJ6_bitCount_0f7a4 10 = .ok (.iload_n 0, 1) := by decide +kernel
theorem dJ6_bitCount_0f7a4_11 : decode cJ6_bitCount_0f7a4 11 = .ok (.ldc_w 266, 3) := by decide +kernel
theorem dJ6_bitCount_0f7a4_14 : decode cJ6_bitCount_0f7a4 14 = .ok (.iand, 1) := by decide +kernel
theorem dJ6_bitCount_0f7a4_15 : decode cJ6_bitCount_0f7a4 15 = .ok (.iload_n 0, 1) := by decide +kernel
theorem dJ6_bitCount_0f7a4_16 : decode cJ6_bitCount_0f7a4 16 = .ok (.iconst 2, 1) := by decide +kernel
theorem dJ6_bitCount_0f7a4_17 : decode cJ6_bitCount_0f7a4 17 = .ok (.iushr, 1) := by decide +kernel
theorem dJ6_bitCount_0f7a4_18 : decode cJ6_bitCount_0f7a4 18 = .ok (.ldc_w 266, 3) := by decide +kernel
theorem dJ6_bitCount_0f7a4_21 : decode cJ6_bitCount_0f7a4 21 = .ok (.iand, 1) := by decide +kernel
theorem dJ6_bitCount_0f7a4_22 : decode cJ6_bitCount_0f7a4 22 = .ok (.iadd, 1) := by decide +kernel
theorem dJ6_bitCount_0f7a4_23 : decode cJ6_bitCount_0f7a4 23 = .ok (.istore_n 0, 1) := by decide +kernel
theorem dJ6_bitCount_0f7a4_24 : decode cJ6_bitCount_0f7a4 24 = .ok (.iload_n 0, 1) := by decide +kernel
theorem dJ6_bitCount_0f7a4_25 : decode cJ6_bitCount_0f7a4 25 = .ok (.iload_n 0, 1) := by decide +kernel
theorem dJ6_bitCount_0f7a4_26 : decode cJ6_bitCount_0f7a4 26 = .ok (.iconst 4, 1) := by decide +kernel
theorem dJ6_bitCount_0f7a4_27 : decode cJ6_bitCount_0f7a4 27 = .ok (.iushr, 1) := by decide +kernel
theorem dJ6_bitCount_0f7a4_28 : decode cJ6_bitCount_0f7a4 28 = .ok (.iadd, 1) := by decide +kernel
theorem dJ6_bitCount_0f7a4_29 : decode cJ6_bitCount_0f7a4 29 = .ok (.ldc_w 267, 3) := by decide +kernel
theorem dJ6_bitCount_0f7a4_32 : decode cJ6_bitCount_0f7a4 32 = .ok (.iand, 1) := by decide +kernel
theorem dJ6_bitCount_0f7a4_33 : decode cJ6_bitCount_0f7a4 33 = .ok (.istore_n 0, 1) := by decide +kernel
theorem dJ6_bitCount_0f7a4_34 : decode cJ6_bitCount_0f7a4 34 = .ok (.iload_n 0, 1) := by decide +kernel
theorem dJ6_bitCount_0f7a4_35 : decode cJ6_bitCount_0f7a4 35 = .ok (.iload_n 0, 1) := by decide +kernel
theorem dJ6_bitCount_0f7a4_36 : decode cJ6_bitCount_0f7a4 36 = .ok (.bipush 8, 2) := by decide +kernel
theorem dJ6_bitCount_0f7a4_38 : decode cJ6_bitCount_0f7a4 38 = .ok (.iushr, 1) := by decide +kernel
theorem dJ6_bitCount_0f7a4_39 : decode cJ6_bitCount_0f7a4 39 = .ok (.iadd, 1) := by decide +kernel
theorem dJ6_bitCount_0f7a4_40 : decode cJ6_bitCount_0f7a4 40 = .ok (.istore_n 0, 1) := by decide +kernel
theorem dJ6_bitCount_0f7a4_41 : decode cJ6_bitCount_0f7a4 41 = .ok (.iload_n 0, 1) := by decide +kernel
theorem dJ6_bitCount_0f7a4_42 : decode cJ6_bitCount_0f7a4 42 = .ok (.iload_n 0, 1) := by decide +kernel
theorem dJ6_bitCount_0f7a4_43 : decode cJ6_bitCount_0f7a4 43 = .ok (.bipush 16, 2) := by decide +kernel
theorem dJ6_bitCount_0f7a4_45 : decode cJ6_bitCount_0f7a4 45 = .ok (.iushr, 1) := by decide +kernel
theorem dJ6_bitCount_0f7a4_46 : decode cJ6_bitCount_0f7a4 46 = .ok (.iadd, 1) := by decide +kernel
theorem dJ6_bitCount_0f7a4_47 : decode cJ6_bitCount_0f7a4 47 = .ok (.istore_n 0, 1) := by decide +kernel
theorem dJ6_bitCount_0f7a4_48 : decode cJ6_bitCount_0f7a4 48 = .ok (.iload_n 0, 1) := by decide +kernel
theorem dJ6_bitCount_0f7a4_49 : decode cJ6_bitCount_0f7a4 49 = .ok (.bipush 63, 2) := by decide +kernel
theorem dJ6_bitCount_0f7a4_51 : decode cJ6_bitCount_0f7a4 51 = .ok (.iand, 1) := by decide +kernel
theorem dJ6_bitCount_0f7a4_52 : decode cJ6_bitCount_0f7a4 52 = .ok (.ireturn, 1) := by decide +kernel
theorem dJ9_max_7cf53_0 : decode cJ9_max_7cf53 0 = .ok (.iload_n 0, 1) := by decide +kernel
theorem dJ9_max_7cf53_1 : decode cJ9_max_7cf53 1 = .ok (.iload_n 1, 1) := by decide +kernel
theorem dJ9_max_7cf53_2 : decode cJ9_max_7cf53 2 = .ok (.if_icmp .lt 7, 3) := by decide +kernel
theorem dJ9_max_7cf53_5 : decode cJ9_max_7cf53 5 = .ok (.iload_n 0, 1) := by decide +kernel
theorem dJ9_max_7cf53_6 : decode cJ9_max_7cf53 6 = .ok (.goto 4, 3) := by decide +kernel
theorem dJ9_max_7cf53_9 : decode cJ9_max_7cf53 9 = .ok (.iload_n 1, 1) := by decide +kernel
theorem dJ9_max_7cf53_10 : decode cJ9_max_7cf53 10 = .ok (.ireturn, 1) := by decide +kernel
theorem dJ9_min_7cf53_0 : decode cJ9_min_7cf53 0 = .ok (.iload_n 0, 1) := by decide +kernel
theorem dJ9_min_7cf53_1 : decode cJ9_min_7cf53 1 = .ok (.iload_n 1, 1) := by decide +kernel
theorem dJ9_min_7cf53_2 : decode cJ9_min_7cf53 2 = .ok (.if_icmp .gt 7, 3) := by decide +kernel
theorem dJ9_min_7cf53_5 : decode cJ9_min_7cf53 5 = .ok (.iload_n 0, 1) := by decide +kernel
theorem dJ9_min_7cf53_6 : decode cJ9_min_7cf53 6 = .ok (.goto 4, 3) := by decide +kernel
theorem dJ9_min_7cf53_9 : decode cJ9_min_7cf53 9 = .ok (.iload_n 1, 1) := by decide +kernel
theorem dJ9_min_7cf53_10 : decode cJ9_min_7cf53 10 = .ok (.ireturn, 1) := by decide +kernel
set_option maxRecDepth 20000 in
theorem ggJ0_length_8abf5_J0_coder_7d493 : GoodIn wsJ0_length_8abf5 wsJ0_coder_7d493 := goodIn_r _ [6, 7, 8] rfl (by decide +kernel)
set_option maxRecDepth 20000 in
theorem gJ0_length_8abf5_J0_coder_7d493 : GoodIn wsJ0_length_8abf5 (wsV RJ0 335 RJ0 yJ0_coder_7d493 wsJ0_coder_7d493) := goodIn_app (goodIn_of _ (by decide +kernel)) ggJ0_length_8abf5_J0_coder_7d493
theorem dJ0_length_8abf5_0 : decode cJ0_length_8abf5 0 = .ok (.aload_n 0, 1) := by decide +kernel
theorem dJ0_length_8abf5_1 : decode cJ0_length_8abf5 1 = .ok (.getfield 9, 3) := by decide +kernel
theorem dJ0_length_8abf5_4 : decode cJ0_length_8abf5 4 = .ok (.arraylength, 1) := by decide +kernel
theorem dJ0_length_8abf5_5 : decode cJ0_length_8abf5 5 = .ok (.aload_n 0, 1) := by decide +kernel
theorem dJ0_length_8abf5_6 : decode cJ0_length_8abf5 6 = .ok (.invokevirtual 335, 3) := by decide +kernel
theorem dJ0_length_8abf5_9 : decode cJ0_length_8abf5 9 = .ok (.ishr, 1) := by decide +kernel
theorem dJ0_length_8abf5_10 : decode cJ0_length_8abf5 10 = .ok (.ireturn, 1) := by decide +kernel
set_option maxRecDepth 20000 in
theorem ggJ0_charAt_5068e_J0_isLatin1_aae02 : GoodIn wsJ0_charAt_5068e wsJ0_isLatin1_aae02 := goodIn_r _ [6, 7, 8] rfl (by decide +kernel)
set_option maxRecDepth 20000 in
theorem gJ0_charAt_5068e_J0_isLatin1_aae02 : GoodIn wsJ0_charAt_5068e (wsV RJ0 492 RJ0 yJ0_isLatin1_aae02 wsJ0_isLatin1_aae02) := goodIn_app (goodIn_of _ (by decide +kernel)) ggJ0_charAt_5068e_J0_isLatin1_aae02
set_option maxRecDepth 20000 in
theorem ggJ0_charAt_5068e_J1_charAt_3b067 : GoodIn wsJ0_charAt_5068e wsJ1_charAt_3b067 := goodIn_r _ [12, 13, 14, 5, 15, 16, 17, 18, 19, 20] rfl (by decide +kernel)
set_option maxRecDepth 20000 in
theorem gJ0_charAt_5068e_J1_charAt_3b067 : GoodIn wsJ0_charAt_5068e (va_wsS RJ0 495 yJ1_charAt_3b067 wsJ1_charAt_3b067) := goodIn_app (goodIn_of _ (by decide +kernel)) ggJ0_charAt_5068e_J1_charAt_3b067
set_option maxRecDepth 20000 in
theorem ggJ0_charAt_5068e_J2_charAt_3b067 : GoodIn wsJ0_charAt_5068e wsJ2_charAt_3b067 := goodIn_r _ [24, 25, 26, 23, 27, 28, 29, 30, 31, 14, 5, 15, 16, 17, 18, 19, 20, 32, 33, 34, 35, 36, 37] rfl (by decide +kernel)
set_option maxRecDepth 20000 in
theorem gJ0_charAt_5068e_J2_charAt_3b067 : GoodIn wsJ0_charAt_5068e (va_wsS RJ0 498 yJ2_charAt_3b067 wsJ2_charAt_3b067) := goodIn_app (goodIn_of _ (by decide +kernel)) ggJ0_charAt_5068e_J2_charAt_3b067
theorem dJ0_charAt_5068e_0 : decode cJ0_charAt_5068e 0 = .ok (.aload_n 0, 1) := by decide +kernel
theorem dJ0_charAt_5068e_1 : decode cJ0_charAt_5068e 1 = .ok (.invokevirtual 492, 3) := by decide +kernel
theorem dJ0_charAt_5068e_4 : decode cJ0_charAt_5068e 4 = .ok (.ifCond .eq 12, 3) := by decide +kernel
theorem dJ0_charAt_5068e_7 : decode cJ0_charAt_5068e 7 = .ok (.aload_n 0, 1) := by decide +kernel
theorem dJ0_charAt_5068e_8 : decode cJ0_charAt_5068e 8 = .ok (.getfield 9, 3) := by decide +kernel
theorem dJ0_charAt_5068e_11 : decode cJ0_charAt_5068e 11 = .ok (.iload_n 1, 1) := by decide +kernel
theorem dJ0_charAt_5068e_12 : decode cJ0_charAt_5068e 12 = .ok (.invokestatic 495, 3) := by decide +kernel
theorem dJ0_charAt_5068e_15 : decode cJ0_charAt_5068e 15 = .ok (.ireturn, 1) := by decide +kernel
theorem dJ0_charAt_5068e_16 : decode cJ0_charAt_5068e 16 = .ok (.aload_n 0, 1) := by decide +kernel
theorem dJ0_charAt_5068e_17 : decode cJ0_charAt_5068e 17 = .ok (.getfield 9, 3) := by decide +kernel
theorem dJ0_charAt_5068e_20 : decode cJ0_charAt_5068e 20 = .ok (.iload_n 1, 1) := by decide +kernel
theorem dJ0_charAt_5068e_21 : decode cJ0_charAt_5068e 21 = .ok (.invokestatic 498, 3) := by decide +kernel
theorem dJ0_charAt_5068e_24 : decode cJ0_charAt_5068e 24 = .ok (.ireturn, 1) := by decide +kernel
theorem dJ0_coder_7d493_0 : decode cJ0_coder_7d493 0 = .ok (.getstatic 38, 3) := by decide +kernel
theorem dJ0_coder_7d493_3 : decode cJ0_coder_7d493 3 = .ok (.ifCond .eq 10, 3) := by decide +kernel
theorem dJ0_coder_7d493_6 : decode cJ0_coder_7d493 6 = .ok (.aload_n 0, 1) := by decide +kernel
theorem dJ0_coder_7d493_7 : decode cJ0_coder_7d493 7 = .ok (.getfield 15, 3) := by decide +kernel
theorem dJ0_coder_7d493_10 : decode cJ0_coder_7d493 10 = .ok (.goto 4, 3) := by decide +kernel
theorem dJ0_coder_7d493_13 : decode cJ0_coder_7d493 13 = .ok (.iconst 1, 1) := by decide +kernel
theorem dJ0_coder_7d493_14 : decode cJ0_coder_7d493 14 = .ok (.ireturn, 1) := by decide +kernel
theorem dJ0_isLatin1_aae02_0 : decode cJ0_isLatin1_aae02 0 = .ok (.getstatic 38, 3) := by decide +kernel
theorem dJ0_isLatin1_aae02_3 : decode cJ0_isLatin1_aae02 3 = .ok (.ifCond .eq 14, 3) := by decide +kernel
theorem dJ0_isLatin1_aae02_6 : decode cJ0_isLatin1_aae02 6 = .ok (.aload_n 0, 1) := by decide +kernel
theorem dJ0_isLatin1_aae02_7 : decode cJ0_isLatin1_aae02 7 = .ok (.getfield 15, 3) := by decide +kernel
theorem dJ0_isLatin1_aae02_10 : decode cJ0_isLatin1_aae02 10 = .ok (.ifCond .ne 7, 3) := by decide +kernel
theorem dJ0_isLatin1_aae02_13 : decode cJ0_isLatin1_aae02 13 = .ok (.iconst 1, 1) := by decide +kernel
theorem dJ0_isLatin1_aae02_14 : decode cJ0_isLatin1_aae02 14 = .ok (.goto 4, 3) := by decide +kernel
theorem dJ0_isLatin1_aae02_17 : decode cJ0_isLatin1_aae02 17 = .ok (.iconst 0, 1) := by decide +kernel
theorem dJ0_isLatin1_aae02_18 : decode cJ0_isLatin1_aae02 18 = .ok (.ireturn, 1) := by decide +kernel
set_option maxRecDepth 20000 in
theorem ggJ0_checkIndex_df160_J3_checkIndex_8e157 : GoodIn wsJ0_checkIndex_df160 wsJ3_checkIndex_8e157 := goodIn_r _ [5] rfl (by decide +kernel)
set_option maxRecDepth 20000 in
theorem gJ0_checkIndex_df160_J3_checkIndex_8e157 : GoodIn wsJ0_checkIndex_df160 (va_wsS RJ0 1059 yJ3_checkIndex_8e157 wsJ3_checkIndex_8e157) := goodIn_app (goodIn_of _ (by decide +kernel)) ggJ0_checkIndex_df160_J3_checkIndex_8e157
theorem dJ0_checkIndex_df160_0 : decode cJ0_checkIndex_df160 0 = .ok (.iload_n 0, 1) := by decide +kernel
theorem dJ0_checkIndex_df160_1 : decode cJ0_checkIndex_df160 1 = .ok (.iload_n 1, 1) := by decide +kernel
theorem dJ0_checkIndex_df160_2 : decode cJ0_checkIndex_df160 2 = .ok (.getstatic 1053, 3) := by decide +kernel
theorem dJ0_checkIndex_df160_5 : decode cJ0_checkIndex_df160 5 = .ok (.invokestatic 1059, 3) := by decide +kernel
theorem dJ0_checkIndex_df160_8 : decode cJ0_checkIndex_df160 8 = .ok (.pop, 1) := by decide +kernel
theorem dJ0_checkIndex_df160_9 : decode cJ0_checkIndex_df160 9 = .ok (.return_, 1) := by decide +kernel
set_option maxRecDepth 20000 in
theorem ggJ1_charAt_3b067_J0_checkIndex_df160 : GoodIn wsJ1_charAt_3b067 wsJ0_checkIndex_df160 := goodIn_r _ [4, 5, 6, 7, 8, 9] rfl (by decide +kernel)
set_option maxRecDepth 20000 in
theorem gJ1_charAt_3b067_J0_checkIndex_df160 : GoodIn wsJ1_charAt_3b067 (va_wsS RJ1 9 yJ0_checkIndex_df160 wsJ0_checkIndex_df160) := goodIn_app (goodIn_of _ (by decide +kernel)) ggJ1_charAt_3b067_J0_checkIndex_df160
theorem dJ1_charAt_3b067_0 : decode cJ1_charAt_3b067 0 = .ok (.iload_n 1, 1) := by decide +kernel
theorem dJ1_charAt_3b067_1 : decode cJ1_charAt_3b067 1 = .ok (.aload_n 0, 1) := by decide +kernel
theorem dJ1_charAt_3b067_2 : decode cJ1_charAt_3b067 2 = .ok (.arraylength, 1) := by decide +kernel
theorem dJ1_charAt_3b067_3 : decode cJ1_charAt_3b067 3 = .ok (.invokestatic 9, 3) := by decide +kernel
theorem dJ1_charAt_3b067_6 : decode cJ1_charAt_3b067 6 = .ok (.aload_n 0, 1) := by decide +kernel
theorem dJ1_charAt_3b067_7 : decode cJ1_charAt_3b067 7 = .ok (.iload_n 1, 1) := by decide +kernel
theorem dJ1_charAt_3b067_8 : decode cJ1_charAt_3b067 8 = .ok (.baload, 1) := by decide +kernel
theorem dJ1_charAt_3b067_9 : decode cJ1_charAt_3b067 9 = .ok (.sipush 255, 3) := by decide +kernel
theorem dJ1_charAt_3b067_12 : decode cJ1_charAt_3b067 12 = .ok (.iand, 1) := by decide +kernel
theorem dJ1_charAt_3b067_13 : decode cJ1_charAt_3b067 13 = .ok (.i2c, 1) := by decide +kernel
theorem dJ1_charAt_3b067_14 : decode cJ1_charAt_3b067 14 = .ok (.ireturn, 1) := by decide +kernel
set_option maxRecDepth 20000 in
theorem ggJ2_getChar_3b067_J2_length_9d52b : GoodIn wsJ2_getChar_3b067 wsJ2_length_9d52b := goodIn_r _ [7] rfl (by decide +kernel)
set_option maxRecDepth 20000 in
theorem gJ2_getChar_3b067_J2_length_9d52b : GoodIn wsJ2_getChar_3b067 (va_wsS RJ2 48 yJ2_length_9d52b wsJ2_length_9d52b) := goodIn_app (goodIn_of _ (by decide +kernel)) ggJ2_getChar_3b067_J2_length_9d52b
theorem dJ2_getChar_3b067_0 : decode cJ2_getChar_3b067 0 = .ok (.getstatic 44, 3) := by decide +kernel
theorem dJ2_getChar_3b067_3 : decode cJ2_getChar_3b067 3 = .ok (.ifCond .ne 25, 3) := by decide +kernel
theorem dJ2_getChar_3b067_6 : decode cJ2_getChar_3b067 6 = .ok (.iload_n 1, 1) := by decide +kernel
theorem dJ2_getChar_3b067_7 : decode cJ2_getChar_3b067 7 = .ok (.ifCond .lt 11, 3) := by decide +kernel
theorem dJ2_getChar_3b067_10 : decode cJ2_getChar_3b067 10 = .ok (.iload_n 1, 1) := by decide +kernel
theorem dJ2_getChar_3b067_11 : decode cJ2_getChar_3b067 11 = .ok (.aload_n 0, 1) := by decide +kernel
theorem dJ2_getChar_3b067_12 : decode cJ2_getChar_3b067 12 = .ok (.invokestatic 48, 3) := by decide +kernel
theorem dJ2_getChar_3b067_15 : decode cJ2_getChar_3b067 15 = .ok (.if_icmp .lt 13, 3) := by decide +kernel
theorem dJ2_getChar_3b067_18 : decode cJ2_getChar_3b067 18 = .ok (.new 52, 3) := by decide +kernel
theorem dJ2_getChar_3b067_21 : decode cJ2_getChar_3b067 21 = .ok (.dup, 1) := by decide +kernel
theorem dJ2_getChar_3b067_22 : decode cJ2_getChar_3b067 22 = .ok (.ldc 54, 2) := by decide +kernel
theorem dJ2_getChar_3b067_24 : decode cJ2_getChar_3b067 24 = .ok (.invokespecial 56, 3) := by decide +kernel
theorem dJ2_getChar_3b067_27 : decode cJ2_getChar_3b067 27 = .ok (.athrow, 1) := by decide +kernel
theorem dJ2_getChar_3b067_28 : decode cJ2_getChar_3b067 28 = .ok (.iload_n 1, 1) := by decide +kernel
theorem dJ2_getChar_3b067_29 : decode cJ2_getChar_3b067 29 = .ok (.iconst 1, 1) := by decide +kernel
theorem dJ2_getChar_3b067_30 : decode cJ2_getChar_3b067 30 = .ok (.ishl, 1) := by decide +kernel
theorem dJ2_getChar_3b067_31 : decode cJ2_getChar_3b067 31 = .ok (.istore_n 1, 1) := by decide +kernel
theorem dJ2_getChar_3b067_32 : decode cJ2_getChar_3b067 32 = .ok (.aload_n 0, 1) := by decide +kernel
theorem dJ2_getChar_3b067_33 : decode cJ2_getChar_3b067 33 = .ok (.iload_n 1, 1) := by decide +kernel
theorem dJ2_getChar_3b067_34 : decode cJ2_getChar_3b067 34 = .ok (.iinc 1 1, 3) := by decide +kernel
theorem dJ2_getChar_3b067_37 : decode cJ2_getChar_3b067 37 = .ok (.baload, 1) := by decide +kernel
theorem dJ2_getChar_3b067_38 : decode cJ2_getChar_3b067 38 = .ok (.sipush 255, 3) := by decide +kernel
theorem dJ2_getChar_3b067_41 : decode cJ2_getChar_3b067 41 = .ok (.iand, 1) := by decide +kernel
theorem dJ2_getChar_3b067_42 : decode cJ2_getChar_3b067 42 = .ok (.getstatic 59, 3) := by decide +kernel
theorem dJ2_getChar_3b067_45 : decode cJ2_getChar_3b067 45 = .ok (.ishl, 1) := by decide +kernel
theorem dJ2_getChar_3b067_46 : decode cJ2_getChar_3b067 46 = .ok (.aload_n 0, 1) := by decide +kernel
theorem dJ2_getChar_3b067_47 : decode cJ2_getChar_3b067 47 = .ok (.iload_n 1, 1) := by decide +kernel
theorem dJ2_getChar_3b067_48 : decode cJ2_getChar_3b067 48 = .ok (.baload, 1) := by decide +kernel
theorem dJ2_getChar_3b067_49 : decode cJ2_getChar_3b067 49 = .ok (.sipush 255, 3) := by decide +kernel
theorem dJ2_getChar_3b067_52 : decode cJ2_getChar_3b067 52 = .ok (.iand, 1) := by decide +kernel
theorem dJ2_getChar_3b067_53 : decode cJ2_getChar_3b067 53 = .ok (.getstatic 63, 3) := by decide +kernel
theorem dJ2_getChar_3b067_56 : decode cJ2_getChar_3b067 56 = .ok (.ishl, 1) := by decide +kernel
theorem dJ2_getChar_3b067_57 : decode cJ2_getChar_3b067 57 = .ok (.ior, 1) := by decide +kernel
theorem dJ2_getChar_3b067_58 : decode cJ2_getChar_3b067 58 = .ok (.i2c, 1) := by decide +kernel
theorem dJ2_getChar_3b067_59 : decode cJ2_getChar_3b067 59 = .ok (.ireturn, 1) := by decide +kernel
theorem dJ2_length_9d52b_0 : decode cJ2_length_9d52b 0 = .ok (.aload_n 0, 1) := by decide +kernel
theorem dJ2_length_9d52b_1 : decode cJ2_length_9d52b 1 = .ok (.arraylength, 1) := by decide +kernel
theorem dJ2_length_9d52b_2 : decode cJ2_length_9d52b 2 = .ok (.iconst 1, 1) := by decide +kernel
theorem dJ2_length_9d52b_3 : decode cJ2_length_9d52b 3 = .ok (.ishr, 1) := by decide +kernel
theorem dJ2_length_9d52b_4 : decode cJ2_length_9d52b 4 = .ok (.ireturn, 1) := by decide +kernel
set_option maxRecDepth 20000 in
theorem ggJ2_charAt_3b067_J2_checkIndex_2214a : GoodIn wsJ2_charAt_3b067 wsJ2_checkIndex_2214a := goodIn_r _ [4, 5, 6, 3, 7, 8, 9, 10, 11, 12, 13, 14, 15, 16] rfl (by decide +kernel)
set_option maxRecDepth 20000 in
theorem gJ2_charAt_3b067_J2_checkIndex_2214a : GoodIn wsJ2_charAt_3b067 (va_wsS RJ2 67 yJ2_checkIndex_2214a wsJ2_checkIndex_2214a) := goodIn_app (goodIn_of _ (by decide +kernel)) ggJ2_charAt_3b067_J2_checkIndex_2214a
set_option maxRecDepth 20000 in
theorem ggJ2_charAt_3b067_J2_getChar_3b067 : GoodIn wsJ2_charAt_3b067 wsJ2_getChar_3b067 := goodIn_r _ [19, 20, 21, 22, 5, 6, 3, 7] rfl (by decide +kernel)
set_option maxRecDepth 20000 in
theorem gJ2_charAt_3b067_J2_getChar_3b067 : GoodIn wsJ2_charAt_3b067 (va_wsS RJ2 71 yJ2_getChar_3b067 wsJ2_getChar_3b067) := goodIn_app (goodIn_of _ (by decide +kernel)) ggJ2_charAt_3b067_J2_getChar_3b067
theorem dJ2_charAt_3b067_0 : decode cJ2_charAt_3b067 0 = .ok (.iload_n 1, 1) := by decide +kernel
theorem dJ2_charAt_3b067_1 : decode cJ2_charAt_3b067 1 = .ok (.aload_n 0, 1) := by decide +kernel
theorem dJ2_charAt_3b067_2 : decode cJ2_charAt_3b067 2 = .ok (.invokestatic 67, 3) := by decide +kernel
theorem dJ2_charAt_3b067_5 : decode cJ2_charAt_3b067 5 = .ok (.aload_n 0, 1) := by decide +kernel
theorem dJ2_charAt_3b067_6 : decode cJ2_charAt_3b067 6 = .ok (.iload_n 1, 1) := by decide +kernel
theorem dJ2_charAt_3b067_7 : decode cJ2_charAt_3b067 7 = .ok (.invokestatic 71, 3) := by decide +kernel
theorem dJ2_charAt_3b067_10 : decode cJ2_charAt_3b067 10 = .ok (.ireturn, 1) := by decide +kernel
set_option maxRecDepth 20000 in
theorem ggJ2_checkIndex_2214a_J2_length_9d52b : GoodIn wsJ2_checkIndex_2214a wsJ2_length_9d52b := goodIn_r _ [4] rfl (by decide +kernel)
set_option maxRecDepth 20000 in
theorem gJ2_checkIndex_2214a_J2_length_9d52b : GoodIn wsJ2_checkIndex_2214a (va_wsS RJ2 48 yJ2_length_9d52b wsJ2_length_9d52b) := goodIn_app (goodIn_of _ (by decide +kernel)) ggJ2_checkIndex_2214a_J2_length_9d52b
set_option maxRecDepth 20000 in
theorem ggJ2_checkIndex_2214a_J0_checkIndex_df160 : GoodIn wsJ2_checkIndex_2214a wsJ0_checkIndex_df160 := goodIn_r _ [8, 9, 10, 11, 12, 13] rfl (by decide +kernel)
set_option maxRecDepth 20000 in
theorem gJ2_checkIndex_2214a_J0_checkIndex_df160 : GoodIn wsJ2_checkIndex_2214a (va_wsS RJ2 414 yJ0_checkIndex_df160 wsJ0_checkIndex_df160) := goodIn_app (goodIn_of _ (by decide +kernel)) ggJ2_checkIndex_2214a_J0_checkIndex_df160
theorem dJ2_checkIndex_2214a_0 : decode cJ2_checkIndex_2214a 0 = .ok (.iload_n 0, 1) := by decide +kernel
theorem dJ2_checkIndex_2214a_1 : decode cJ2_checkIndex_2214a 1 = .ok (.aload_n 1, 1) := by decide +kernel
theorem dJ2_checkIndex_2214a_2 : decode cJ2_checkIndex_2214a 2 = .ok (.invokestatic 48, 3) := by decide +kernel
theorem dJ2_checkIndex_2214a_5 : decode cJ2_checkIndex_2214a 5 = .ok (.invokestatic 414, 3) := by decide +kernel
theorem dJ2_checkIndex_2214a_8 : decode cJ2_checkIndex_2214a 8 = .ok (.return_, 1) := by decide +kernel
theorem dJ7_fill_d0a16_0 : decode cJ7_fill_d0a16 0 = .ok (.iconst 0, 1) := by decide +kernel
theorem dJ7_fill_d0a16_1 : decode cJ7_fill_d0a16 1 = .ok (.istore_n 3, 1) := by decide +kernel
theorem dJ7_fill_d0a16_2 : decode cJ7_fill_d0a16 2 = .ok (.aload_n 0, 1) := by decide +kernel
theorem dJ7_fill_d0a16_3 : decode cJ7_fill_d0a16 3 = .ok (.arraylength, 1) := by decide +kernel
theorem dJ7_fill_d0a16_4 : decode cJ7_fill_d0a16 4 = .ok (.istore 4, 2) := by decide +kernel
theorem dJ7_fill_d0a16_6 : decode cJ7_fill_d0a16 6 = .ok (.iload_n 3, 1) := by decide +kernel
theorem dJ7_fill_d0a16_7 : decode cJ7_fill_d0a16 7 = .ok (.iload 4, 2) := by decide +kernel
theorem dJ7_fill_d0a16_9 : decode cJ7_fill_d0a16 9 = .ok (.if_icmp .ge 13, 3) := by decide +kernel
theorem dJ7_fill_d0a16_12 : decode cJ7_fill_d0a16 12 = .ok (.aload_n 0, 1) := by decide +kernel
theorem dJ7_fill_d0a16_13 : decode cJ7_fill_d0a16 13 = .ok (.iload_n 3, 1) := by decide +kernel
theorem dJ7_fill_d0a16_14 : decode cJ7_fill_d0a16 14 = .ok (.lload_n 1, 1) := by decide +kernel
theorem dJ7_fill_d0a16_15 : decode cJ7_fill_d0a16 15 = .ok (.lastore, 1) := by decide +kernel
theorem dJ7_fill_d0a16_16 : decode cJ7_fill_d0a16 16 = .ok (.iinc 3 1, 3) := by decide +kernel
theorem dJ7_fill_d0a16_19 : decode cJ7_fill_d0a16 19 = .ok (.goto (-13), 3) := by decide +kernel
theorem dJ7_fill_d0a16_22 : decode cJ7_fill_d0a16 22 = .ok (.return_, 1) := by decide +kernel
theorem dJ7_fill_53178_0 : decode cJ7_fill_53178 0 = .ok (.iconst 0, 1) := by decide +kernel
theorem dJ7_fill_53178_1 : decode cJ7_fill_53178 1 = .ok (.istore_n 2, 1) := by decide +kernel
theorem dJ7_fill_53178_2 : decode cJ7_fill_53178 2 = .ok (.aload_n 0, 1) := by decide +kernel
theorem dJ7_fill_53178_3 : decode cJ7_fill_53178 3 = .ok (.arraylength, 1) := by decide +kernel
theorem dJ7_fill_53178_4 : decode cJ7_fill_53178 4 = .ok (.istore_n 3, 1) := by decide +kernel
theorem dJ7_fill_53178_5 : decode cJ7_fill_53178 5 = .ok (.iload_n 2, 1) := by decide +kernel
theorem dJ7_fill_53178_6 : decode cJ7_fill_53178 6 = .ok (.iload_n 3, 1) := by decide +kernel
theorem dJ7_fill_53178_7 : decode cJ7_fill_53178 7 = .ok (.if_icmp .ge 13, 3) := by decide +kernel
theorem dJ7_fill_53178_10 : decode cJ7_fill_53178 10 = .ok (.aload_n 0, 1) := by decide +kernel
theorem dJ7_fill_53178_11 : decode cJ7_fill_53178 11 = .ok (.iload_n 2, 1) := by decide +kernel
theorem dJ7_fill_53178_12 : decode cJ7_fill_53178 12 = .ok (.iload_n 1, 1) := by decide +kernel
theorem dJ7_fill_53178_13 : decode cJ7_fill_53178 13 = .ok (.iastore, 1) := by decide +kernel
theorem dJ7_fill_53178_14 : decode cJ7_fill_53178 14 = .ok (.iinc 2 1, 3) := by decide +kernel
theorem dJ7_fill_53178_17 : decode cJ7_fill_53178 17 = .ok (.goto (-12), 3) := by decide +kernel
theorem dJ7_fill_53178_20 : decode cJ7_fill_53178 20 = .ok (.return_, 1) := by decide +kernel
theorem dJ3_checkIndex_8e157_0 : decode cJ3_checkIndex_8e157 0 = .ok (.iload_n 0, 1) := by decide +kernel
theorem dJ3_checkIndex_8e157_1 : decode cJ3_checkIndex_8e157 1 = .ok (.ifCond .lt 8, 3) := by decide +kernel
theorem dJ3_checkIndex_8e157_4 : decode cJ3_checkIndex_8e157 4 = .ok (.iload_n 0, 1) := by decide +kernel
theorem dJ3_checkIndex_8e157_5 : decode cJ3_checkIndex_8e157 5 = .ok (.iload_n 1, 1) := by decide +kernel
theorem dJ3_checkIndex_8e157_6 : decode cJ3_checkIndex_8e157 6 = .ok (.if_icmp .lt 10, 3) := by decide +kernel
theorem dJ3_checkIndex_8e157_9 : decode cJ3_checkIndex_8e157 9 = .ok (.aload_n 2, 1) := by decide +kernel
theorem dJ3_checkIndex_8e157_10 : decode cJ3_checkIndex_8e157 10 = .ok (.iload_n 0, 1) := by decide +kernel
theorem dJ3_checkIndex_8e157_11 : decode cJ3_checkIndex_8e157 11 = .ok (.iload_n 1, 1) := by decide +kernel
theorem dJ3_checkIndex_8e157_12 : decode cJ3_checkIndex_8e157 12 = .ok (.invokestatic 95, 3) := by decide +kernel
theorem dJ3_checkIndex_8e157_15 : decode cJ3_checkIndex_8e157 15 = .ok (.athrow, 1) := by decide +kernel
theorem dJ3_checkIndex_8e157_16 : decode cJ3_checkIndex_8e157 16 = .ok (.iload_n 0, 1) := by decide +kernel
theorem dJ3_checkIndex_8e157_17 : decode cJ3_checkIndex_8e157 17 = .ok (.ireturn, 1) := by decide +kernel
abbrev vwCl : List vw_C := [(RX0, TX0, 1), (RX1, TX1, 9), (RX2, TX2, 5), (RX3, TX3, 4), (RX4, TX4, 2), (RX5, TX5, 3), (RX6, TX6, 7), (RX7, TX7, 3), (RX8, TX8, 9), (RX9, TX9, 6), (RX10, TX10, 9), (RX11, TX11, 15), (RX12, TX12, 37)]
