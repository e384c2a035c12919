theorem dX12_broughtTo_98 : decode cX12_broughtTo 98 = .ok (.if_icmp .ne 7, 3) := by decide +kernel
theorem dX12_broughtTo_101 : decode cX12_broughtTo 101 = .ok (.iconst 0, 1) := by decide +kernel
theorem dX12_broughtTo_102 : decode cX12_broughtTo 102 = .ok (.goto 15, 3) := by decide +kernel
theorem dX12_broughtTo_105 : decode cX12_broughtTo 105 = .ok (.iload_n 2, 1) := by decide +kernel
theorem dX12_broughtTo_106 : decode cX12_broughtTo 106 = .ok (.iload_n 3, 1) := by decide +kernel
theorem dX12_broughtTo_107 : decode cX12_broughtTo 107 = .ok (.if_icmp .ge 9, 3) := by decide +kernel
theorem dX12_broughtTo_110 : decode cX12_broughtTo 110 = .ok (.iload_n 2, 1) := by decide +kernel
theorem dX12_broughtTo_111 : decode cX12_broughtTo 111 = .ok (.iconst 1, 1) := by decide +kernel
theorem dX12_broughtTo_112 : decode cX12_broughtTo 112 = .ok (.iadd, 1) := by decide +kernel
theorem dX12_broughtTo_113 : decode cX12_broughtTo 113 = .ok (.goto 4, 3) := by decide +kernel
theorem dX12_broughtTo_116 : decode cX12_broughtTo 116 = .ok (.iload_n 2, 1) := by decide +kernel
theorem dX12_broughtTo_117 : decode cX12_broughtTo 117 = .ok (.ireturn, 1) := by decide +kernel
set_option maxRecDepth 20000 in
theorem ggX12_keepDraft_X12_broughtTo : GoodIn wsX12_keepDraft wsX12_broughtTo := goodIn_r _ [15, 16, 3, 17, 18, 19, 20, 21, 22, 23, 24, 25, 26, 27, 28, 29, 30, 31, 32, 33, 34, 35, 36, 37, 38, 39, 40, 41, 42, 43, 44, 45, 46, 47, 48, 49, 50, 51, 52, 53] rfl (by decide +kernel)
set_option maxRecDepth 20000 in
theorem gX12_keepDraft_X12_broughtTo : GoodIn wsX12_keepDraft (wsV RX12 106 RX12 yX12_broughtTo wsX12_broughtTo) := goodIn_app (goodIn_of _ (by decide +kernel)) ggX12_keepDraft_X12_broughtTo
theorem dX12_keepDraft_0 : decode cX12_keepDraft 0 = .ok (.iconst 0, 1) := by decide +kernel
theorem dX12_keepDraft_1 : decode cX12_keepDraft 1 = .ok (.istore_n 1, 1) := by decide +kernel
theorem dX12_keepDraft_2 : decode cX12_keepDraft 2 = .ok (.iload_n 1, 1) := by decide +kernel
theorem dX12_keepDraft_3 : decode cX12_keepDraft 3 = .ok (.bipush 38, 2) := by decide +kernel
theorem dX12_keepDraft_5 : decode cX12_keepDraft 5 = .ok (.if_icmp .ge 21, 3) := by decide +kernel
theorem dX12_keepDraft_8 : decode cX12_keepDraft 8 = .ok (.aload_n 0, 1) := by decide +kernel
theorem dX12_keepDraft_9 : decode cX12_keepDraft 9 = .ok (.getfield 7, 3) := by decide +kernel
theorem dX12_keepDraft_12 : decode cX12_keepDraft 12 = .ok (.iload_n 1, 1) := by decide +kernel
theorem dX12_keepDraft_13 : decode cX12_keepDraft 13 = .ok (.aload_n 0, 1) := by decide +kernel
theorem dX12_keepDraft_14 : decode cX12_keepDraft 14 = .ok (.getfield 23, 3) := by decide +kernel
theorem dX12_keepDraft_17 : decode cX12_keepDraft 17 = .ok (.iload_n 1, 1) := by decide +kernel
theorem dX12_keepDraft_18 : decode cX12_keepDraft 18 = .ok (.iaload, 1) := by decide +kernel
theorem dX12_keepDraft_19 : decode cX12_keepDraft 19 = .ok (.iastore, 1) := by decide +kernel
theorem dX12_keepDraft_20 : decode cX12_keepDraft 20 = .ok (.iinc 1 1, 3) := by decide +kernel
theorem dX12_keepDraft_23 : decode cX12_keepDraft 23 = .ok (.goto (-21), 3) := by decide +kernel
theorem dX12_keepDraft_26 : decode cX12_keepDraft 26 = .ok (.aload_n 0, 1) := by decide +kernel
theorem dX12_keepDraft_27 : decode cX12_keepDraft 27 = .ok (.aload_n 0, 1) := by decide +kernel
theorem dX12_keepDraft_28 : decode cX12_keepDraft 28 = .ok (.getfield 87, 3) := by decide +kernel
theorem dX12_keepDraft_31 : decode cX12_keepDraft 31 = .ok (.putfield 100, 3) := by decide +kernel
theorem dX12_keepDraft_34 : decode cX12_keepDraft 34 = .ok (.aload_n 0, 1) := by decide +kernel
theorem dX12_keepDraft_35 : decode cX12_keepDraft 35 = .ok (.aload_n 0, 1) := by decide +kernel
theorem dX12_keepDraft_36 : decode cX12_keepDraft 36 = .ok (.getfield 91, 3) := by decide +kernel
theorem dX12_keepDraft_39 : decode cX12_keepDraft 39 = .ok (.putfield 103, 3) := by decide +kernel
theorem dX12_keepDraft_42 : decode cX12_keepDraft 42 = .ok (.iconst 0, 1) := by decide +kernel
theorem dX12_keepDraft_43 : decode cX12_keepDraft 43 = .ok (.istore_n 1, 1) := by decide +kernel
theorem dX12_keepDraft_44 : decode cX12_keepDraft 44 = .ok (.iload_n 1, 1) := by decide +kernel
theorem dX12_keepDraft_45 : decode cX12_keepDraft 45 = .ok (.bipush 7, 2) := by decide +kernel
theorem dX12_keepDraft_47 : decode cX12_keepDraft 47 = .ok (.if_icmp .ge 21, 3) := by decide +kernel
theorem dX12_keepDraft_50 : decode cX12_keepDraft 50 = .ok (.aload_n 0, 1) := by decide +kernel
theorem dX12_keepDraft_51 : decode cX12_keepDraft 51 = .ok (.getfield 20, 3) := by decide +kernel
theorem dX12_keepDraft_54 : decode cX12_keepDraft 54 = .ok (.iload_n 1, 1) := by decide +kernel
theorem dX12_keepDraft_55 : decode cX12_keepDraft 55 = .ok (.aload_n 0, 1) := by decide +kernel
theorem dX12_keepDraft_56 : decode cX12_keepDraft 56 = .ok (.getfield 29, 3) := by decide +kernel
theorem dX12_keepDraft_59 : decode cX12_keepDraft 59 = .ok (.iload_n 1, 1) := by decide +kernel
theorem dX12_keepDraft_60 : decode cX12_keepDraft 60 = .ok (.iaload, 1) := by decide +kernel
theorem dX12_keepDraft_61 : decode cX12_keepDraft 61 = .ok (.iastore, 1) := by decide +kernel
theorem dX12_keepDraft_62 : decode cX12_keepDraft 62 = .ok (.iinc 1 1, 3) := by decide +kernel
theorem dX12_keepDraft_65 : decode cX12_keepDraft 65 = .ok (.goto (-21), 3) := by decide +kernel
theorem dX12_keepDraft_68 : decode cX12_keepDraft 68 = .ok (.iconst 0, 1) := by decide +kernel
theorem dX12_keepDraft_69 : decode cX12_keepDraft 69 = .ok (.istore_n 1, 1) := by decide +kernel
theorem dX12_keepDraft_70 : decode cX12_keepDraft 70 = .ok (.iload_n 1, 1) := by decide +kernel
theorem dX12_keepDraft_71 : decode cX12_keepDraft 71 = .ok (.aload_n 0, 1) := by decide +kernel
theorem dX12_keepDraft_72 : decode cX12_keepDraft 72 = .ok (.getfield 103, 3) := by decide +kernel
theorem dX12_keepDraft_75 : decode cX12_keepDraft 75 = .ok (.if_icmp .ge 42, 3) := by decide +kernel
theorem dX12_keepDraft_78 : decode cX12_keepDraft 78 = .ok (.iconst 0, 1) := by decide +kernel
theorem dX12_keepDraft_79 : decode cX12_keepDraft 79 = .ok (.istore_n 2, 1) := by decide +kernel
theorem dX12_keepDraft_80 : decode cX12_keepDraft 80 = .ok (.iload_n 2, 1) := by decide +kernel
theorem dX12_keepDraft_81 : decode cX12_keepDraft 81 = .ok (.aload_n 0, 1) := by decide +kernel
theorem dX12_keepDraft_82 : decode cX12_keepDraft 82 = .ok (.getfield 100, 3) := by decide +kernel
theorem dX12_keepDraft_85 : decode cX12_keepDraft 85 = .ok (.if_icmp .ge 26, 3) := by decide +kernel
theorem dX12_keepDraft_88 : decode cX12_keepDraft 88 = .ok (.aload_n 0, 1) := by decide +kernel
theorem dX12_keepDraft_89 : decode cX12_keepDraft 89 = .ok (.getfield 17, 3) := by decide +kernel
theorem dX12_keepDraft_92 : decode cX12_keepDraft 92 = .ok (.bipush 7, 2) := by decide +kernel
theorem dX12_keepDraft_94 : decode cX12_keepDraft 94 = .ok (.iload_n 1, 1) := by decide +kernel
theorem dX12_keepDraft_95 : decode cX12_keepDraft 95 = .ok (.imul, 1) := by decide +kernel
theorem dX12_keepDraft_96 : decode cX12_keepDraft 96 = .ok (.iload_n 2, 1) := by decide +kernel
theorem dX12_keepDraft_97 : decode cX12_keepDraft 97 = .ok (.iadd, 1) := by decide +kernel
theorem dX12_keepDraft_98 : decode cX12_keepDraft 98 = .ok (.aload_n 0, 1) := by decide +kernel
theorem dX12_keepDraft_99 : decode cX12_keepDraft 99 = .ok (.iload_n 1, 1) := by decide +kernel
theorem dX12_keepDraft_100 : decode cX12_keepDraft 100 = .ok (.iload_n 2, 1) := by decide +kernel
theorem dX12_keepDraft_101 : decode cX12_keepDraft 101 = .ok (.invokevirtual 106, 3) := by decide +kernel
theorem dX12_keepDraft_104 : decode cX12_keepDraft 104 = .ok (.iastore, 1) := by decide +kernel
theorem dX12_keepDraft_105 : decode cX12_keepDraft 105 = .ok (.iinc 2 1, 3) := by decide +kernel
theorem dX12_keepDraft_108 : decode cX12_keepDraft 108 = .ok (.goto (-28), 3) := by decide +kernel
theorem dX12_keepDraft_111 : decode cX12_keepDraft 111 = .ok (.iinc 1 1, 3) := by decide +kernel
theorem dX12_keepDraft_114 : decode cX12_keepDraft 114 = .ok (.goto (-44), 3) := by decide +kernel
theorem dX12_keepDraft_117 : decode cX12_keepDraft 117 = .ok (.aload_n 0, 1) := by decide +kernel
theorem dX12_keepDraft_118 : decode cX12_keepDraft 118 = .ok (.getfield 13, 3) := by decide +kernel
theorem dX12_keepDraft_121 : decode cX12_keepDraft 121 = .ok (.iconst 0, 1) := by decide +kernel
theorem dX12_keepDraft_122 : decode cX12_keepDraft 122 = .ok (.iconst 0, 1) := by decide +kernel
theorem dX12_keepDraft_123 : decode cX12_keepDraft 123 = .ok (.bastore, 1) := by decide +kernel
theorem dX12_keepDraft_124 : decode cX12_keepDraft 124 = .ok (.aload_n 0, 1) := by decide +kernel
theorem dX12_keepDraft_125 : decode cX12_keepDraft 125 = .ok (.getfield 13, 3) := by decide +kernel
theorem dX12_keepDraft_128 : decode cX12_keepDraft 128 = .ok (.iconst 1, 1) := by decide +kernel
theorem dX12_keepDraft_129 : decode cX12_keepDraft 129 = .ok (.iconst 0, 1) := by decide +kernel
theorem dX12_keepDraft_130 : decode cX12_keepDraft 130 = .ok (.bastore, 1) := by decide +kernel
theorem dX12_keepDraft_131 : decode cX12_keepDraft 131 = .ok (.return_, 1) := by decide +kernel
theorem dX12_feed_0 : decode cX12_feed 0 = .ok (.aload_n 0, 1) := by decide +kernel
theorem dX12_feed_1 : decode cX12_feed 1 = .ok (.getfield 110, 3) := by decide +kernel
theorem dX12_feed_4 : decode cX12_feed 4 = .ok (.bipush 8, 2) := by decide +kernel
theorem dX12_feed_6 : decode cX12_feed 6 = .ok (.iadd, 1) := by decide +kernel
theorem dX12_feed_7 : decode cX12_feed 7 = .ok (.sipush 320, 3) := by decide +kernel
theorem dX12_feed_10 : decode cX12_feed 10 = .ok (.if_icmp .le 6, 3) := by decide +kernel
theorem dX12_feed_13 : decode cX12_feed 13 = .ok (.bipush (-3), 2) := by decide +kernel
theorem dX12_feed_15 : decode cX12_feed 15 = .ok (.ireturn, 1) := by decide +kernel
theorem dX12_feed_16 : decode cX12_feed 16 = .ok (.bipush 56, 2) := by decide +kernel
theorem dX12_feed_18 : decode cX12_feed 18 = .ok (.istore_n 3, 1) := by decide +kernel
theorem dX12_feed_19 : decode cX12_feed 19 = .ok (.iload_n 3, 1) := by decide +kernel
theorem dX12_feed_20 : decode cX12_feed 20 = .ok (.ifCond .lt 36, 3) := by decide +kernel
theorem dX12_feed_23 : decode cX12_feed 23 = .ok (.aload_n 0, 1) := by decide +kernel
theorem dX12_feed_24 : decode cX12_feed 24 = .ok (.getfield 32, 3) := by decide +kernel
theorem dX12_feed_27 : decode cX12_feed 27 = .ok (.aload_n 0, 1) := by decide +kernel
theorem dX12_feed_28 : decode cX12_feed 28 = .ok (.getfield 110, 3) := by decide +kernel
theorem dX12_feed_31 : decode cX12_feed 31 = .ok (.lload_n 1, 1) := by decide +kernel
theorem dX12_feed_32 : decode cX12_feed 32 = .ok (.iload_n 3, 1) := by decide +kernel
theorem dX12_feed_33 : decode cX12_feed 33 = .ok (.lshr, 1) := by decide +kernel
theorem dX12_feed_34 : decode cX12_feed 34 = .ok (.ldc2_w 113, 3) := by decide +kernel
theorem dX12_feed_37 : decode cX12_feed 37 = .ok (.land, 1) := by decide +kernel
theorem dX12_feed_38 : decode cX12_feed 38 = .ok (.l2i, 1) := by decide +kernel
theorem dX12_feed_39 : decode cX12_feed 39 = .ok (.iastore, 1) := by decide +kernel
theorem dX12_feed_40 : decode cX12_feed 40 = .ok (.aload_n 0, 1) := by decide +kernel
theorem dX12_feed_41 : decode cX12_feed 41 = .ok (.dup, 1) := by decide +kernel
theorem dX12_feed_42 : decode cX12_feed 42 = .ok (.getfield 110, 3) := by decide +kernel
theorem dX12_feed_45 : decode cX12_feed 45 = .ok (.iconst 1, 1) := by decide +kernel
theorem dX12_feed_46 : decode cX12_feed 46 = .ok (.iadd, 1) := by decide +kernel
theorem dX12_feed_47 : decode cX12_feed 47 = .ok (.putfield 110, 3) := by decide +kernel
theorem dX12_feed_50 : decode cX12_feed 50 = .ok (.iinc 3 (-8), 3) := by decide +kernel
theorem dX12_feed_53 : decode cX12_feed 53 = .ok (.goto (-34), 3) := by decide +kernel
theorem dX12_feed_56 : decode cX12_feed 56 = .ok (.aload_n 0, 1) := by decide +kernel
theorem dX12_feed_57 : decode cX12_feed 57 = .ok (.getfield 110, 3) := by decide +kernel
theorem dX12_feed_60 : decode cX12_feed 60 = .ok (.ireturn, 1) := by decide +kernel
set_option maxRecDepth 20000 in
theorem ggX12_end_X12_in : GoodIn wsX12_end wsX12_in := goodIn_r _ [5] rfl (by decide +kernel)
set_option maxRecDepth 20000 in
theorem gX12_end_X12_in : GoodIn wsX12_end (va_wsS RX12 115 yX12_in wsX12_in) := goodIn_app (goodIn_of _ (by decide +kernel)) ggX12_end_X12_in
theorem dX12_end_0 : decode cX12_end 0 = .ok (.iload_n 1, 1) := by decide +kernel
theorem dX12_end_1 : decode cX12_end 1 = .ok (.i2l, 1) := by decide +kernel
theorem dX12_end_2 : decode cX12_end 2 = .ok (.lconst 0, 1) := by decide +kernel
theorem dX12_end_3 : decode cX12_end 3 = .ok (.aload_n 0, 1) := by decide +kernel
theorem dX12_end_4 : decode cX12_end 4 = .ok (.getfield 110, 3) := by decide +kernel
theorem dX12_end_7 : decode cX12_end 7 = .ok (.i2l, 1) := by decide +kernel
theorem dX12_end_8 : decode cX12_end 8 = .ok (.invokestatic 115, 3) := by decide +kernel
theorem dX12_end_11 : decode cX12_end 11 = .ok (.ifCond .ne 5, 3) := by decide +kernel
theorem dX12_end_14 : decode cX12_end 14 = .ok (.iconst (-1), 1) := by decide +kernel
theorem dX12_end_15 : decode cX12_end 15 = .ok (.ireturn, 1) := by decide +kernel
theorem dX12_end_16 : decode cX12_end 16 = .ok (.aload_n 0, 1) := by decide +kernel
theorem dX12_end_17 : decode cX12_end 17 = .ok (.getfield 110, 3) := by decide +kernel
theorem dX12_end_20 : decode cX12_end 20 = .ok (.istore_n 2, 1) := by decide +kernel
theorem dX12_end_21 : decode cX12_end 21 = .ok (.aload_n 0, 1) := by decide +kernel
theorem dX12_end_22 : decode cX12_end 22 = .ok (.iload_n 1, 1) := by decide +kernel
theorem dX12_end_23 : decode cX12_end 23 = .ok (.putfield 110, 3) := by decide +kernel
theorem dX12_end_26 : decode cX12_end 26 = .ok (.iload_n 2, 1) := by decide +kernel
theorem dX12_end_27 : decode cX12_end 27 = .ok (.ireturn, 1) := by decide +kernel
theorem dX12_needs_0 : decode cX12_needs 0 = .ok (.iload_n 1, 1) := by decide +kernel
theorem dX12_needs_1 : decode cX12_needs 1 = .ok (.ifCond .ne 23, 3) := by decide +kernel
theorem dX12_needs_4 : decode cX12_needs 4 = .ok (.aload_n 0, 1) := by decide +kernel
theorem dX12_needs_5 : decode cX12_needs 5 = .ok (.getfield 119, 3) := by decide +kernel
theorem dX12_needs_8 : decode cX12_needs 8 = .ok (.ifCond .ne 16, 3) := by decide +kernel
theorem dX12_needs_11 : decode cX12_needs 11 = .ok (.aload_n 0, 1) := by decide +kernel
theorem dX12_needs_12 : decode cX12_needs 12 = .ok (.iload_n 2, 1) := by decide +kernel
theorem dX12_needs_13 : decode cX12_needs 13 = .ok (.putfield 119, 3) := by decide +kernel
theorem dX12_needs_16 : decode cX12_needs 16 = .ok (.aload_n 0, 1) := by decide +kernel
theorem dX12_needs_17 : decode cX12_needs 17 = .ok (.aload_n 0, 1) := by decide +kernel
theorem dX12_needs_18 : decode cX12_needs 18 = .ok (.getfield 122, 3) := by decide +kernel
theorem dX12_needs_21 : decode cX12_needs 21 = .ok (.putfield 125, 3) := by decide +kernel
theorem dX12_needs_24 : decode cX12_needs 24 = .ok (.return_, 1) := by decide +kernel
theorem dX12_look_0 : decode cX12_look 0 = .ok (.iload_n 1, 1) := by decide +kernel
theorem dX12_look_1 : decode cX12_look 1 = .ok (.aload_n 0, 1) := by decide +kernel
theorem dX12_look_2 : decode cX12_look 2 = .ok (.getfield 110, 3) := by decide +kernel
theorem dX12_look_5 : decode cX12_look 5 = .ok (.if_icmp .ge 12, 3) := by decide +kernel
theorem dX12_look_8 : decode cX12_look 8 = .ok (.aload_n 0, 1) := by decide +kernel
theorem dX12_look_9 : decode cX12_look 9 = .ok (.getfield 32, 3) := by decide +kernel
theorem dX12_look_12 : decode cX12_look 12 = .ok (.iload_n 1, 1) := by decide +kernel
theorem dX12_look_13 : decode cX12_look 13 = .ok (.iaload, 1) := by decide +kernel
theorem dX12_look_14 : decode cX12_look 14 = .ok (.goto 4, 3) := by decide +kernel
theorem dX12_look_17 : decode cX12_look 17 = .ok (.iconst (-1), 1) := by decide +kernel
theorem dX12_look_18 : decode cX12_look 18 = .ok (.ireturn, 1) := by decide +kernel
set_option maxRecDepth 20000 in
theorem ggX12_is_X12_look : GoodIn wsX12_is wsX12_look := goodIn_r _ [7, 8, 9, 10, 11, 12, 13, 14, 15, 16, 17, 18, 19, 20, 21, 22, 23, 24, 25, 26, 27, 28, 29, 30, 31, 32, 33, 34, 35, 36, 37, 38, 39, 40, 41, 42, 43, 44, 45, 46] rfl (by decide +kernel)
set_option maxRecDepth 20000 in
theorem gX12_is_X12_look : GoodIn wsX12_is (wsV RX12 131 RX12 yX12_look wsX12_look) := goodIn_app (goodIn_of _ (by decide +kernel)) ggX12_is_X12_look
theorem dX12_is_0 : decode cX12_is 0 = .ok (.aload_n 0, 1) := by decide +kernel
theorem dX12_is_1 : decode cX12_is 1 = .ok (.getfield 128, 3) := by decide +kernel
theorem dX12_is_4 : decode cX12_is 4 = .ok (.aload_n 0, 1) := by decide +kernel
theorem dX12_is_5 : decode cX12_is 5 = .ok (.getfield 122, 3) := by decide +kernel
theorem dX12_is_8 : decode cX12_is 8 = .ok (.isub, 1) := by decide +kernel
theorem dX12_is_9 : decode cX12_is 9 = .ok (.iload_n 1, 1) := by decide +kernel
theorem dX12_is_10 : decode cX12_is 10 = .ok (.if_icmp .ne 48, 3) := by decide +kernel
theorem dX12_is_13 : decode cX12_is 13 = .ok (.aload_n 0, 1) := by decide +kernel
theorem dX12_is_14 : decode cX12_is 14 = .ok (.aload_n 0, 1) := by decide +kernel
theorem dX12_is_15 : decode cX12_is 15 = .ok (.getfield 122, 3) := by decide +kernel
theorem dX12_is_18 : decode cX12_is 18 = .ok (.invokevirtual 131, 3) := by decide +kernel
theorem dX12_is_21 : decode cX12_is 21 = .ok (.iload_n 2, 1) := by decide +kernel
theorem dX12_is_22 : decode cX12_is 22 = .ok (.if_icmp .ne 36, 3) := by decide +kernel
theorem dX12_is_25 : decode cX12_is 25 = .ok (.aload_n 0, 1) := by decide +kernel
theorem dX12_is_26 : decode cX12_is 26 = .ok (.aload_n 0, 1) := by decide +kernel
theorem dX12_is_27 : decode cX12_is 27 = .ok (.getfield 122, 3) := by decide +kernel
theorem dX12_is_30 : decode cX12_is 30 = .ok (.iconst 1, 1) := by decide +kernel
theorem dX12_is_31 : decode cX12_is 31 = .ok (.iadd, 1) := by decide +kernel
theorem dX12_is_32 : decode cX12_is 32 = .ok (.invokevirtual 131, 3) := by decide +kernel
theorem dX12_is_35 : decode cX12_is 35 = .ok (.iload_n 3, 1) := by decide +kernel
theorem dX12_is_36 : decode cX12_is 36 = .ok (.if_icmp .ne 22, 3) := by decide +kernel
theorem dX12_is_39 : decode cX12_is 39 = .ok (.aload_n 0, 1) := by decide +kernel
theorem dX12_is_40 : decode cX12_is 40 = .ok (.aload_n 0, 1) := by decide +kernel
theorem dX12_is_41 : decode cX12_is 41 = .ok (.getfield 122, 3) := by decide +kernel
theorem dX12_is_44 : decode cX12_is 44 = .ok (.iconst 2, 1) := by decide +kernel
theorem dX12_is_45 : decode cX12_is 45 = .ok (.iadd, 1) := by decide +kernel
theorem dX12_is_46 : decode cX12_is 46 = .ok (.invokevirtual 131, 3) := by decide +kernel
theorem dX12_is_49 : decode cX12_is 49 = .ok (.iload 4, 2) := by decide +kernel
theorem dX12_is_51 : decode cX12_is 51 = .ok (.if_icmp .ne 7, 3) := by decide +kernel
theorem dX12_is_54 : decode cX12_is 54 = .ok (.iconst 1, 1) := by decide +kernel
theorem dX12_is_55 : decode cX12_is 55 = .ok (.goto 4, 3) := by decide +kernel
theorem dX12_is_58 : decode cX12_is 58 = .ok (.iconst 0, 1) := by decide +kernel
theorem dX12_is_59 : decode cX12_is 59 = .ok (.ireturn, 1) := by decide +kernel
set_option maxRecDepth 20000 in
theorem ggX12_ends_X12_look : GoodIn wsX12_ends wsX12_look := goodIn_r _ [6, 7, 8, 9, 10, 11, 12, 13, 14, 15, 16, 17, 18, 19, 20, 21, 22, 23, 24, 25, 26, 27, 28, 29, 30, 31, 32, 33, 34, 35, 36, 37, 38, 39, 40, 41, 42, 43, 44, 45] rfl (by decide +kernel)
set_option maxRecDepth 20000 in
theorem gX12_ends_X12_look : GoodIn wsX12_ends (wsV RX12 131 RX12 yX12_look wsX12_look) := goodIn_app (goodIn_of _ (by decide +kernel)) ggX12_ends_X12_look
theorem dX12_ends_0 : decode cX12_ends 0 = .ok (.aload_n 0, 1) := by decide +kernel
theorem dX12_ends_1 : decode cX12_ends 1 = .ok (.aload_n 0, 1) := by decide +kernel
theorem dX12_ends_2 : decode cX12_ends 2 = .ok (.getfield 122, 3) := by decide +kernel
theorem dX12_ends_5 : decode cX12_ends 5 = .ok (.iconst 3, 1) := by decide +kernel
theorem dX12_ends_6 : decode cX12_ends 6 = .ok (.iadd, 1) := by decide +kernel
theorem dX12_ends_7 : decode cX12_ends 7 = .ok (.invokevirtual 131, 3) := by decide +kernel
theorem dX12_ends_10 : decode cX12_ends 10 = .ok (.iload_n 1, 1) := by decide +kernel
theorem dX12_ends_11 : decode cX12_ends 11 = .ok (.if_icmp .ne 43, 3) := by decide +kernel
theorem dX12_ends_14 : decode cX12_ends 14 = .ok (.iload_n 2, 1) := by decide +kernel
theorem dX12_ends_15 : decode cX12_ends 15 = .ok (.ifCond .eq 17, 3) := by decide +kernel
theorem dX12_ends_18 : decode cX12_ends 18 = .ok (.aload_n 0, 1) := by decide +kernel
theorem dX12_ends_19 : decode cX12_ends 19 = .ok (.aload_n 0, 1) := by decide +kernel
theorem dX12_ends_20 : decode cX12_ends 20 = .ok (.getfield 122, 3) := by decide +kernel
theorem dX12_ends_23 : decode cX12_ends 23 = .ok (.iconst 4, 1) := by decide +kernel
theorem dX12_ends_24 : decode cX12_ends 24 = .ok (.iadd, 1) := by decide +kernel
theorem dX12_ends_25 : decode cX12_ends 25 = .ok (.invokevirtual 131, 3) := by decide +kernel
theorem dX12_ends_28 : decode cX12_ends 28 = .ok (.iload_n 2, 1) := by decide +kernel
theorem dX12_ends_29 : decode cX12_ends 29 = .ok (.if_icmp .ne 25, 3) := by decide +kernel
theorem dX12_ends_32 : decode cX12_ends 32 = .ok (.iload_n 3, 1) := by decide +kernel
theorem dX12_ends_33 : decode cX12_ends 33 = .ok (.ifCond .eq 17, 3) := by decide +kernel
theorem dX12_ends_36 : decode cX12_ends 36 = .ok (.aload_n 0, 1) := by decide +kernel
theorem dX12_ends_37 : decode cX12_ends 37 = .ok (.aload_n 0, 1) := by decide +kernel
theorem dX12_ends_38 : decode cX12_ends 38 = .ok (.getfield 122, 3) := by decide +kernel
theorem dX12_ends_41 : decode cX12_ends 41 = .ok (.iconst 5, 1) := by decide +kernel
theorem dX12_ends_42 : decode cX12_ends 42 = .ok (.iadd, 1) := by decide +kernel
theorem dX12_ends_43 : decode cX12_ends 43 = .ok (.invokevirtual 131, 3) := by decide +kernel
theorem dX12_ends_46 : decode cX12_ends 46 = .ok (.iload_n 3, 1) := by decide +kernel
theorem dX12_ends_47 : decode cX12_ends 47 = .ok (.if_icmp .ne 7, 3) := by decide +kernel
theorem dX12_ends_50 : decode cX12_ends 50 = .ok (.iconst 1, 1) := by decide +kernel
theorem dX12_ends_51 : decode cX12_ends 51 = .ok (.goto 4, 3) := by decide +kernel
theorem dX12_ends_54 : decode cX12_ends 54 = .ok (.iconst 0, 1) := by decide +kernel
theorem dX12_ends_55 : decode cX12_ends 55 = .ok (.ireturn, 1) := by decide +kernel
set_option maxRecDepth 20000 in
theorem ggX12_stirNow_X12_is : GoodIn wsX12_stirNow wsX12_is := goodIn_r _ [5, 6, 7, 8, 9, 10, 4, 11, 12, 13, 18, 19, 20, 21, 22, 23, 24, 25, 26, 27, 28, 29, 30, 31, 32, 33, 34, 35, 36, 37, 38, 39, 40, 41, 42, 43, 44, 45, 46, 47, 48, 49, 50, 51, 52, 53, 54] rfl (by decide +kernel)
set_option maxRecDepth 20000 in
theorem gX12_stirNow_X12_is : GoodIn wsX12_stirNow (wsV RX12 135 RX12 yX12_is wsX12_is) := goodIn_app (goodIn_of _ (by decide +kernel)) ggX12_stirNow_X12_is
set_option maxRecDepth 20000 in
theorem ggX12_stirNow_X12_ends : GoodIn wsX12_stirNow wsX12_ends := goodIn_r _ [17, 7, 8, 9, 10, 4, 11, 12, 13, 18, 19, 20, 21, 22, 23, 24, 25, 26, 27, 28, 29, 30, 31, 32, 33, 34, 35, 36, 37, 38, 39, 40, 41, 42, 43, 44, 45, 46, 47, 48, 49, 50, 51, 52, 53, 54] rfl (by decide +kernel)
set_option maxRecDepth 20000 in
theorem gX12_stirNow_X12_ends : GoodIn wsX12_stirNow (wsV RX12 139 RX12 yX12_ends wsX12_ends) := goodIn_app (goodIn_of _ (by decide +kernel)) ggX12_stirNow_X12_ends
theorem dX12_stirNow_0 : decode cX12_stirNow 0 = .ok (.aload_n 0, 1) := by decide +kernel
theorem dX12_stirNow_1 : decode cX12_stirNow 1 = .ok (.iconst 4, 1) := by decide +kernel
theorem dX12_stirNow_2 : decode cX12_stirNow 2 = .ok (.bipush 116, 2) := by decide +kernel
theorem dX12_stirNow_4 : decode cX12_stirNow 4 = .ok (.bipush 117, 2) := by decide +kernel
theorem dX12_stirNow_6 : decode cX12_stirNow 6 = .ok (.bipush 114, 2) := by decide +kernel
theorem dX12_stirNow_8 : decode cX12_stirNow 8 = .ok (.invokevirtual 135, 3) := by decide +kernel
theorem dX12_stirNow_11 : decode cX12_stirNow 11 = .ok (.ifCond .eq 16, 3) := by decide +kernel
theorem dX12_stirNow_14 : decode cX12_stirNow 14 = .ok (.aload_n 0, 1) := by decide +kernel
theorem dX12_stirNow_15 : decode cX12_stirNow 15 = .ok (.bipush 110, 2) := by decide +kernel
theorem dX12_stirNow_17 : decode cX12_stirNow 17 = .ok (.iconst 0, 1) := by decide +kernel
theorem dX12_stirNow_18 : decode cX12_stirNow 18 = .ok (.iconst 0, 1) := by decide +kernel
theorem dX12_stirNow_19 : decode cX12_stirNow 19 = .ok (.invokevirtual 139, 3) := by decide +kernel
theorem dX12_stirNow_22 : decode cX12_stirNow 22 = .ok (.ifCond .eq 5, 3) := by decide +kernel
theorem dX12_stirNow_25 : decode cX12_stirNow 25 = .ok (.iconst 0, 1) := by decide +kernel
theorem dX12_stirNow_26 : decode cX12_stirNow 26 = .ok (.ireturn, 1) := by decide +kernel
theorem dX12_stirNow_27 : decode cX12_stirNow 27 = .ok (.aload_n 0, 1) := by decide +kernel
theorem dX12_stirNow_28 : decode cX12_stirNow 28 = .ok (.iconst 4, 1) := by decide +kernel
theorem dX12_stirNow_29 : decode cX12_stirNow 29 = .ok (.bipush 102, 2) := by decide +kernel
theorem dX12_stirNow_31 : decode cX12_stirNow 31 = .ok (.bipush 108, 2) := by decide +kernel
theorem dX12_stirNow_33 : decode cX12_stirNow 33 = .ok (.bipush 105, 2) := by decide +kernel
theorem dX12_stirNow_35 : decode cX12_stirNow 35 = .ok (.invokevirtual 135, 3) := by decide +kernel
theorem dX12_stirNow_38 : decode cX12_stirNow 38 = .ok (.ifCond .eq 16, 3) := by decide +kernel
theorem dX12_stirNow_41 : decode cX12_stirNow 41 = .ok (.aload_n 0, 1) := by decide +kernel
theorem dX12_stirNow_42 : decode cX12_stirNow 42 = .ok (.bipush 112, 2) := by decide +kernel
theorem dX12_stirNow_44 : decode cX12_stirNow 44 = .ok (.iconst 0, 1) := by decide +kernel
theorem dX12_stirNow_45 : decode cX12_stirNow 45 = .ok (.iconst 0, 1) := by decide +kernel
theorem dX12_stirNow_46 : decode cX12_stirNow 46 = .ok (.invokevirtual 139, 3) := by decide +kernel
theorem dX12_stirNow_49 : decode cX12_stirNow 49 = .ok (.ifCond .eq 5, 3) := by decide +kernel
theorem dX12_stirNow_52 : decode cX12_stirNow 52 = .ok (.iconst 1, 1) := by decide +kernel
theorem dX12_stirNow_53 : decode cX12_stirNow 53 = .ok (.ireturn, 1) := by decide +kernel
theorem dX12_stirNow_54 : decode cX12_stirNow 54 = .ok (.aload_n 0, 1) := by decide +kernel
theorem dX12_stirNow_55 : decode cX12_stirNow 55 = .ok (.iconst 4, 1) := by decide +kernel
theorem dX12_stirNow_56 : decode cX12_stirNow 56 = .ok (.bipush 115, 2) := by decide +kernel
theorem dX12_stirNow_58 : decode cX12_stirNow 58 = .ok (.bipush 119, 2) := by decide +kernel
theorem dX12_stirNow_60 : decode cX12_stirNow 60 = .ok (.bipush 97, 2) := by decide +kernel
theorem dX12_stirNow_62 : decode cX12_stirNow 62 = .ok (.invokevirtual 135, 3) := by decide +kernel
theorem dX12_stirNow_65 : decode cX12_stirNow 65 = .ok (.ifCond .eq 16, 3) := by decide +kernel
theorem dX12_stirNow_68 : decode cX12_stirNow 68 = .ok (.aload_n 0, 1) := by decide +kernel
theorem dX12_stirNow_69 : decode cX12_stirNow 69 = .ok (.bipush 112, 2) := by decide +kernel
theorem dX12_stirNow_71 : decode cX12_stirNow 71 = .ok (.iconst 0, 1) := by decide +kernel
theorem dX12_stirNow_72 : decode cX12_stirNow 72 = .ok (.iconst 0, 1) := by decide +kernel
theorem dX12_stirNow_73 : decode cX12_stirNow 73 = .ok (.invokevirtual 139, 3) := by decide +kernel
theorem dX12_stirNow_76 : decode cX12_stirNow 76 = .ok (.ifCond .eq 5, 3) := by decide +kernel
theorem dX12_stirNow_79 : decode cX12_stirNow 79 = .ok (.iconst 2, 1) := by decide +kernel
theorem dX12_stirNow_80 : decode cX12_stirNow 80 = .ok (.ireturn, 1) := by decide +kernel
theorem dX12_stirNow_81 : decode cX12_stirNow 81 = .ok (.aload_n 0, 1) := by decide +kernel
theorem dX12_stirNow_82 : decode cX12_stirNow 82 = .ok (.iconst 4, 1) := by decide +kernel
theorem dX12_stirNow_83 : decode cX12_stirNow 83 = .ok (.bipush 108, 2) := by decide +kernel
theorem dX12_stirNow_85 : decode cX12_stirNow 85 = .ok (.bipush 105, 2) := by decide +kernel
theorem dX12_stirNow_87 : decode cX12_stirNow 87 = .ok (.bipush 102, 2) := by decide +kernel
theorem dX12_stirNow_89 : decode cX12_stirNow 89 = .ok (.invokevirtual 135, 3) := by decide +kernel
theorem dX12_stirNow_92 : decode cX12_stirNow 92 = .ok (.ifCond .eq 18, 3) := by decide +kernel
theorem dX12_stirNow_95 : decode cX12_stirNow 95 = .ok (.aload_n 0, 1) := by decide +kernel
theorem dX12_stirNow_96 : decode cX12_stirNow 96 = .ok (.bipush 116, 2) := by decide +kernel
theorem dX12_stirNow_98 : decode cX12_stirNow 98 = .ok (.iconst 0, 1) := by decide +kernel
theorem dX12_stirNow_99 : decode cX12_stirNow 99 = .ok (.iconst 0, 1) := by decide +kernel
theorem dX12_stirNow_100 : decode cX12_stirNow 100 = .ok (.invokevirtual 139, 3) := by decide +kernel
theorem dX12_stirNow_103 : decode cX12_stirNow 103 = .ok (.ifCond .eq 7, 3) := by decide +kernel
theorem dX12_stirNow_106 : decode cX12_stirNow 106 = .ok (.iconst 3, 1) := by decide +kernel
theorem dX12_stirNow_107 : decode cX12_stirNow 107 = .ok (.goto 5, 3) := by decide +kernel
theorem dX12_stirNow_110 : decode cX12_stirNow 110 = .ok (.bipush (-4), 2) := by decide +kernel
theorem dX12_stirNow_112 : decode cX12_stirNow 112 = .ok (.ireturn, 1) := by decide +kernel
set_option maxRecDepth 20000 in
theorem ggX12_lineNow_X12_is : GoodIn wsX12_lineNow wsX12_is := goodIn_r _ [5, 6, 7, 8, 9, 10, 4, 11, 12, 13, 22, 23, 24, 25, 26, 27, 28, 29, 30, 31, 32, 33, 34, 35, 36, 37, 38, 39, 40, 41, 42, 43, 44, 45, 46, 47, 48, 49, 50, 51, 52, 53, 54, 55, 56, 57, 58] rfl (by decide +kernel)
set_option maxRecDepth 20000 in
theorem gX12_lineNow_X12_is : GoodIn wsX12_lineNow (wsV RX12 135 RX12 yX12_is wsX12_is) := goodIn_app (goodIn_of _ (by decide +kernel)) ggX12_lineNow_X12_is
set_option maxRecDepth 20000 in
theorem ggX12_lineNow_X12_ends : GoodIn wsX12_lineNow wsX12_ends := goodIn_r _ [17, 7, 8, 9, 10, 4, 11, 12, 13, 22, 23, 24, 25, 26, 27, 28, 29, 30, 31, 32, 33, 34, 35, 36, 37, 38, 39, 40, 41, 42, 43, 44, 45, 46, 47, 48, 49, 50, 51, 52, 53, 54, 55, 56, 57, 58] rfl (by decide +kernel)
set_option maxRecDepth 20000 in
theorem gX12_lineNow_X12_ends : GoodIn wsX12_lineNow (wsV RX12 139 RX12 yX12_ends wsX12_ends) := goodIn_app (goodIn_of _ (by decide +kernel)) ggX12_lineNow_X12_ends
set_option maxRecDepth 20000 in
theorem ggX12_lineNow_X12_stirNow : GoodIn wsX12_lineNow wsX12_stirNow := goodIn_r _ [21, 1, 2, 3, 4, 5, 6, 7, 8, 9, 10, 11, 12, 13, 14, 15, 16, 17, 22, 23, 24, 25, 26, 27, 28, 29, 30, 31, 32, 33, 34, 35, 36, 37, 38, 39, 40, 41, 42, 43, 44, 45, 46, 47, 48, 49, 50, 51, 52, 53, 54, 55, 56, 57, 58] rfl (by decide +kernel)
set_option maxRecDepth 20000 in
theorem gX12_lineNow_X12_stirNow : GoodIn wsX12_lineNow (wsV RX12 143 RX12 yX12_stirNow wsX12_stirNow) := goodIn_app (goodIn_of _ (by decide +kernel)) ggX12_lineNow_X12_stirNow
theorem dX12_lineNow_0 : decode cX12_lineNow 0 = .ok (.aload_n 0, 1) := by decide +kernel
theorem dX12_lineNow_1 : decode cX12_lineNow 1 = .ok (.iconst 5, 1) := by decide +kernel
theorem dX12_lineNow_2 : decode cX12_lineNow 2 = .ok (.bipush 115, 2) := by decide +kernel
theorem dX12_lineNow_4 : decode cX12_lineNow 4 = .ok (.bipush 101, 2) := by decide +kernel
theorem dX12_lineNow_6 : decode cX12_lineNow 6 = .ok (.bipush 97, 2) := by decide +kernel
theorem dX12_lineNow_8 : decode cX12_lineNow 8 = .ok (.invokevirtual 135, 3) := by decide +kernel
theorem dX12_lineNow_11 : decode cX12_lineNow 11 = .ok (.ifCond .eq 17, 3) := by decide +kernel
theorem dX12_lineNow_14 : decode cX12_lineNow 14 = .ok (.aload_n 0, 1) := by decide +kernel
theorem dX12_lineNow_15 : decode cX12_lineNow 15 = .ok (.bipush 116, 2) := by decide +kernel
theorem dX12_lineNow_17 : decode cX12_lineNow 17 = .ok (.bipush 115, 2) := by decide +kernel
theorem dX12_lineNow_19 : decode cX12_lineNow 19 = .ok (.iconst 0, 1) := by decide +kernel
theorem dX12_lineNow_20 : decode cX12_lineNow 20 = .ok (.invokevirtual 139, 3) := by decide +kernel
theorem dX12_lineNow_23 : decode cX12_lineNow 23 = .ok (.ifCond .eq 5, 3) := by decide +kernel
theorem dX12_lineNow_26 : decode cX12_lineNow 26 = .ok (.iconst 4, 1) := by decide +kernel
theorem dX12_lineNow_27 : decode cX12_lineNow 27 = .ok (.ireturn, 1) := by decide +kernel
theorem dX12_lineNow_28 : decode cX12_lineNow 28 = .ok (.aload_n 0, 1) := by decide +kernel
theorem dX12_lineNow_29 : decode cX12_lineNow 29 = .ok (.iconst 3, 1) := by decide +kernel
theorem dX12_lineNow_30 : decode cX12_lineNow 30 = .ok (.bipush 112, 2) := by decide +kernel
theorem dX12_lineNow_32 : decode cX12_lineNow 32 = .ok (.bipush 111, 2) := by decide +kernel
theorem dX12_lineNow_34 : decode cX12_lineNow 34 = .ok (.bipush 116, 2) := by decide +kernel
theorem dX12_lineNow_36 : decode cX12_lineNow 36 = .ok (.invokevirtual 135, 3) := by decide +kernel
theorem dX12_lineNow_39 : decode cX12_lineNow 39 = .ok (.ifCond .eq 5, 3) := by decide +kernel
theorem dX12_lineNow_42 : decode cX12_lineNow 42 = .ok (.iconst 5, 1) := by decide +kernel
theorem dX12_lineNow_43 : decode cX12_lineNow 43 = .ok (.ireturn, 1) := by decide +kernel
theorem dX12_lineNow_44 : decode cX12_lineNow 44 = .ok (.aload_n 0, 1) := by decide +kernel
theorem dX12_lineNow_45 : decode cX12_lineNow 45 = .ok (.iconst 4, 1) := by decide +kernel
theorem dX12_lineNow_46 : decode cX12_lineNow 46 = .ok (.bipush 98, 2) := by decide +kernel
theorem dX12_lineNow_48 : decode cX12_lineNow 48 = .ok (.bipush 111, 2) := by decide +kernel
theorem dX12_lineNow_50 : decode cX12_lineNow 50 = .ok (.bipush 110, 2) := by decide +kernel
theorem dX12_lineNow_52 : decode cX12_lineNow 52 = .ok (.invokevirtual 135, 3) := by decide +kernel
theorem dX12_lineNow_55 : decode cX12_lineNow 55 = .ok (.ifCond .eq 17, 3) := by decide +kernel
theorem dX12_lineNow_58 : decode cX12_lineNow 58 = .ok (.aload_n 0, 1) := by decide +kernel
theorem dX12_lineNow_59 : decode cX12_lineNow 59 = .ok (.bipush 101, 2) := by decide +kernel
theorem dX12_lineNow_61 : decode cX12_lineNow 61 = .ok (.iconst 0, 1) := by decide +kernel
theorem dX12_lineNow_62 : decode cX12_lineNow 62 = .ok (.iconst 0, 1) := by decide +kernel
theorem dX12_lineNow_63 : decode cX12_lineNow 63 = .ok (.invokevirtual 139, 3) := by decide +kernel
theorem dX12_lineNow_66 : decode cX12_lineNow 66 = .ok (.ifCond .eq 6, 3) := by decide +kernel
theorem dX12_lineNow_69 : decode cX12_lineNow 69 = .ok (.bipush 6, 2) := by decide +kernel
theorem dX12_lineNow_71 : decode cX12_lineNow 71 = .ok (.ireturn, 1) := by decide +kernel
theorem dX12_lineNow_72 : decode cX12_lineNow 72 = .ok (.aload_n 0, 1) := by decide +kernel
theorem dX12_lineNow_73 : decode cX12_lineNow 73 = .ok (.iconst 4, 1) := by decide +kernel
theorem dX12_lineNow_74 : decode cX12_lineNow 74 = .ok (.bipush 107, 2) := by decide +kernel
theorem dX12_lineNow_76 : decode cX12_lineNow 76 = .ok (.bipush 105, 2) := by decide +kernel
theorem dX12_lineNow_78 : decode cX12_lineNow 78 = .ok (.bipush 110, 2) := by decide +kernel
theorem dX12_lineNow_80 : decode cX12_lineNow 80 = .ok (.invokevirtual 135, 3) := by decide +kernel
theorem dX12_lineNow_83 : decode cX12_lineNow 83 = .ok (.ifCond .eq 17, 3) := by decide +kernel
theorem dX12_lineNow_86 : decode cX12_lineNow 86 = .ok (.aload_n 0, 1) := by decide +kernel
theorem dX12_lineNow_87 : decode cX12_lineNow 87 = .ok (.bipush 103, 2) := by decide +kernel
theorem dX12_lineNow_89 : decode cX12_lineNow 89 = .ok (.iconst 0, 1) := by decide +kernel
theorem dX12_lineNow_90 : decode cX12_lineNow 90 = .ok (.iconst 0, 1) := by decide +kernel
theorem dX12_lineNow_91 : decode cX12_lineNow 91 = .ok (.invokevirtual 139, 3) := by decide +kernel
theorem dX12_lineNow_94 : decode cX12_lineNow 94 = .ok (.ifCond .eq 6, 3) := by decide +kernel
theorem dX12_lineNow_97 : decode cX12_lineNow 97 = .ok (.bipush 7, 2) := by decide +kernel
theorem dX12_lineNow_99 : decode cX12_lineNow 99 = .ok (.ireturn, 1) := by decide +kernel
theorem dX12_lineNow_100 : decode cX12_lineNow 100 = .ok (.aload_n 0, 1) := by decide +kernel
theorem dX12_lineNow_101 : decode cX12_lineNow 101 = .ok (.bipush 6, 2) := by decide +kernel
theorem dX12_lineNow_103 : decode cX12_lineNow 103 = .ok (.bipush 102, 2) := by decide +kernel
theorem dX12_lineNow_105 : decode cX12_lineNow 105 = .ok (.bipush 114, 2) := by decide +kernel
theorem dX12_lineNow_107 : decode cX12_lineNow 107 = .ok (.bipush 105, 2) := by decide +kernel
theorem dX12_lineNow_109 : decode cX12_lineNow 109 = .ok (.invokevirtual 135, 3) := by decide +kernel
theorem dX12_lineNow_112 : decode cX12_lineNow 112 = .ok (.ifCond .eq 19, 3) := by decide +kernel
theorem dX12_lineNow_115 : decode cX12_lineNow 115 = .ok (.aload_n 0, 1) := by decide +kernel
theorem dX12_lineNow_116 : decode cX12_lineNow 116 = .ok (.bipush 101, 2) := by decide +kernel
theorem dX12_lineNow_118 : decode cX12_lineNow 118 = .ok (.bipush 110, 2) := by decide +kernel
theorem dX12_lineNow_120 : decode cX12_lineNow 120 = .ok (.bipush 100, 2) := by decide +kernel
theorem dX12_lineNow_122 : decode cX12_lineNow 122 = .ok (.invokevirtual 139, 3) := by decide +kernel
theorem dX12_lineNow_125 : decode cX12_lineNow 125 = .ok (.ifCond .eq 6, 3) := by decide +kernel
theorem dX12_lineNow_128 : decode cX12_lineNow 128 = .ok (.bipush 8, 2) := by decide +kernel
theorem dX12_lineNow_130 : decode cX12_lineNow 130 = .ok (.ireturn, 1) := by decide +kernel
theorem dX12_lineNow_131 : decode cX12_lineNow 131 = .ok (.aload_n 0, 1) := by decide +kernel
theorem dX12_lineNow_132 : decode cX12_lineNow 132 = .ok (.bipush 6, 2) := by decide +kernel
theorem dX12_lineNow_134 : decode cX12_lineNow 134 = .ok (.bipush 115, 2) := by decide +kernel
theorem dX12_lineNow_136 : decode cX12_lineNow 136 = .ok (.bipush 112, 2) := by decide +kernel
theorem dX12_lineNow_138 : decode cX12_lineNow 138 = .ok (.bipush 111, 2) := by decide +kernel
theorem dX12_lineNow_140 : decode cX12_lineNow 140 = .ok (.invokevirtual 135, 3) := by decide +kernel
theorem dX12_lineNow_143 : decode cX12_lineNow 143 = .ok (.ifCond .eq 19, 3) := by decide +kernel
theorem dX12_lineNow_146 : decode cX12_lineNow 146 = .ok (.aload_n 0, 1) := by decide +kernel
theorem dX12_lineNow_147 : decode cX12_lineNow 147 = .ok (.bipush 111, 2) := by decide +kernel
theorem dX12_lineNow_149 : decode cX12_lineNow 149 = .ok (.bipush 110, 2) := by decide +kernel
theorem dX12_lineNow_151 : decode cX12_lineNow 151 = .ok (.bipush 115, 2) := by decide +kernel
theorem dX12_lineNow_153 : decode cX12_lineNow 153 = .ok (.invokevirtual 139, 3) := by decide +kernel
theorem dX12_lineNow_156 : decode cX12_lineNow 156 = .ok (.ifCond .eq 6, 3) := by decide +kernel
theorem dX12_lineNow_159 : decode cX12_lineNow 159 = .ok (.bipush 9, 2) := by decide +kernel
theorem dX12_lineNow_161 : decode cX12_lineNow 161 = .ok (.ireturn, 1) := by decide +kernel
theorem dX12_lineNow_162 : decode cX12_lineNow 162 = .ok (.aload_n 0, 1) := by decide +kernel
theorem dX12_lineNow_163 : decode cX12_lineNow 163 = .ok (.iconst 4, 1) := by decide +kernel
theorem dX12_lineNow_164 : decode cX12_lineNow 164 = .ok (.bipush 110, 2) := by decide +kernel
theorem dX12_lineNow_166 : decode cX12_lineNow 166 = .ok (.bipush 101, 2) := by decide +kernel
theorem dX12_lineNow_168 : decode cX12_lineNow 168 = .ok (.bipush 101, 2) := by decide +kernel
theorem dX12_lineNow_170 : decode cX12_lineNow 170 = .ok (.invokevirtual 135, 3) := by decide +kernel
theorem dX12_lineNow_173 : decode cX12_lineNow 173 = .ok (.ifCond .eq 19, 3) := by decide +kernel
theorem dX12_lineNow_176 : decode cX12_lineNow 176 = .ok (.aload_n 0, 1) := by decide +kernel
theorem dX12_lineNow_177 : decode cX12_lineNow 177 = .ok (.bipush 100, 2) := by decide +kernel
theorem dX12_lineNow_179 : decode cX12_lineNow 179 = .ok (.iconst 0, 1) := by decide +kernel
theorem dX12_lineNow_180 : decode cX12_lineNow 180 = .ok (.iconst 0, 1) := by decide +kernel
theorem dX12_lineNow_181 : decode cX12_lineNow 181 = .ok (.invokevirtual 139, 3) := by decide +kernel
theorem dX12_lineNow_184 : decode cX12_lineNow 184 = .ok (.ifCond .eq 8, 3) := by decide +kernel
theorem dX12_lineNow_187 : decode cX12_lineNow 187 = .ok (.bipush 10, 2) := by decide +kernel
theorem dX12_lineNow_189 : decode cX12_lineNow 189 = .ok (.goto 7, 3) := by decide +kernel
theorem dX12_lineNow_192 : decode cX12_lineNow 192 = .ok (.aload_n 0, 1) := by decide +kernel
theorem dX12_lineNow_193 : decode cX12_lineNow 193 = .ok (.invokevirtual 143, 3) := by decide +kernel
theorem dX12_lineNow_196 : decode cX12_lineNow 196 = .ok (.ireturn, 1) := by decide +kernel
set_option maxRecDepth 20000 in
theorem ggX12_nextToken_X12_look : GoodIn wsX12_nextToken wsX12_look := goodIn_r _ [14, 15, 16, 25, 26, 27, 28, 29, 30, 31, 32, 33, 34, 35, 36, 37, 38, 39, 40, 41, 42, 43, 44, 45, 46, 47, 48, 49, 50, 51, 52, 53, 54, 55, 56, 57, 58, 59, 60, 61] rfl (by decide +kernel)
set_option maxRecDepth 20000 in
theorem gX12_nextToken_X12_look : GoodIn wsX12_nextToken (wsV RX12 131 RX12 yX12_look wsX12_look) := goodIn_app (goodIn_of _ (by decide +kernel)) ggX12_nextToken_X12_look
set_option maxRecDepth 20000 in
theorem ggX12_nextToken_X12_in : GoodIn wsX12_nextToken wsX12_in := goodIn_r _ [19] rfl (by decide +kernel)
set_option maxRecDepth 20000 in
theorem gX12_nextToken_X12_in : GoodIn wsX12_nextToken (va_wsS RX12 115 yX12_in wsX12_in) := goodIn_app (goodIn_of _ (by decide +kernel)) ggX12_nextToken_X12_in
set_option maxRecDepth 20000 in
theorem ggX12_nextToken_X12_needs : GoodIn wsX12_nextToken wsX12_needs := goodIn_r _ [23, 1, 3, 24, 25, 26, 27, 28, 29, 30, 31, 32, 33, 34, 35, 36, 37, 38, 39, 40, 41, 42, 43, 44, 45, 46, 47, 48, 49, 50, 51, 52, 53, 54, 55, 56, 57, 58, 59, 60, 61] rfl (by decide +kernel)
set_option maxRecDepth 20000 in
theorem gX12_nextToken_X12_needs : GoodIn wsX12_nextToken (wsV RX12 161 RX12 yX12_needs wsX12_needs) := goodIn_app (goodIn_of _ (by decide +kernel)) ggX12_nextToken_X12_needs
theorem dX12_nextToken_0 : decode cX12_nextToken 0 = .ok (.aload_n 0, 1) := by decide +kernel
theorem dX12_nextToken_1 : decode cX12_nextToken 1 = .ok (.getfield 119, 3) := by decide +kernel
theorem dX12_nextToken_4 : decode cX12_nextToken 4 = .ok (.ifCond .le 4, 3) := by decide +kernel
theorem dX12_nextToken_7 : decode cX12_nextToken 7 = .ok (.return_, 1) := by decide +kernel
theorem dX12_nextToken_8 : decode cX12_nextToken 8 = .ok (.aload_n 0, 1) := by decide +kernel
theorem dX12_nextToken_9 : decode cX12_nextToken 9 = .ok (.aload_n 0, 1) := by decide +kernel
theorem dX12_nextToken_10 : decode cX12_nextToken 10 = .ok (.getfield 128, 3) := by decide +kernel
theorem dX12_nextToken_13 : decode cX12_nextToken 13 = .ok (.invokevirtual 131, 3) := by decide +kernel
theorem dX12_nextToken_16 : decode cX12_nextToken 16 = .ok (.bipush 32, 2) := by decide +kernel
theorem dX12_nextToken_18 : decode cX12_nextToken 18 = .ok (.if_icmp .ne 16, 3) := by decide +kernel
theorem dX12_nextToken_21 : decode cX12_nextToken 21 = .ok (.aload_n 0, 1) := by decide +kernel
theorem dX12_nextToken_22 : decode cX12_nextToken 22 = .ok (.dup, 1) := by decide +kernel
theorem dX12_nextToken_23 : decode cX12_nextToken 23 = .ok (.getfield 128, 3) := by decide +kernel
theorem dX12_nextToken_26 : decode cX12_nextToken 26 = .ok (.iconst 1, 1) := by decide +kernel
theorem dX12_nextToken_27 : decode cX12_nextToken 27 = .ok (.iadd, 1) := by decide +kernel
theorem dX12_nextToken_28 : decode cX12_nextToken 28 = .ok (.putfield 128, 3) := by decide +kernel
theorem dX12_nextToken_31 : decode cX12_nextToken 31 = .ok (.goto (-23), 3) := by decide +kernel
theorem dX12_nextToken_34 : decode cX12_nextToken 34 = .ok (.aload_n 0, 1) := by decide +kernel
theorem dX12_nextToken_35 : decode cX12_nextToken 35 = .ok (.aload_n 0, 1) := by decide +kernel
theorem dX12_nextToken_36 : decode cX12_nextToken 36 = .ok (.getfield 128, 3) := by decide +kernel
theorem dX12_nextToken_39 : decode cX12_nextToken 39 = .ok (.putfield 122, 3) := by decide +kernel
theorem dX12_nextToken_42 : decode cX12_nextToken 42 = .ok (.aload_n 0, 1) := by decide +kernel
theorem dX12_nextToken_43 : decode cX12_nextToken 43 = .ok (.aload_n 0, 1) := by decide +kernel
theorem dX12_nextToken_44 : decode cX12_nextToken 44 = .ok (.getfield 128, 3) := by decide +kernel
theorem dX12_nextToken_47 : decode cX12_nextToken 47 = .ok (.invokevirtual 131, 3) := by decide +kernel
theorem dX12_nextToken_50 : decode cX12_nextToken 50 = .ok (.istore_n 1, 1) := by decide +kernel
theorem dX12_nextToken_51 : decode cX12_nextToken 51 = .ok (.iload_n 1, 1) := by decide +kernel
theorem dX12_nextToken_52 : decode cX12_nextToken 52 = .ok (.ifCond .ge 11, 3) := by decide +kernel
theorem dX12_nextToken_55 : decode cX12_nextToken 55 = .ok (.aload_n 0, 1) := by decide +kernel
theorem dX12_nextToken_56 : decode cX12_nextToken 56 = .ok (.iconst 0, 1) := by decide +kernel
theorem dX12_nextToken_57 : decode cX12_nextToken 57 = .ok (.putfield 147, 3) := by decide +kernel
theorem dX12_nextToken_60 : decode cX12_nextToken 60 = .ok (.goto 214, 3) := by decide +kernel
theorem dX12_nextToken_63 : decode cX12_nextToken 63 = .ok (.iload_n 1, 1) := by decide +kernel
theorem dX12_nextToken_64 : decode cX12_nextToken 64 = .ok (.i2l, 1) := by decide +kernel
theorem dX12_nextToken_65 : decode cX12_nextToken 65 = .ok (.ldc2_w 150, 3) := by decide +kernel
theorem dX12_nextToken_68 : decode cX12_nextToken 68 = .ok (.ldc2_w 152, 3) := by decide +kernel
theorem dX12_nextToken_71 : decode cX12_nextToken 71 = .ok (.invokestatic 115, 3) := by decide +kernel
theorem dX12_nextToken_74 : decode cX12_nextToken 74 = .ok (.ifCond .eq 42, 3) := by decide +kernel
theorem dX12_nextToken_77 : decode cX12_nextToken 77 = .ok (.aload_n 0, 1) := by decide +kernel
theorem dX12_nextToken_78 : decode cX12_nextToken 78 = .ok (.iconst 1, 1) := by decide +kernel
theorem dX12_nextToken_79 : decode cX12_nextToken 79 = .ok (.putfield 147, 3) := by decide +kernel
theorem dX12_nextToken_82 : decode cX12_nextToken 82 = .ok (.aload_n 0, 1) := by decide +kernel
theorem dX12_nextToken_83 : decode cX12_nextToken 83 = .ok (.aload_n 0, 1) := by decide +kernel
theorem dX12_nextToken_84 : decode cX12_nextToken 84 = .ok (.getfield 128, 3) := by decide +kernel
theorem dX12_nextToken_87 : decode cX12_nextToken 87 = .ok (.invokevirtual 131, 3) := by decide +kernel
theorem dX12_nextToken_90 : decode cX12_nextToken 90 = .ok (.i2l, 1) := by decide +kernel
theorem dX12_nextToken_91 : decode cX12_nextToken 91 = .ok (.ldc2_w 150, 3) := by decide +kernel
theorem dX12_nextToken_94 : decode cX12_nextToken 94 = .ok (.ldc2_w 152, 3) := by decide +kernel
theorem dX12_nextToken_97 : decode cX12_nextToken 97 = .ok (.invokestatic 115, 3) := by decide +kernel
theorem dX12_nextToken_100 : decode cX12_nextToken 100 = .ok (.ifCond .eq 174, 3) := by decide +kernel
theorem dX12_nextToken_103 : decode cX12_nextToken 103 = .ok (.aload_n 0, 1) := by decide +kernel
theorem dX12_nextToken_104 : decode cX12_nextToken 104 = .ok (.dup, 1) := by decide +kernel
theorem dX12_nextToken_105 : decode cX12_nextToken 105 = .ok (.getfield 128, 3) := by decide +kernel
theorem dX12_nextToken_108 : decode cX12_nextToken 108 = .ok (.iconst 1, 1) := by decide +kernel
theorem dX12_nextToken_109 : decode cX12_nextToken 109 = .ok (.iadd, 1) := by decide +kernel
theorem dX12_nextToken_110 : decode cX12_nextToken 110 = .ok (.putfield 128, 3) := by decide +kernel
theorem dX12_nextToken_113 : decode cX12_nextToken 113 = .ok (.goto (-31), 3) := by decide +kernel
theorem dX12_nextToken_116 : decode cX12_nextToken 116 = .ok (.iload_n 1, 1) := by decide +kernel
theorem dX12_nextToken_117 : decode cX12_nextToken 117 = .ok (.i2l, 1) := by decide +kernel
theorem dX12_nextToken_118 : decode cX12_nextToken 118 = .ok (.ldc2_w 154, 3) := by decide +kernel
theorem dX12_nextToken_121 : decode cX12_nextToken 121 = .ok (.ldc2_w 156, 3) := by decide +kernel
theorem dX12_nextToken_124 : decode cX12_nextToken 124 = .ok (.invokestatic 115, 3) := by decide +kernel
theorem dX12_nextToken_127 : decode cX12_nextToken 127 = .ok (.ifCond .eq 116, 3) := by decide +kernel
theorem dX12_nextToken_130 : decode cX12_nextToken 130 = .ok (.aload_n 0, 1) := by decide +kernel
theorem dX12_nextToken_131 : decode cX12_nextToken 131 = .ok (.iconst 2, 1) := by decide +kernel
theorem dX12_nextToken_132 : decode cX12_nextToken 132 = .ok (.putfield 147, 3) := by decide +kernel
theorem dX12_nextToken_135 : decode cX12_nextToken 135 = .ok (.aload_n 0, 1) := by decide +kernel
theorem dX12_nextToken_136 : decode cX12_nextToken 136 = .ok (.iconst 0, 1) := by decide +kernel
theorem dX12_nextToken_137 : decode cX12_nextToken 137 = .ok (.putfield 158, 3) := by decide +kernel
theorem dX12_nextToken_140 : decode cX12_nextToken 140 = .ok (.aload_n 0, 1) := by decide +kernel
theorem dX12_nextToken_141 : decode cX12_nextToken 141 = .ok (.aload_n 0, 1) := by decide +kernel
theorem dX12_nextToken_142 : decode cX12_nextToken 142 = .ok (.getfield 128, 3) := by decide +kernel
theorem dX12_nextToken_145 : decode cX12_nextToken 145 = .ok (.invokevirtual 131, 3) := by decide +kernel
theorem dX12_nextToken_148 : decode cX12_nextToken 148 = .ok (.i2l, 1) := by decide +kernel
theorem dX12_nextToken_149 : decode cX12_nextToken 149 = .ok (.ldc2_w 154, 3) := by decide +kernel
theorem dX12_nextToken_152 : decode cX12_nextToken 152 = .ok (.ldc2_w 156, 3) := by decide +kernel
theorem dX12_nextToken_155 : decode cX12_nextToken 155 = .ok (.invokestatic 115, 3) := by decide +kernel
theorem dX12_nextToken_158 : decode cX12_nextToken 158 = .ok (.ifCond .eq 59, 3) := by decide +kernel
theorem dX12_nextToken_161 : decode cX12_nextToken 161 = .ok (.aload_n 0, 1) := by decide +kernel
theorem dX12_nextToken_162 : decode cX12_nextToken 162 = .ok (.aload_n 0, 1) := by decide +kernel
theorem dX12_nextToken_163 : decode cX12_nextToken 163 = .ok (.getfield 128, 3) := by decide +kernel
theorem dX12_nextToken_166 : decode cX12_nextToken 166 = .ok (.aload_n 0, 1) := by decide +kernel
theorem dX12_nextToken_167 : decode cX12_nextToken 167 = .ok (.getfield 122, 3) := by decide +kernel
theorem dX12_nextToken_170 : decode cX12_nextToken 170 = .ok (.isub, 1) := by decide +kernel
theorem dX12_nextToken_171 : decode cX12_nextToken 171 = .ok (.iconst 2, 1) := by decide +kernel
theorem dX12_nextToken_172 : decode cX12_nextToken 172 = .ok (.if_icmp .ge 25, 3) := by decide +kernel
theorem dX12_nextToken_175 : decode cX12_nextToken 175 = .ok (.bipush 10, 2) := by decide +kernel
theorem dX12_nextToken_177 : decode cX12_nextToken 177 = .ok (.aload_n 0, 1) := by decide +kernel
theorem dX12_nextToken_178 : decode cX12_nextToken 178 = .ok (.getfield 158, 3) := by decide +kernel
theorem dX12_nextToken_181 : decode cX12_nextToken 181 = .ok (.imul, 1) := by decide +kernel
theorem dX12_nextToken_182 : decode cX12_nextToken 182 = .ok (.aload_n 0, 1) := by decide +kernel
theorem dX12_nextToken_183 : decode cX12_nextToken 183 = .ok (.aload_n 0, 1) := by decide +kernel
theorem dX12_nextToken_184 : decode cX12_nextToken 184 = .ok (.getfield 128, 3) := by decide +kernel
theorem dX12_nextToken_187 : decode cX12_nextToken 187 = .ok (.invokevirtual 131, 3) := by decide +kernel
theorem dX12_nextToken_190 : decode cX12_nextToken 190 = .ok (.iadd, 1) := by decide +kernel
theorem dX12_nextToken_191 : decode cX12_nextToken 191 = .ok (.bipush 48, 2) := by decide +kernel
theorem dX12_nextToken_193 : decode cX12_nextToken 193 = .ok (.isub, 1) := by decide +kernel
theorem dX12_nextToken_194 : decode cX12_nextToken 194 = .ok (.goto 7, 3) := by decide +kernel
theorem dX12_nextToken_197 : decode cX12_nextToken 197 = .ok (.aload_n 0, 1) := by decide +kernel
theorem dX12_nextToken_198 : decode cX12_nextToken 198 = .ok (.getfield 158, 3) := by decide +kernel
theorem dX12_nextToken_201 : decode cX12_nextToken 201 = .ok (.putfield 158, 3) := by decide +kernel
theorem dX12_nextToken_204 : decode cX12_nextToken 204 = .ok (.aload_n 0, 1) := by decide +kernel
theorem dX12_nextToken_205 : decode cX12_nextToken 205 = .ok (.dup, 1) := by decide +kernel
theorem dX12_nextToken_206 : decode cX12_nextToken 206 = .ok (.getfield 128, 3) := by decide +kernel
theorem dX12_nextToken_209 : decode cX12_nextToken 209 = .ok (.iconst 1, 1) := by decide +kernel
theorem dX12_nextToken_210 : decode cX12_nextToken 210 = .ok (.iadd, 1) := by decide +kernel
theorem dX12_nextToken_211 : decode cX12_nextToken 211 = .ok (.putfield 128, 3) := by decide +kernel
theorem dX12_nextToken_214 : decode cX12_nextToken 214 = .ok (.goto (-74), 3) := by decide +kernel
theorem dX12_nextToken_217 : decode cX12_nextToken 217 = .ok (.aload_n 0, 1) := by decide +kernel
theorem dX12_nextToken_218 : decode cX12_nextToken 218 = .ok (.aload_n 0, 1) := by decide +kernel
theorem dX12_nextToken_219 : decode cX12_nextToken 219 = .ok (.getfield 128, 3) := by decide +kernel
theorem dX12_nextToken_222 : decode cX12_nextToken 222 = .ok (.aload_n 0, 1) := by decide +kernel
theorem dX12_nextToken_223 : decode cX12_nextToken 223 = .ok (.getfield 122, 3) := by decide +kernel
theorem dX12_nextToken_226 : decode cX12_nextToken 226 = .ok (.isub, 1) := by decide +kernel
theorem dX12_nextToken_227 : decode cX12_nextToken 227 = .ok (.iconst 2, 1) := by decide +kernel
theorem dX12_nextToken_228 : decode cX12_nextToken 228 = .ok (.if_icmp .gt 7, 3) := by decide +kernel
theorem dX12_nextToken_231 : decode cX12_nextToken 231 = .ok (.iconst 1, 1) := by decide +kernel
theorem dX12_nextToken_232 : decode cX12_nextToken 232 = .ok (.goto 4, 3) := by decide +kernel
theorem dX12_nextToken_235 : decode cX12_nextToken 235 = .ok (.iconst 0, 1) := by decide +kernel
theorem dX12_nextToken_236 : decode cX12_nextToken 236 = .ok (.iconst 1, 1) := by decide +kernel
theorem dX12_nextToken_237 : decode cX12_nextToken 237 = .ok (.invokevirtual 161, 3) := by decide +kernel
theorem dX12_nextToken_240 : decode cX12_nextToken 240 = .ok (.goto 34, 3) := by decide +kernel
theorem dX12_nextToken_243 : decode cX12_nextToken 243 = .ok (.aload_n 0, 1) := by decide +kernel
theorem dX12_nextToken_244 : decode cX12_nextToken 244 = .ok (.iconst 3, 1) := by decide +kernel
theorem dX12_nextToken_245 : decode cX12_nextToken 245 = .ok (.putfield 147, 3) := by decide +kernel
theorem dX12_nextToken_248 : decode cX12_nextToken 248 = .ok (.aload_n 0, 1) := by decide +kernel
theorem dX12_nextToken_249 : decode cX12_nextToken 249 = .ok (.iload_n 1, 1) := by decide +kernel
theorem dX12_nextToken_250 : decode cX12_nextToken 250 = .ok (.bipush 59, 2) := by decide +kernel
theorem dX12_nextToken_252 : decode cX12_nextToken 252 = .ok (.if_icmp .ne 7, 3) := by decide +kernel
theorem dX12_nextToken_255 : decode cX12_nextToken 255 = .ok (.iconst 1, 1) := by decide +kernel
theorem dX12_nextToken_256 : decode cX12_nextToken 256 = .ok (.goto 4, 3) := by decide +kernel
theorem dX12_nextToken_259 : decode cX12_nextToken 259 = .ok (.iconst 0, 1) := by decide +kernel
theorem dX12_nextToken_260 : decode cX12_nextToken 260 = .ok (.iconst 1, 1) := by decide +kernel
theorem dX12_nextToken_261 : decode cX12_nextToken 261 = .ok (.invokevirtual 161, 3) := by decide +kernel
theorem dX12_nextToken_264 : decode cX12_nextToken 264 = .ok (.aload_n 0, 1) := by decide +kernel
theorem dX12_nextToken_265 : decode cX12_nextToken 265 = .ok (.dup, 1) := by decide +kernel
theorem dX12_nextToken_266 : decode cX12_nextToken 266 = .ok (.getfield 128, 3) := by decide +kernel
theorem dX12_nextToken_269 : decode cX12_nextToken 269 = .ok (.iconst 1, 1) := by decide +kernel
theorem dX12_nextToken_270 : decode cX12_nextToken 270 = .ok (.iadd, 1) := by decide +kernel
theorem dX12_nextToken_271 : decode cX12_nextToken 271 = .ok (.putfield 128, 3) := by decide +kernel
theorem dX12_nextToken_274 : decode cX12_nextToken 274 = .ok (.return_, 1) := by decide +kernel
set_option maxRecDepth 20000 in
theorem ggX12_looked_X12_needs : GoodIn wsX12_looked wsX12_needs := goodIn_r _ [8, 1, 9, 10, 14, 15, 16, 17, 18, 19, 20, 21, 22, 23, 24, 25, 26, 27, 28, 29, 30, 31, 32, 33, 34, 35, 36, 37, 38, 39, 40, 41, 42, 43, 44, 45, 46, 47, 48, 49, 50] rfl (by decide +kernel)
set_option maxRecDepth 20000 in
theorem gX12_looked_X12_needs : GoodIn wsX12_looked (wsV RX12 161 RX12 yX12_needs wsX12_needs) := goodIn_app (goodIn_of _ (by decide +kernel)) ggX12_looked_X12_needs
set_option maxRecDepth 20000 in
theorem ggX12_looked_X12_in : GoodIn wsX12_looked wsX12_in := goodIn_r _ [13] rfl (by decide +kernel)
set_option maxRecDepth 20000 in
theorem gX12_looked_X12_in : GoodIn wsX12_looked (va_wsS RX12 115 yX12_in wsX12_in) := goodIn_app (goodIn_of _ (by decide +kernel)) ggX12_looked_X12_in
theorem dX12_looked_0 : decode cX12_looked 0 = .ok (.aload_n 0, 1) := by decide +kernel
theorem dX12_looked_1 : decode cX12_looked 1 = .ok (.getfield 119, 3) := by decide +kernel
theorem dX12_looked_4 : decode cX12_looked 4 = .ok (.ifCond .ne 21, 3) := by decide +kernel
theorem dX12_looked_7 : decode cX12_looked 7 = .ok (.aload_n 0, 1) := by decide +kernel
theorem dX12_looked_8 : decode cX12_looked 8 = .ok (.aload_n 0, 1) := by decide +kernel
theorem dX12_looked_9 : decode cX12_looked 9 = .ok (.getfield 147, 3) := by decide +kernel
theorem dX12_looked_12 : decode cX12_looked 12 = .ok (.iconst 2, 1) := by decide +kernel
theorem dX12_looked_13 : decode cX12_looked 13 = .ok (.if_icmp .ne 7, 3) := by decide +kernel
theorem dX12_looked_16 : decode cX12_looked 16 = .ok (.iconst 1, 1) := by decide +kernel
theorem dX12_looked_17 : decode cX12_looked 17 = .ok (.goto 4, 3) := by decide +kernel
theorem dX12_looked_20 : decode cX12_looked 20 = .ok (.iconst 0, 1) := by decide +kernel
theorem dX12_looked_21 : decode cX12_looked 21 = .ok (.iconst 2, 1) := by decide +kernel
theorem dX12_looked_22 : decode cX12_looked 22 = .ok (.invokevirtual 161, 3) := by decide +kernel
theorem dX12_looked_25 : decode cX12_looked 25 = .ok (.aload_n 0, 1) := by decide +kernel
theorem dX12_looked_26 : decode cX12_looked 26 = .ok (.getfield 119, 3) := by decide +kernel
theorem dX12_looked_29 : decode cX12_looked 29 = .ok (.ifCond .ne 20, 3) := by decide +kernel
theorem dX12_looked_32 : decode cX12_looked 32 = .ok (.aload_n 0, 1) := by decide +kernel
theorem dX12_looked_33 : decode cX12_looked 33 = .ok (.aload_n 0, 1) := by decide +kernel
theorem dX12_looked_34 : decode cX12_looked 34 = .ok (.getfield 158, 3) := by decide +kernel
theorem dX12_looked_37 : decode cX12_looked 37 = .ok (.i2l, 1) := by decide +kernel
theorem dX12_looked_38 : decode cX12_looked 38 = .ok (.iload_n 1, 1) := by decide +kernel
theorem dX12_looked_39 : decode cX12_looked 39 = .ok (.i2l, 1) := by decide +kernel
theorem dX12_looked_40 : decode cX12_looked 40 = .ok (.iload_n 2, 1) := by decide +kernel
theorem dX12_looked_41 : decode cX12_looked 41 = .ok (.i2l, 1) := by decide +kernel
theorem dX12_looked_42 : decode cX12_looked 42 = .ok (.invokestatic 115, 3) := by decide +kernel
theorem dX12_looked_45 : decode cX12_looked 45 = .ok (.iconst 3, 1) := by decide +kernel
theorem dX12_looked_46 : decode cX12_looked 46 = .ok (.invokevirtual 161, 3) := by decide +kernel
theorem dX12_looked_49 : decode cX12_looked 49 = .ok (.aload_n 0, 1) := by decide +kernel
theorem dX12_looked_50 : decode cX12_looked 50 = .ok (.getfield 119, 3) := by decide +kernel
theorem dX12_looked_53 : decode cX12_looked 53 = .ok (.ifCond .ne 10, 3) := by decide +kernel
theorem dX12_looked_56 : decode cX12_looked 56 = .ok (.aload_n 0, 1) := by decide +kernel
theorem dX12_looked_57 : decode cX12_looked 57 = .ok (.getfield 158, 3) := by decide +kernel
theorem dX12_looked_60 : decode cX12_looked 60 = .ok (.goto 4, 3) := by decide +kernel
theorem dX12_looked_63 : decode cX12_looked 63 = .ok (.iconst 0, 1) := by decide +kernel
theorem dX12_looked_64 : decode cX12_looked 64 = .ok (.ireturn, 1) := by decide +kernel
set_option maxRecDepth 20000 in
theorem ggX12_readNumber_X12_looked : GoodIn wsX12_readNumber wsX12_looked := goodIn_r _ [5, 6, 7, 8, 9, 10, 11, 4, 12, 13, 14, 15, 16, 17, 33, 34, 35, 36, 37, 38, 39, 40, 41, 42, 43, 44, 45, 46, 47, 48, 49, 50, 51, 52, 53, 54, 55, 56, 57, 58, 59, 60, 61, 62, 63, 64, 65, 66, 67, 68, 69] rfl (by decide +kernel)
set_option maxRecDepth 20000 in
theorem gX12_readNumber_X12_looked : GoodIn wsX12_readNumber (wsV RX12 165 RX12 yX12_looked wsX12_looked) := goodIn_app (goodIn_of _ (by decide +kernel)) ggX12_readNumber_X12_looked
set_option maxRecDepth 20000 in
theorem ggX12_readNumber_X12_nextToken : GoodIn wsX12_readNumber wsX12_nextToken := goodIn_r _ [21, 6, 22, 13, 7, 23, 24, 25, 26, 8, 27, 28, 29, 4, 30, 31, 32, 15, 16, 17, 9, 10, 11, 12, 14, 33, 34, 35, 36, 37, 38, 39, 40, 41, 42, 43, 44, 45, 46, 47, 48, 49, 50, 51, 52, 53, 54, 55, 56, 57, 58, 59, 60, 61, 62, 63, 64, 65, 66, 67, 68, 69] rfl (by decide +kernel)
set_option maxRecDepth 20000 in
theorem gX12_readNumber_X12_nextToken : GoodIn wsX12_readNumber (wsV RX12 168 RX12 yX12_nextToken wsX12_nextToken) := goodIn_app (goodIn_of _ (by decide +kernel)) ggX12_readNumber_X12_nextToken
theorem dX12_readNumber_0 : decode cX12_readNumber 0 = .ok (.aload_n 0, 1) := by decide +kernel
theorem dX12_readNumber_1 : decode cX12_readNumber 1 = .ok (.iload_n 1, 1) := by decide +kernel
theorem dX12_readNumber_2 : decode cX12_readNumber 2 = .ok (.iload_n 2, 1) := by decide +kernel
theorem dX12_readNumber_3 : decode cX12_readNumber 3 = .ok (.invokevirtual 165, 3) := by decide +kernel
theorem dX12_readNumber_6 : decode cX12_readNumber 6 = .ok (.istore_n 3, 1) := by decide +kernel
theorem dX12_readNumber_7 : decode cX12_readNumber 7 = .ok (.aload_n 0, 1) := by decide +kernel
theorem dX12_readNumber_8 : decode cX12_readNumber 8 = .ok (.invokevirtual 168, 3) := by decide +kernel
theorem dX12_readNumber_11 : decode cX12_readNumber 11 = .ok (.iload_n 3, 1) := by decide +kernel
theorem dX12_readNumber_12 : decode cX12_readNumber 12 = .ok (.ireturn, 1) := by decide +kernel
set_option maxRecDepth 20000 in
theorem ggX12_lookedPlace_X12_looked : GoodIn wsX12_lookedPlace wsX12_looked := goodIn_r _ [6, 7, 8, 9, 10, 11, 12, 5, 13, 14, 15, 16, 17, 18, 19, 20, 21, 22, 23, 24, 25, 26, 27, 28, 29, 30, 31, 32, 33, 34, 35, 36, 37, 38, 39, 40, 41, 42, 43, 44, 45, 46, 47, 48, 49, 50, 51, 52, 53, 54, 55] rfl (by decide +kernel)
set_option maxRecDepth 20000 in
theorem gX12_lookedPlace_X12_looked : GoodIn wsX12_lookedPlace (wsV RX12 165 RX12 yX12_looked wsX12_looked) := goodIn_app (goodIn_of _ (by decide +kernel)) ggX12_lookedPlace_X12_looked
theorem dX12_lookedPlace_0 : decode cX12_lookedPlace 0 = .ok (.aload_n 0, 1) := by decide +kernel
theorem dX12_lookedPlace_1 : decode cX12_lookedPlace 1 = .ok (.iconst 0, 1) := by decide +kernel
theorem dX12_lookedPlace_2 : decode cX12_lookedPlace 2 = .ok (.bipush 6, 2) := by decide +kernel
theorem dX12_lookedPlace_4 : decode cX12_lookedPlace 4 = .ok (.invokevirtual 165, 3) := by decide +kernel
theorem dX12_lookedPlace_7 : decode cX12_lookedPlace 7 = .ok (.istore_n 1, 1) := by decide +kernel
theorem dX12_lookedPlace_8 : decode cX12_lookedPlace 8 = .ok (.aload_n 0, 1) := by decide +kernel
theorem dX12_lookedPlace_9 : decode cX12_lookedPlace 9 = .ok (.iload_n 1, 1) := by decide +kernel
theorem dX12_lookedPlace_10 : decode cX12_lookedPlace 10 = .ok (.aload_n 0, 1) := by decide +kernel
theorem dX12_lookedPlace_11 : decode cX12_lookedPlace 11 = .ok (.getfield 97, 3) := by decide +kernel
theorem dX12_lookedPlace_14 : decode cX12_lookedPlace 14 = .ok (.if_icmp .le 7, 3) := by decide +kernel
theorem dX12_lookedPlace_17 : decode cX12_lookedPlace 17 = .ok (.iload_n 1, 1) := by decide +kernel
theorem dX12_lookedPlace_18 : decode cX12_lookedPlace 18 = .ok (.goto 7, 3) := by decide +kernel
theorem dX12_lookedPlace_21 : decode cX12_lookedPlace 21 = .ok (.aload_n 0, 1) := by decide +kernel
theorem dX12_lookedPlace_22 : decode cX12_lookedPlace 22 = .ok (.getfield 97, 3) := by decide +kernel
theorem dX12_lookedPlace_25 : decode cX12_lookedPlace 25 = .ok (.putfield 97, 3) := by decide +kernel
theorem dX12_lookedPlace_28 : decode cX12_lookedPlace 28 = .ok (.iload_n 1, 1) := by decide +kernel
theorem dX12_lookedPlace_29 : decode cX12_lookedPlace 29 = .ok (.ireturn, 1) := by decide +kernel
set_option maxRecDepth 20000 in
theorem ggX12_readPlace_X12_lookedPlace : GoodIn wsX12_readPlace wsX12_lookedPlace := goodIn_r _ [5, 6, 7, 8, 9, 4, 10, 11, 12, 13, 14, 15, 16, 17, 18, 19, 20, 21, 22, 38, 39, 40, 41, 42, 43, 44, 45, 46, 47, 48, 49, 50, 51, 52, 53, 54, 55, 56, 57, 58, 59, 60, 61, 62, 63, 64, 65, 66, 67, 68, 69, 70, 71, 72, 73, 74] rfl (by decide +kernel)
set_option maxRecDepth 20000 in
theorem gX12_readPlace_X12_lookedPlace : GoodIn wsX12_readPlace (wsV RX12 171 RX12 yX12_lookedPlace wsX12_lookedPlace) := goodIn_app (goodIn_of _ (by decide +kernel)) ggX12_readPlace_X12_lookedPlace
set_option maxRecDepth 20000 in
theorem ggX12_readPlace_X12_nextToken : GoodIn wsX12_readPlace wsX12_nextToken := goodIn_r _ [26, 11, 27, 18, 12, 28, 29, 30, 31, 13, 32, 33, 34, 4, 35, 36, 37, 20, 21, 22, 14, 15, 16, 17, 19, 38, 39, 40, 41, 42, 43, 44, 45, 46, 47, 48, 49, 50, 51, 52, 53, 54, 55, 56, 57, 58, 59, 60, 61, 62, 63, 64, 65, 66, 67, 68, 69, 70, 71, 72, 73, 74] rfl (by decide +kernel)
set_option maxRecDepth 20000 in
theorem gX12_readPlace_X12_nextToken : GoodIn wsX12_readPlace (wsV RX12 168 RX12 yX12_nextToken wsX12_nextToken) := goodIn_app (goodIn_of _ (by decide +kernel)) ggX12_readPlace_X12_nextToken
theorem dX12_readPlace_0 : decode cX12_readPlace 0 = .ok (.aload_n 0, 1) := by decide +kernel
theorem dX12_readPlace_1 : decode cX12_readPlace 1 = .ok (.invokevirtual 171, 3) := by decide +kernel
theorem dX12_readPlace_4 : decode cX12_readPlace 4 = .ok (.istore_n 1, 1) := by decide +kernel
theorem dX12_readPlace_5 : decode cX12_readPlace 5 = .ok (.aload_n 0, 1) := by decide +kernel
theorem dX12_readPlace_6 : decode cX12_readPlace 6 = .ok (.invokevirtual 168, 3) := by decide +kernel
theorem dX12_readPlace_9 : decode cX12_readPlace 9 = .ok (.iload_n 1, 1) := by decide +kernel
theorem dX12_readPlace_10 : decode cX12_readPlace 10 = .ok (.ireturn, 1) := by decide +kernel
set_option maxRecDepth 20000 in
theorem ggX12_readPot_X12_needs : GoodIn wsX12_readPot wsX12_needs := goodIn_r _ [9, 1, 10, 11, 35, 36, 37, 38, 39, 40, 41, 42, 43, 44, 45, 46, 47, 48, 49, 50, 51, 52, 53, 54, 55, 56, 57, 58, 59, 60, 61, 62, 63, 64, 65, 66, 67, 68, 69, 70, 71] rfl (by decide +kernel)
set_option maxRecDepth 20000 in
theorem gX12_readPot_X12_needs : GoodIn wsX12_readPot (wsV RX12 161 RX12 yX12_needs wsX12_needs) := goodIn_app (goodIn_of _ (by decide +kernel)) ggX12_readPot_X12_needs
set_option maxRecDepth 20000 in
theorem ggX12_readPot_X12_looked : GoodIn wsX12_readPot wsX12_looked := goodIn_r _ [15, 1, 2, 16, 5, 6, 7, 8, 9, 10, 11, 17, 18, 19, 35, 36, 37, 38, 39, 40, 41, 42, 43, 44, 45, 46, 47, 48, 49, 50, 51, 52, 53, 54, 55, 56, 57, 58, 59, 60, 61, 62, 63, 64, 65, 66, 67, 68, 69, 70, 71] rfl (by decide +kernel)
set_option maxRecDepth 20000 in
theorem gX12_readPot_X12_looked : GoodIn wsX12_readPot (wsV RX12 165 RX12 yX12_looked wsX12_looked) := goodIn_app (goodIn_of _ (by decide +kernel)) ggX12_readPot_X12_looked
set_option maxRecDepth 20000 in
theorem ggX12_readPot_X12_nextToken : GoodIn wsX12_readPot wsX12_nextToken := goodIn_r _ [23, 1, 24, 10, 2, 25, 26, 27, 28, 16, 29, 30, 31, 8, 32, 33, 34, 17, 18, 19, 5, 6, 7, 9, 11, 35, 36, 37, 38, 39, 40, 41, 42, 43, 44, 45, 46, 47, 48, 49, 50, 51, 52, 53, 54, 55, 56, 57, 58, 59, 60, 61, 62, 63, 64, 65, 66, 67, 68, 69, 70, 71] rfl (by decide +kernel)
set_option maxRecDepth 20000 in
theorem gX12_readPot_X12_nextToken : GoodIn wsX12_readPot (wsV RX12 168 RX12 yX12_nextToken wsX12_nextToken) := goodIn_app (goodIn_of _ (by decide +kernel)) ggX12_readPot_X12_nextToken
theorem dX12_readPot_0 : decode cX12_readPot 0 = .ok (.iconst 0, 1) := by decide +kernel
theorem dX12_readPot_1 : decode cX12_readPot 1 = .ok (.istore_n 1, 1) := by decide +kernel
theorem dX12_readPot_2 : decode cX12_readPot 2 = .ok (.iconst 1, 1) := by decide +kernel
theorem dX12_readPot_3 : decode cX12_readPot 3 = .ok (.istore_n 2, 1) := by decide +kernel
theorem dX12_readPot_4 : decode cX12_readPot 4 = .ok (.aload_n 0, 1) := by decide +kernel
theorem dX12_readPot_5 : decode cX12_readPot 5 = .ok (.getfield 119, 3) := by decide +kernel
theorem dX12_readPot_8 : decode cX12_readPot 8 = .ok (.ifCond .ne 97, 3) := by decide +kernel
theorem dX12_readPot_11 : decode cX12_readPot 11 = .ok (.iload_n 2, 1) := by decide +kernel
theorem dX12_readPot_12 : decode cX12_readPot 12 = .ok (.ifCond .eq 93, 3) := by decide +kernel
theorem dX12_readPot_15 : decode cX12_readPot 15 = .ok (.aload_n 0, 1) := by decide +kernel
theorem dX12_readPot_16 : decode cX12_readPot 16 = .ok (.iload_n 1, 1) := by decide +kernel
theorem dX12_readPot_17 : decode cX12_readPot 17 = .ok (.bipush 7, 2) := by decide +kernel
theorem dX12_readPot_19 : decode cX12_readPot 19 = .ok (.if_icmp .lt 11, 3) := by decide +kernel
theorem dX12_readPot_22 : decode cX12_readPot 22 = .ok (.aload_n 0, 1) := by decide +kernel
theorem dX12_readPot_23 : decode cX12_readPot 23 = .ok (.getfield 147, 3) := by decide +kernel
theorem dX12_readPot_26 : decode cX12_readPot 26 = .ok (.iconst 2, 1) := by decide +kernel
theorem dX12_readPot_27 : decode cX12_readPot 27 = .ok (.if_icmp .eq 7, 3) := by decide +kernel
theorem dX12_readPot_30 : decode cX12_readPot 30 = .ok (.iconst 1, 1) := by decide +kernel
theorem dX12_readPot_31 : decode cX12_readPot 31 = .ok (.goto 4, 3) := by decide +kernel
theorem dX12_readPot_34 : decode cX12_readPot 34 = .ok (.iconst 0, 1) := by decide +kernel
theorem dX12_readPot_35 : decode cX12_readPot 35 = .ok (.iconst 5, 1) := by decide +kernel
theorem dX12_readPot_36 : decode cX12_readPot 36 = .ok (.invokevirtual 161, 3) := by decide +kernel
theorem dX12_readPot_39 : decode cX12_readPot 39 = .ok (.aload_n 0, 1) := by decide +kernel
theorem dX12_readPot_40 : decode cX12_readPot 40 = .ok (.iconst 0, 1) := by decide +kernel
theorem dX12_readPot_41 : decode cX12_readPot 41 = .ok (.bipush 9, 2) := by decide +kernel
theorem dX12_readPot_43 : decode cX12_readPot 43 = .ok (.invokevirtual 165, 3) := by decide +kernel
theorem dX12_readPot_46 : decode cX12_readPot 46 = .ok (.istore_n 3, 1) := by decide +kernel
theorem dX12_readPot_47 : decode cX12_readPot 47 = .ok (.aload_n 0, 1) := by decide +kernel
theorem dX12_readPot_48 : decode cX12_readPot 48 = .ok (.getfield 119, 3) := by decide +kernel
theorem dX12_readPot_51 : decode cX12_readPot 51 = .ok (.ifCond .ne 33, 3) := by decide +kernel
theorem dX12_readPot_54 : decode cX12_readPot 54 = .ok (.aload_n 0, 1) := by decide +kernel
theorem dX12_readPot_55 : decode cX12_readPot 55 = .ok (.getfield 23, 3) := by decide +kernel
theorem dX12_readPot_58 : decode cX12_readPot 58 = .ok (.iload_n 1, 1) := by decide +kernel
theorem dX12_readPot_59 : decode cX12_readPot 59 = .ok (.iload_n 3, 1) := by decide +kernel
theorem dX12_readPot_60 : decode cX12_readPot 60 = .ok (.iastore, 1) := by decide +kernel
theorem dX12_readPot_61 : decode cX12_readPot 61 = .ok (.aload_n 0, 1) := by decide +kernel
theorem dX12_readPot_62 : decode cX12_readPot 62 = .ok (.iload_n 1, 1) := by decide +kernel
theorem dX12_readPot_63 : decode cX12_readPot 63 = .ok (.aload_n 0, 1) := by decide +kernel
theorem dX12_readPot_64 : decode cX12_readPot 64 = .ok (.getfield 97, 3) := by decide +kernel
theorem dX12_readPot_67 : decode cX12_readPot 67 = .ok (.if_icmp .le 7, 3) := by decide +kernel
theorem dX12_readPot_70 : decode cX12_readPot 70 = .ok (.iload_n 1, 1) := by decide +kernel
theorem dX12_readPot_71 : decode cX12_readPot 71 = .ok (.goto 7, 3) := by decide +kernel
theorem dX12_readPot_74 : decode cX12_readPot 74 = .ok (.aload_n 0, 1) := by decide +kernel
theorem dX12_readPot_75 : decode cX12_readPot 75 = .ok (.getfield 97, 3) := by decide +kernel
theorem dX12_readPot_78 : decode cX12_readPot 78 = .ok (.putfield 97, 3) := by decide +kernel
theorem dX12_readPot_81 : decode cX12_readPot 81 = .ok (.iinc 1 1, 3) := by decide +kernel
theorem dX12_readPot_84 : decode cX12_readPot 84 = .ok (.aload_n 0, 1) := by decide +kernel
theorem dX12_readPot_85 : decode cX12_readPot 85 = .ok (.invokevirtual 168, 3) := by decide +kernel
theorem dX12_readPot_88 : decode cX12_readPot 88 = .ok (.aload_n 0, 1) := by decide +kernel
theorem dX12_readPot_89 : decode cX12_readPot 89 = .ok (.getfield 147, 3) := by decide +kernel
theorem dX12_readPot_92 : decode cX12_readPot 92 = .ok (.iconst 2, 1) := by decide +kernel
theorem dX12_readPot_93 : decode cX12_readPot 93 = .ok (.if_icmp .ne 7, 3) := by decide +kernel
theorem dX12_readPot_96 : decode cX12_readPot 96 = .ok (.iconst 1, 1) := by decide +kernel
theorem dX12_readPot_97 : decode cX12_readPot 97 = .ok (.goto 4, 3) := by decide +kernel
theorem dX12_readPot_100 : decode cX12_readPot 100 = .ok (.iconst 0, 1) := by decide +kernel
theorem dX12_readPot_101 : decode cX12_readPot 101 = .ok (.istore_n 2, 1) := by decide +kernel
theorem dX12_readPot_102 : decode cX12_readPot 102 = .ok (.goto (-98), 3) := by decide +kernel
theorem dX12_readPot_105 : decode cX12_readPot 105 = .ok (.return_, 1) := by decide +kernel
set_option maxRecDepth 20000 in
theorem ggX12_readFriend_X12_readPlace : GoodIn wsX12_readFriend wsX12_readPlace := goodIn_r _ [6, 7, 8, 9, 5, 10, 11, 12, 13, 14, 15, 16, 17, 18, 19, 20, 21, 22, 23, 24, 25, 26, 27, 28, 29, 30, 31, 32, 33, 34, 35, 36, 37, 38, 39, 40, 41, 42, 43, 44, 45, 46, 47, 48, 49, 50, 51, 52, 53, 54, 55, 56, 57, 58, 59, 60, 61, 62, 63, 64, 65, 66, 67, 68, 69, 70, 71, 72, 73, 74, 75, 76, 77, 78, 79] rfl (by decide +kernel)
set_option maxRecDepth 20000 in
theorem gX12_readFriend_X12_readPlace : GoodIn wsX12_readFriend (wsV RX12 174 RX12 yX12_readPlace wsX12_readPlace) := goodIn_app (goodIn_of _ (by decide +kernel)) ggX12_readFriend_X12_readPlace
set_option maxRecDepth 20000 in
theorem ggX12_readFriend_X12_lookedPlace : GoodIn wsX12_readFriend wsX12_lookedPlace := goodIn_r _ [10, 11, 12, 13, 14, 5, 15, 16, 17, 18, 19, 20, 21, 22, 23, 24, 25, 26, 27, 43, 44, 45, 46, 47, 48, 49, 50, 51, 52, 53, 54, 55, 56, 57, 58, 59, 60, 61, 62, 63, 64, 65, 66, 67, 68, 69, 70, 71, 72, 73, 74, 75, 76, 77, 78, 79] rfl (by decide +kernel)
set_option maxRecDepth 20000 in
theorem gX12_readFriend_X12_lookedPlace : GoodIn wsX12_readFriend (wsV RX12 171 RX12 yX12_lookedPlace wsX12_lookedPlace) := goodIn_app (goodIn_of _ (by decide +kernel)) ggX12_readFriend_X12_lookedPlace
set_option maxRecDepth 20000 in
theorem ggX12_readFriend_X12_needs : GoodIn wsX12_readFriend wsX12_needs := goodIn_r _ [22, 16, 23, 24, 43, 44, 45, 46, 47, 48, 49, 50, 51, 52, 53, 54, 55, 56, 57, 58, 59, 60, 61, 62, 63, 64, 65, 66, 67, 68, 69, 70, 71, 72, 73, 74, 75, 76, 77, 78, 79] rfl (by decide +kernel)
set_option maxRecDepth 20000 in
theorem gX12_readFriend_X12_needs : GoodIn wsX12_readFriend (wsV RX12 161 RX12 yX12_needs wsX12_needs) := goodIn_app (goodIn_of _ (by decide +kernel)) ggX12_readFriend_X12_needs
set_option maxRecDepth 20000 in
theorem ggX12_readFriend_X12_nextToken : GoodIn wsX12_readFriend wsX12_nextToken := goodIn_r _ [31, 16, 32, 23, 17, 33, 34, 35, 36, 18, 37, 38, 39, 5, 40, 41, 42, 25, 26, 27, 19, 20, 21, 22, 24, 43, 44, 45, 46, 47, 48, 49, 50, 51, 52, 53, 54, 55, 56, 57, 58, 59, 60, 61, 62, 63, 64, 65, 66, 67, 68, 69, 70, 71, 72, 73, 74, 75, 76, 77, 78, 79] rfl (by decide +kernel)
set_option maxRecDepth 20000 in
theorem gX12_readFriend_X12_nextToken : GoodIn wsX12_readFriend (wsV RX12 168 RX12 yX12_nextToken wsX12_nextToken) := goodIn_app (goodIn_of _ (by decide +kernel)) ggX12_readFriend_X12_nextToken
theorem dX12_readFriend_0 : decode cX12_readFriend 0 = .ok (.aload_n 0, 1) := by decide +kernel
theorem dX12_readFriend_1 : decode cX12_readFriend 1 = .ok (.invokevirtual 174, 3) := by decide +kernel
theorem dX12_readFriend_4 : decode cX12_readFriend 4 = .ok (.istore_n 1, 1) := by decide +kernel
theorem dX12_readFriend_5 : decode cX12_readFriend 5 = .ok (.aload_n 0, 1) := by decide +kernel
theorem dX12_readFriend_6 : decode cX12_readFriend 6 = .ok (.invokevirtual 171, 3) := by decide +kernel
theorem dX12_readFriend_9 : decode cX12_readFriend 9 = .ok (.istore_n 2, 1) := by decide +kernel
theorem dX12_readFriend_10 : decode cX12_readFriend 10 = .ok (.aload_n 0, 1) := by decide +kernel
theorem dX12_readFriend_11 : decode cX12_readFriend 11 = .ok (.iload_n 1, 1) := by decide +kernel
theorem dX12_readFriend_12 : decode cX12_readFriend 12 = .ok (.iload_n 2, 1) := by decide +kernel
theorem dX12_readFriend_13 : decode cX12_readFriend 13 = .ok (.if_icmp .eq 23, 3) := by decide +kernel
theorem dX12_readFriend_16 : decode cX12_readFriend 16 = .ok (.aload_n 0, 1) := by decide +kernel
theorem dX12_readFriend_17 : decode cX12_readFriend 17 = .ok (.getfield 23, 3) := by decide +kernel
theorem dX12_readFriend_20 : decode cX12_readFriend 20 = .ok (.bipush 9, 2) := by decide +kernel
theorem dX12_readFriend_22 : decode cX12_readFriend 22 = .ok (.iload_n 1, 1) := by decide +kernel
theorem dX12_readFriend_23 : decode cX12_readFriend 23 = .ok (.iadd, 1) := by decide +kernel
theorem dX12_readFriend_24 : decode cX12_readFriend 24 = .ok (.iaload, 1) := by decide +kernel
theorem dX12_readFriend_25 : decode cX12_readFriend 25 = .ok (.iload_n 2, 1) := by decide +kernel
theorem dX12_readFriend_26 : decode cX12_readFriend 26 = .ok (.ishr, 1) := by decide +kernel
theorem dX12_readFriend_27 : decode cX12_readFriend 27 = .ok (.iconst 1, 1) := by decide +kernel
theorem dX12_readFriend_28 : decode cX12_readFriend 28 = .ok (.iand, 1) := by decide +kernel
theorem dX12_readFriend_29 : decode cX12_readFriend 29 = .ok (.ifCond .ne 7, 3) := by decide +kernel
theorem dX12_readFriend_32 : decode cX12_readFriend 32 = .ok (.iconst 1, 1) := by decide +kernel
theorem dX12_readFriend_33 : decode cX12_readFriend 33 = .ok (.goto 4, 3) := by decide +kernel
theorem dX12_readFriend_36 : decode cX12_readFriend 36 = .ok (.iconst 0, 1) := by decide +kernel
theorem dX12_readFriend_37 : decode cX12_readFriend 37 = .ok (.iconst 4, 1) := by decide +kernel
theorem dX12_readFriend_38 : decode cX12_readFriend 38 = .ok (.invokevirtual 161, 3) := by decide +kernel
theorem dX12_readFriend_41 : decode cX12_readFriend 41 = .ok (.aload_n 0, 1) := by decide +kernel
theorem dX12_readFriend_42 : decode cX12_readFriend 42 = .ok (.getfield 23, 3) := by decide +kernel
theorem dX12_readFriend_45 : decode cX12_readFriend 45 = .ok (.bipush 9, 2) := by decide +kernel
theorem dX12_readFriend_47 : decode cX12_readFriend 47 = .ok (.iload_n 1, 1) := by decide +kernel
theorem dX12_readFriend_48 : decode cX12_readFriend 48 = .ok (.iadd, 1) := by decide +kernel
theorem dX12_readFriend_49 : decode cX12_readFriend 49 = .ok (.dup2, 1) := by decide +kernel
theorem dX12_readFriend_50 : decode cX12_readFriend 50 = .ok (.iaload, 1) := by decide +kernel
theorem dX12_readFriend_51 : decode cX12_readFriend 51 = .ok (.iconst 1, 1) := by decide +kernel
theorem dX12_readFriend_52 : decode cX12_readFriend 52 = .ok (.iload_n 2, 1) := by decide +kernel
theorem dX12_readFriend_53 : decode cX12_readFriend 53 = .ok (.ishl, 1) := by decide +kernel
theorem dX12_readFriend_54 : decode cX12_readFriend 54 = .ok (.ior, 1) := by decide +kernel
theorem dX12_readFriend_55 : decode cX12_readFriend 55 = .ok (.iastore, 1) := by decide +kernel
theorem dX12_readFriend_56 : decode cX12_readFriend 56 = .ok (.aload_n 0, 1) := by decide +kernel
theorem dX12_readFriend_57 : decode cX12_readFriend 57 = .ok (.invokevirtual 168, 3) := by decide +kernel
theorem dX12_readFriend_60 : decode cX12_readFriend 60 = .ok (.return_, 1) := by decide +kernel
set_option maxRecDepth 20000 in
theorem ggX12_readStir_X12_readNumber : GoodIn wsX12_readStir wsX12_readNumber := goodIn_r _ [8, 9, 10, 11, 7, 12, 13, 14, 15, 16, 17, 18, 19, 20, 21, 22, 23, 24, 25, 26, 27, 28, 29, 30, 31, 32, 33, 34, 35, 36, 37, 38, 39, 48, 49, 50, 51, 52, 53, 54, 55, 56, 57, 58, 59, 60, 61, 62, 63, 64, 65, 66, 67, 68, 69, 70, 71, 72, 73, 74, 75, 76, 77, 78, 79, 80, 81, 82, 83, 84] rfl (by decide +kernel)
set_option maxRecDepth 20000 in
theorem gX12_readStir_X12_readNumber : GoodIn wsX12_readStir (wsV RX12 177 RX12 yX12_readNumber wsX12_readNumber) := goodIn_app (goodIn_of _ (by decide +kernel)) ggX12_readStir_X12_readNumber
set_option maxRecDepth 20000 in
theorem ggX12_readStir_X12_looked : GoodIn wsX12_readStir wsX12_looked := goodIn_r _ [12, 13, 14, 15, 16, 17, 18, 7, 19, 20, 21, 22, 23, 24, 48, 49, 50, 51, 52, 53, 54, 55, 56, 57, 58, 59, 60, 61, 62, 63, 64, 65, 66, 67, 68, 69, 70, 71, 72, 73, 74, 75, 76, 77, 78, 79, 80, 81, 82, 83, 84] rfl (by decide +kernel)
set_option maxRecDepth 20000 in
theorem gX12_readStir_X12_looked : GoodIn wsX12_readStir (wsV RX12 165 RX12 yX12_looked wsX12_looked) := goodIn_app (goodIn_of _ (by decide +kernel)) ggX12_readStir_X12_looked
set_option maxRecDepth 20000 in
theorem ggX12_readStir_X12_nextToken : GoodIn wsX12_readStir wsX12_nextToken := goodIn_r _ [28, 13, 29, 20, 14, 30, 31, 32, 33, 15, 34, 35, 36, 7, 37, 38, 39, 22, 23, 24, 16, 17, 18, 19, 21, 48, 49, 50, 51, 52, 53, 54, 55, 56, 57, 58, 59, 60, 61, 62, 63, 64, 65, 66, 67, 68, 69, 70, 71, 72, 73, 74, 75, 76, 77, 78, 79, 80, 81, 82, 83, 84] rfl (by decide +kernel)
set_option maxRecDepth 20000 in
theorem gX12_readStir_X12_nextToken : GoodIn wsX12_readStir (wsV RX12 168 RX12 yX12_nextToken wsX12_nextToken) := goodIn_app (goodIn_of _ (by decide +kernel)) ggX12_readStir_X12_nextToken
set_option maxRecDepth 20000 in
theorem ggX12_readStir_X12_readPlace : GoodIn wsX12_readStir wsX12_readPlace := goodIn_r _ [43, 44, 45, 46, 7, 47, 3, 9, 10, 11, 12, 13, 14, 15, 16, 17, 18, 19, 20, 21, 22, 23, 24, 25, 26, 27, 28, 29, 30, 31, 32, 33, 34, 35, 36, 37, 38, 39, 48, 49, 50, 51, 52, 53, 54, 55, 56, 57, 58, 59, 60, 61, 62, 63, 64, 65, 66, 67, 68, 69, 70, 71, 72, 73, 74, 75, 76, 77, 78, 79, 80, 81, 82, 83, 84] rfl (by decide +kernel)
set_option maxRecDepth 20000 in
theorem gX12_readStir_X12_readPlace : GoodIn wsX12_readStir (wsV RX12 174 RX12 yX12_readPlace wsX12_readPlace) := goodIn_app (goodIn_of _ (by decide +kernel)) ggX12_readStir_X12_readPlace
set_option maxRecDepth 20000 in
theorem ggX12_readStir_X12_lookedPlace : GoodIn wsX12_readStir wsX12_lookedPlace := goodIn_r _ [47, 3, 9, 10, 11, 7, 12, 13, 14, 15, 16, 17, 18, 19, 20, 21, 22, 23, 24, 48, 49, 50, 51, 52, 53, 54, 55, 56, 57, 58, 59, 60, 61, 62, 63, 64, 65, 66, 67, 68, 69, 70, 71, 72, 73, 74, 75, 76, 77, 78, 79, 80, 81, 82, 83, 84] rfl (by decide +kernel)
set_option maxRecDepth 20000 in
theorem gX12_readStir_X12_lookedPlace : GoodIn wsX12_readStir (wsV RX12 171 RX12 yX12_lookedPlace wsX12_lookedPlace) := goodIn_app (goodIn_of _ (by decide +kernel)) ggX12_readStir_X12_lookedPlace
set_option maxRecDepth 20000 in
theorem ggX12_readStir_X12_needs : GoodIn wsX12_readStir wsX12_needs := goodIn_r _ [19, 13, 20, 21, 48, 49, 50, 51, 52, 53, 54, 55, 56, 57, 58, 59, 60, 61, 62, 63, 64, 65, 66, 67, 68, 69, 70, 71, 72, 73, 74, 75, 76, 77, 78, 79, 80, 81, 82, 83, 84] rfl (by decide +kernel)
set_option maxRecDepth 20000 in
theorem gX12_readStir_X12_needs : GoodIn wsX12_readStir (wsV RX12 161 RX12 yX12_needs wsX12_needs) := goodIn_app (goodIn_of _ (by decide +kernel)) ggX12_readStir_X12_needs
theorem dX12_readStir_0 : decode cX12_readStir 0 = .ok (.iconst 3, 1) := by decide +kernel
theorem dX12_readStir_1 : decode cX12_readStir 1 = .ok (.aload_n 0, 1) := by decide +kernel
theorem dX12_readStir_2 : decode cX12_readStir 2 = .ok (.getfield 91, 3) := by decide +kernel
theorem dX12_readStir_5 : decode cX12_readStir 5 = .ok (.imul, 1) := by decide +kernel
theorem dX12_readStir_6 : decode cX12_readStir 6 = .ok (.istore_n 2, 1) := by decide +kernel
theorem dX12_readStir_7 : decode cX12_readStir 7 = .ok (.aload_n 0, 1) := by decide +kernel
theorem dX12_readStir_8 : decode cX12_readStir 8 = .ok (.getfield 26, 3) := by decide +kernel
theorem dX12_readStir_11 : decode cX12_readStir 11 = .ok (.iload_n 2, 1) := by decide +kernel
theorem dX12_readStir_12 : decode cX12_readStir 12 = .ok (.iload_n 1, 1) := by decide +kernel
theorem dX12_readStir_13 : decode cX12_readStir 13 = .ok (.iastore, 1) := by decide +kernel
theorem dX12_readStir_14 : decode cX12_readStir 14 = .ok (.aload_n 0, 1) := by decide +kernel
theorem dX12_readStir_15 : decode cX12_readStir 15 = .ok (.getfield 26, 3) := by decide +kernel
theorem dX12_readStir_18 : decode cX12_readStir 18 = .ok (.iload_n 2, 1) := by decide +kernel
theorem dX12_readStir_19 : decode cX12_readStir 19 = .ok (.iconst 1, 1) := by decide +kernel
theorem dX12_readStir_20 : decode cX12_readStir 20 = .ok (.iadd, 1) := by decide +kernel
theorem dX12_readStir_21 : decode cX12_readStir 21 = .ok (.iconst 0, 1) := by decide +kernel
theorem dX12_readStir_22 : decode cX12_readStir 22 = .ok (.iastore, 1) := by decide +kernel
theorem dX12_readStir_23 : decode cX12_readStir 23 = .ok (.aload_n 0, 1) := by decide +kernel
theorem dX12_readStir_24 : decode cX12_readStir 24 = .ok (.getfield 26, 3) := by decide +kernel
theorem dX12_readStir_27 : decode cX12_readStir 27 = .ok (.iload_n 2, 1) := by decide +kernel
theorem dX12_readStir_28 : decode cX12_readStir 28 = .ok (.iconst 2, 1) := by decide +kernel
theorem dX12_readStir_29 : decode cX12_readStir 29 = .ok (.iadd, 1) := by decide +kernel
theorem dX12_readStir_30 : decode cX12_readStir 30 = .ok (.iconst 0, 1) := by decide +kernel
theorem dX12_readStir_31 : decode cX12_readStir 31 = .ok (.iastore, 1) := by decide +kernel
theorem dX12_readStir_32 : decode cX12_readStir 32 = .ok (.iload_n 1, 1) := by decide +kernel
theorem dX12_readStir_33 : decode cX12_readStir 33 = .ok (.ifCond .ne 21, 3) := by decide +kernel
theorem dX12_readStir_36 : decode cX12_readStir 36 = .ok (.aload_n 0, 1) := by decide +kernel
theorem dX12_readStir_37 : decode cX12_readStir 37 = .ok (.getfield 26, 3) := by decide +kernel
theorem dX12_readStir_40 : decode cX12_readStir 40 = .ok (.iload_n 2, 1) := by decide +kernel
theorem dX12_readStir_41 : decode cX12_readStir 41 = .ok (.iconst 1, 1) := by decide +kernel
theorem dX12_readStir_42 : decode cX12_readStir 42 = .ok (.iadd, 1) := by decide +kernel
theorem dX12_readStir_43 : decode cX12_readStir 43 = .ok (.aload_n 0, 1) := by decide +kernel
theorem dX12_readStir_44 : decode cX12_readStir 44 = .ok (.iconst 1, 1) := by decide +kernel
theorem dX12_readStir_45 : decode cX12_readStir 45 = .ok (.bipush 6, 2) := by decide +kernel
theorem dX12_readStir_47 : decode cX12_readStir 47 = .ok (.invokevirtual 177, 3) := by decide +kernel
theorem dX12_readStir_50 : decode cX12_readStir 50 = .ok (.iastore, 1) := by decide +kernel
theorem dX12_readStir_51 : decode cX12_readStir 51 = .ok (.goto 114, 3) := by decide +kernel
theorem dX12_readStir_54 : decode cX12_readStir 54 = .ok (.iload_n 1, 1) := by decide +kernel
theorem dX12_readStir_55 : decode cX12_readStir 55 = .ok (.iconst 3, 1) := by decide +kernel
theorem dX12_readStir_56 : decode cX12_readStir 56 = .ok (.if_icmp .ne 47, 3) := by decide +kernel
theorem dX12_readStir_59 : decode cX12_readStir 59 = .ok (.aload_n 0, 1) := by decide +kernel
theorem dX12_readStir_60 : decode cX12_readStir 60 = .ok (.iconst 1, 1) := by decide +kernel
theorem dX12_readStir_61 : decode cX12_readStir 61 = .ok (.bipush 6, 2) := by decide +kernel
theorem dX12_readStir_63 : decode cX12_readStir 63 = .ok (.invokevirtual 165, 3) := by decide +kernel
theorem dX12_readStir_66 : decode cX12_readStir 66 = .ok (.istore_n 3, 1) := by decide +kernel
theorem dX12_readStir_67 : decode cX12_readStir 67 = .ok (.aload_n 0, 1) := by decide +kernel
theorem dX12_readStir_68 : decode cX12_readStir 68 = .ok (.iload_n 3, 1) := by decide +kernel
theorem dX12_readStir_69 : decode cX12_readStir 69 = .ok (.aload_n 0, 1) := by decide +kernel
theorem dX12_readStir_70 : decode cX12_readStir 70 = .ok (.getfield 97, 3) := by decide +kernel
theorem dX12_readStir_73 : decode cX12_readStir 73 = .ok (.if_icmp .le 7, 3) := by decide +kernel
theorem dX12_readStir_76 : decode cX12_readStir 76 = .ok (.iload_n 3, 1) := by decide +kernel
theorem dX12_readStir_77 : decode cX12_readStir 77 = .ok (.goto 7, 3) := by decide +kernel
theorem dX12_readStir_80 : decode cX12_readStir 80 = .ok (.aload_n 0, 1) := by decide +kernel
theorem dX12_readStir_81 : decode cX12_readStir 81 = .ok (.getfield 97, 3) := by decide +kernel
theorem dX12_readStir_84 : decode cX12_readStir 84 = .ok (.putfield 97, 3) := by decide +kernel
theorem dX12_readStir_87 : decode cX12_readStir 87 = .ok (.aload_n 0, 1) := by decide +kernel
theorem dX12_readStir_88 : decode cX12_readStir 88 = .ok (.getfield 26, 3) := by decide +kernel
theorem dX12_readStir_91 : decode cX12_readStir 91 = .ok (.iload_n 2, 1) := by decide +kernel
theorem dX12_readStir_92 : decode cX12_readStir 92 = .ok (.iconst 1, 1) := by decide +kernel
theorem dX12_readStir_93 : decode cX12_readStir 93 = .ok (.iadd, 1) := by decide +kernel
theorem dX12_readStir_94 : decode cX12_readStir 94 = .ok (.iload_n 3, 1) := by decide +kernel
theorem dX12_readStir_95 : decode cX12_readStir 95 = .ok (.iastore, 1) := by decide +kernel
theorem dX12_readStir_96 : decode cX12_readStir 96 = .ok (.aload_n 0, 1) := by decide +kernel
theorem dX12_readStir_97 : decode cX12_readStir 97 = .ok (.invokevirtual 168, 3) := by decide +kernel
theorem dX12_readStir_100 : decode cX12_readStir 100 = .ok (.goto 65, 3) := by decide +kernel
theorem dX12_readStir_103 : decode cX12_readStir 103 = .ok (.iload_n 1, 1) := by decide +kernel
theorem dX12_readStir_104 : decode cX12_readStir 104 = .ok (.iconst 2, 1) := by decide +kernel
theorem dX12_readStir_105 : decode cX12_readStir 105 = .ok (.if_icmp .ne 60, 3) := by decide +kernel
theorem dX12_readStir_108 : decode cX12_readStir 108 = .ok (.aload_n 0, 1) := by decide +kernel
theorem dX12_readStir_109 : decode cX12_readStir 109 = .ok (.getfield 26, 3) := by decide +kernel
theorem dX12_readStir_112 : decode cX12_readStir 112 = .ok (.iload_n 2, 1) := by decide +kernel
theorem dX12_readStir_113 : decode cX12_readStir 113 = .ok (.iconst 1, 1) := by decide +kernel
theorem dX12_readStir_114 : decode cX12_readStir 114 = .ok (.iadd, 1) := by decide +kernel
theorem dX12_readStir_115 : decode cX12_readStir 115 = .ok (.aload_n 0, 1) := by decide +kernel
theorem dX12_readStir_116 : decode cX12_readStir 116 = .ok (.invokevirtual 174, 3) := by decide +kernel
theorem dX12_readStir_119 : decode cX12_readStir 119 = .ok (.iastore, 1) := by decide +kernel
theorem dX12_readStir_120 : decode cX12_readStir 120 = .ok (.aload_n 0, 1) := by decide +kernel
theorem dX12_readStir_121 : decode cX12_readStir 121 = .ok (.getfield 26, 3) := by decide +kernel
theorem dX12_readStir_124 : decode cX12_readStir 124 = .ok (.iload_n 2, 1) := by decide +kernel
theorem dX12_readStir_125 : decode cX12_readStir 125 = .ok (.iconst 2, 1) := by decide +kernel
theorem dX12_readStir_126 : decode cX12_readStir 126 = .ok (.iadd, 1) := by decide +kernel
theorem dX12_readStir_127 : decode cX12_readStir 127 = .ok (.aload_n 0, 1) := by decide +kernel
theorem dX12_readStir_128 : decode cX12_readStir 128 = .ok (.invokevirtual 171, 3) := by decide +kernel
theorem dX12_readStir_131 : decode cX12_readStir 131 = .ok (.iastore, 1) := by decide +kernel
theorem dX12_readStir_132 : decode cX12_readStir 132 = .ok (.aload_n 0, 1) := by decide +kernel
theorem dX12_readStir_133 : decode cX12_readStir 133 = .ok (.aload_n 0, 1) := by decide +kernel
theorem dX12_readStir_134 : decode cX12_readStir 134 = .ok (.getfield 26, 3) := by decide +kernel
theorem dX12_readStir_137 : decode cX12_readStir 137 = .ok (.iload_n 2, 1) := by decide +kernel
theorem dX12_readStir_138 : decode cX12_readStir 138 = .ok (.iconst 1, 1) := by decide +kernel
theorem dX12_readStir_139 : decode cX12_readStir 139 = .ok (.iadd, 1) := by decide +kernel
theorem dX12_readStir_140 : decode cX12_readStir 140 = .ok (.iaload, 1) := by decide +kernel
theorem dX12_readStir_141 : decode cX12_readStir 141 = .ok (.aload_n 0, 1) := by decide +kernel
theorem dX12_readStir_142 : decode cX12_readStir 142 = .ok (.getfield 26, 3) := by decide +kernel
theorem dX12_readStir_145 : decode cX12_readStir 145 = .ok (.iload_n 2, 1) := by decide +kernel
theorem dX12_readStir_146 : decode cX12_readStir 146 = .ok (.iconst 2, 1) := by decide +kernel
theorem dX12_readStir_147 : decode cX12_readStir 147 = .ok (.iadd, 1) := by decide +kernel
theorem dX12_readStir_148 : decode cX12_readStir 148 = .ok (.iaload, 1) := by decide +kernel
theorem dX12_readStir_149 : decode cX12_readStir 149 = .ok (.if_icmp .eq 7, 3) := by decide +kernel
theorem dX12_readStir_152 : decode cX12_readStir 152 = .ok (.iconst 1, 1) := by decide +kernel
theorem dX12_readStir_153 : decode cX12_readStir 153 = .ok (.goto 4, 3) := by decide +kernel
theorem dX12_readStir_156 : decode cX12_readStir 156 = .ok (.iconst 0, 1) := by decide +kernel
theorem dX12_readStir_157 : decode cX12_readStir 157 = .ok (.iconst 4, 1) := by decide +kernel
theorem dX12_readStir_158 : decode cX12_readStir 158 = .ok (.invokevirtual 161, 3) := by decide +kernel
theorem dX12_readStir_161 : decode cX12_readStir 161 = .ok (.aload_n 0, 1) := by decide +kernel
theorem dX12_readStir_162 : decode cX12_readStir 162 = .ok (.invokevirtual 168, 3) := by decide +kernel
theorem dX12_readStir_165 : decode cX12_readStir 165 = .ok (.aload_n 0, 1) := by decide +kernel
theorem dX12_readStir_166 : decode cX12_readStir 166 = .ok (.dup, 1) := by decide +kernel
theorem dX12_readStir_167 : decode cX12_readStir 167 = .ok (.getfield 91, 3) := by decide +kernel
theorem dX12_readStir_170 : decode cX12_readStir 170 = .ok (.iconst 1, 1) := by decide +kernel
theorem dX12_readStir_171 : decode cX12_readStir 171 = .ok (.iadd, 1) := by decide +kernel
theorem dX12_readStir_172 : decode cX12_readStir 172 = .ok (.putfield 91, 3) := by decide +kernel
theorem dX12_readStir_175 : decode cX12_readStir 175 = .ok (.return_, 1) := by decide +kernel
set_option maxRecDepth 20000 in
theorem ggX12_readLineOf_X12_readNumber : GoodIn wsX12_readLineOf wsX12_readNumber := goodIn_r _ [8, 9, 10, 11, 7, 12, 13, 14, 15, 16, 17, 18, 19, 20, 21, 22, 23, 24, 25, 26, 27, 28, 29, 30, 31, 32, 33, 34, 35, 36, 37, 38, 39, 63, 64, 65, 66, 67, 68, 69, 70, 71, 72, 73, 74, 75, 76, 77, 78, 79, 80, 81, 82, 83, 84, 85, 86, 87, 88, 89, 90, 91, 92, 93, 94, 95, 96, 97, 98, 99] rfl (by decide +kernel)
set_option maxRecDepth 20000 in
theorem gX12_readLineOf_X12_readNumber : GoodIn wsX12_readLineOf (wsV RX12 177 RX12 yX12_readNumber wsX12_readNumber) := goodIn_app (goodIn_of _ (by decide +kernel)) ggX12_readLineOf_X12_readNumber
set_option maxRecDepth 20000 in
theorem ggX12_readLineOf_X12_readPot : GoodIn wsX12_readLineOf wsX12_readPot := goodIn_r _ [43, 13, 14, 2, 44, 16, 17, 18, 7, 19, 20, 21, 9, 10, 11, 12, 15, 22, 23, 24, 25, 26, 27, 28, 29, 30, 31, 32, 33, 34, 35, 36, 37, 38, 39, 63, 64, 65, 66, 67, 68, 69, 70, 71, 72, 73, 74, 75, 76, 77, 78, 79, 80, 81, 82, 83, 84, 85, 86, 87, 88, 89, 90, 91, 92, 93, 94, 95, 96, 97, 98, 99] rfl (by decide +kernel)
set_option maxRecDepth 20000 in
theorem gX12_readLineOf_X12_readPot : GoodIn wsX12_readLineOf (wsV RX12 180 RX12 yX12_readPot wsX12_readPot) := goodIn_app (goodIn_of _ (by decide +kernel)) ggX12_readLineOf_X12_readPot
set_option maxRecDepth 20000 in
theorem ggX12_readLineOf_X12_readPlace : GoodIn wsX12_readLineOf wsX12_readPlace := goodIn_r _ [48, 49, 50, 51, 7, 52, 44, 9, 10, 11, 12, 13, 14, 15, 16, 17, 18, 19, 20, 21, 22, 23, 24, 25, 26, 27, 28, 29, 30, 31, 32, 33, 34, 35, 36, 37, 38, 39, 63, 64, 65, 66, 67, 68, 69, 70, 71, 72, 73, 74, 75, 76, 77, 78, 79, 80, 81, 82, 83, 84, 85, 86, 87, 88, 89, 90, 91, 92, 93, 94, 95, 96, 97, 98, 99] rfl (by decide +kernel)
set_option maxRecDepth 20000 in
theorem gX12_readLineOf_X12_readPlace : GoodIn wsX12_readLineOf (wsV RX12 174 RX12 yX12_readPlace wsX12_readPlace) := goodIn_app (goodIn_of _ (by decide +kernel)) ggX12_readLineOf_X12_readPlace
set_option maxRecDepth 20000 in
theorem ggX12_readLineOf_X12_readFriend : GoodIn wsX12_readLineOf wsX12_readFriend := goodIn_r _ [56, 2, 45, 46, 47, 7, 48, 49, 50, 51, 52, 44, 9, 10, 11, 12, 13, 14, 15, 16, 17, 18, 19, 20, 21, 22, 23, 24, 25, 26, 27, 28, 29, 30, 31, 32, 33, 34, 35, 36, 37, 38, 39, 63, 64, 65, 66, 67, 68, 69, 70, 71, 72, 73, 74, 75, 76, 77, 78, 79, 80, 81, 82, 83, 84, 85, 86, 87, 88, 89, 90, 91, 92, 93, 94, 95, 96, 97, 98, 99] rfl (by decide +kernel)
set_option maxRecDepth 20000 in
theorem gX12_readLineOf_X12_readFriend : GoodIn wsX12_readLineOf (wsV RX12 183 RX12 yX12_readFriend wsX12_readFriend) := goodIn_app (goodIn_of _ (by decide +kernel)) ggX12_readLineOf_X12_readFriend
set_option maxRecDepth 20000 in
theorem ggX12_readLineOf_X12_readStir : GoodIn wsX12_readLineOf wsX12_readStir := goodIn_r _ [60, 61, 62, 44, 4, 5, 6, 7, 8, 9, 10, 11, 12, 13, 14, 15, 16, 17, 18, 19, 20, 21, 22, 23, 24, 25, 26, 27, 28, 29, 30, 31, 32, 33, 34, 35, 36, 37, 38, 39, 45, 46, 47, 48, 49, 50, 51, 52, 63, 64, 65, 66, 67, 68, 69, 70, 71, 72, 73, 74, 75, 76, 77, 78, 79, 80, 81, 82, 83, 84, 85, 86, 87, 88, 89, 90, 91, 92, 93, 94, 95, 96, 97, 98, 99] rfl (by decide +kernel)
set_option maxRecDepth 20000 in
theorem gX12_readLineOf_X12_readStir : GoodIn wsX12_readLineOf (wsV RX12 186 RX12 yX12_readStir wsX12_readStir) := goodIn_app (goodIn_of _ (by decide +kernel)) ggX12_readLineOf_X12_readStir
theorem dX12_readLineOf_0 : decode cX12_readLineOf 0 = .ok (.iload_n 1, 1) := by decide +kernel
theorem dX12_readLineOf_1 : decode cX12_readLineOf 1 = .ok (.tableswitch 144 4 10 #[43, 57, 64, 78, 92, 99, 123], 43) := by decide +kernel
theorem dX12_readLineOf_44 : decode cX12_readLineOf 44 = .ok (.aload_n 0, 1) := by decide +kernel
theorem dX12_readLineOf_45 : decode cX12_readLineOf 45 = .ok (.aload_n 0, 1) := by decide +kernel
theorem dX12_readLineOf_46 : decode cX12_readLineOf 46 = .ok (.iconst 2, 1) := by decide +kernel
theorem dX12_readLineOf_47 : decode cX12_readLineOf 47 = .ok (.bipush 7, 2) := by decide +kernel
theorem dX12_readLineOf_49 : decode cX12_readLineOf 49 = .ok (.invokevirtual 177, 3) := by decide +kernel
theorem dX12_readLineOf_52 : decode cX12_readLineOf 52 = .ok (.putfield 87, 3) := by decide +kernel
theorem dX12_readLineOf_55 : decode cX12_readLineOf 55 = .ok (.goto 95, 3) := by decide +kernel
theorem dX12_readLineOf_58 : decode cX12_readLineOf 58 = .ok (.aload_n 0, 1) := by decide +kernel
theorem dX12_readLineOf_59 : decode cX12_readLineOf 59 = .ok (.invokevirtual 180, 3) := by decide +kernel
theorem dX12_readLineOf_62 : decode cX12_readLineOf 62 = .ok (.goto 88, 3) := by decide +kernel
theorem dX12_readLineOf_65 : decode cX12_readLineOf 65 = .ok (.aload_n 0, 1) := by decide +kernel
theorem dX12_readLineOf_66 : decode cX12_readLineOf 66 = .ok (.getfield 23, 3) := by decide +kernel
theorem dX12_readLineOf_69 : decode cX12_readLineOf 69 = .ok (.bipush 7, 2) := by decide +kernel
theorem dX12_readLineOf_71 : decode cX12_readLineOf 71 = .ok (.aload_n 0, 1) := by decide +kernel
theorem dX12_readLineOf_72 : decode cX12_readLineOf 72 = .ok (.invokevirtual 174, 3) := by decide +kernel
theorem dX12_readLineOf_75 : decode cX12_readLineOf 75 = .ok (.iastore, 1) := by decide +kernel
theorem dX12_readLineOf_76 : decode cX12_readLineOf 76 = .ok (.goto 74, 3) := by decide +kernel
theorem dX12_readLineOf_79 : decode cX12_readLineOf 79 = .ok (.aload_n 0, 1) := by decide +kernel
theorem dX12_readLineOf_80 : decode cX12_readLineOf 80 = .ok (.getfield 23, 3) := by decide +kernel
theorem dX12_readLineOf_83 : decode cX12_readLineOf 83 = .ok (.bipush 8, 2) := by decide +kernel
theorem dX12_readLineOf_85 : decode cX12_readLineOf 85 = .ok (.aload_n 0, 1) := by decide +kernel
theorem dX12_readLineOf_86 : decode cX12_readLineOf 86 = .ok (.invokevirtual 174, 3) := by decide +kernel
theorem dX12_readLineOf_89 : decode cX12_readLineOf 89 = .ok (.iastore, 1) := by decide +kernel
theorem dX12_readLineOf_90 : decode cX12_readLineOf 90 = .ok (.goto 60, 3) := by decide +kernel
theorem dX12_readLineOf_93 : decode cX12_readLineOf 93 = .ok (.aload_n 0, 1) := by decide +kernel
theorem dX12_readLineOf_94 : decode cX12_readLineOf 94 = .ok (.invokevirtual 183, 3) := by decide +kernel
theorem dX12_readLineOf_97 : decode cX12_readLineOf 97 = .ok (.goto 53, 3) := by decide +kernel
theorem dX12_readLineOf_100 : decode cX12_readLineOf 100 = .ok (.aload_n 0, 1) := by decide +kernel
theorem dX12_readLineOf_101 : decode cX12_readLineOf 101 = .ok (.invokevirtual 174, 3) := by decide +kernel
theorem dX12_readLineOf_104 : decode cX12_readLineOf 104 = .ok (.istore_n 2, 1) := by decide +kernel
theorem dX12_readLineOf_105 : decode cX12_readLineOf 105 = .ok (.aload_n 0, 1) := by decide +kernel
theorem dX12_readLineOf_106 : decode cX12_readLineOf 106 = .ok (.getfield 23, 3) := by decide +kernel
theorem dX12_readLineOf_109 : decode cX12_readLineOf 109 = .ok (.bipush 16, 2) := by decide +kernel
theorem dX12_readLineOf_111 : decode cX12_readLineOf 111 = .ok (.iload_n 2, 1) := by decide +kernel
theorem dX12_readLineOf_112 : decode cX12_readLineOf 112 = .ok (.iadd, 1) := by decide +kernel
theorem dX12_readLineOf_113 : decode cX12_readLineOf 113 = .ok (.aload_n 0, 1) := by decide +kernel
theorem dX12_readLineOf_114 : decode cX12_readLineOf 114 = .ok (.iconst 1, 1) := by decide +kernel
theorem dX12_readLineOf_115 : decode cX12_readLineOf 115 = .ok (.bipush 9, 2) := by decide +kernel
theorem dX12_readLineOf_117 : decode cX12_readLineOf 117 = .ok (.invokevirtual 177, 3) := by decide +kernel
theorem dX12_readLineOf_120 : decode cX12_readLineOf 120 = .ok (.iastore, 1) := by decide +kernel
theorem dX12_readLineOf_121 : decode cX12_readLineOf 121 = .ok (.goto 29, 3) := by decide +kernel
theorem dX12_readLineOf_124 : decode cX12_readLineOf 124 = .ok (.aload_n 0, 1) := by decide +kernel
theorem dX12_readLineOf_125 : decode cX12_readLineOf 125 = .ok (.invokevirtual 174, 3) := by decide +kernel
theorem dX12_readLineOf_128 : decode cX12_readLineOf 128 = .ok (.istore_n 2, 1) := by decide +kernel
theorem dX12_readLineOf_129 : decode cX12_readLineOf 129 = .ok (.aload_n 0, 1) := by decide +kernel
theorem dX12_readLineOf_130 : decode cX12_readLineOf 130 = .ok (.getfield 29, 3) := by decide +kernel
theorem dX12_readLineOf_133 : decode cX12_readLineOf 133 = .ok (.iload_n 2, 1) := by decide +kernel
theorem dX12_readLineOf_134 : decode cX12_readLineOf 134 = .ok (.aload_n 0, 1) := by decide +kernel
theorem dX12_readLineOf_135 : decode cX12_readLineOf 135 = .ok (.iconst 0, 1) := by decide +kernel
theorem dX12_readLineOf_136 : decode cX12_readLineOf 136 = .ok (.bipush 9, 2) := by decide +kernel
theorem dX12_readLineOf_138 : decode cX12_readLineOf 138 = .ok (.invokevirtual 177, 3) := by decide +kernel
theorem dX12_readLineOf_141 : decode cX12_readLineOf 141 = .ok (.iastore, 1) := by decide +kernel
theorem dX12_readLineOf_142 : decode cX12_readLineOf 142 = .ok (.goto 8, 3) := by decide +kernel
theorem dX12_readLineOf_145 : decode cX12_readLineOf 145 = .ok (.aload_n 0, 1) := by decide +kernel
theorem dX12_readLineOf_146 : decode cX12_readLineOf 146 = .ok (.iload_n 1, 1) := by decide +kernel
theorem dX12_readLineOf_147 : decode cX12_readLineOf 147 = .ok (.invokevirtual 186, 3) := by decide +kernel
theorem dX12_readLineOf_150 : decode cX12_readLineOf 150 = .ok (.return_, 1) := by decide +kernel
set_option maxRecDepth 20000 in
theorem ggX12_readLine_X12_lineNow : GoodIn wsX12_readLine wsX12_lineNow := goodIn_r _ [11, 12, 13, 14, 10, 15, 16, 17, 18, 19, 20, 21, 22, 23, 24, 25, 26, 27, 28, 29, 30, 31, 86, 87, 88, 89, 90, 91, 92, 93, 94, 95, 96, 97, 98, 99, 100, 101, 102, 103, 104, 105, 106, 107, 108, 109, 110, 111, 112, 113, 114, 115, 116, 117, 118, 119, 120, 121, 122] rfl (by decide +kernel)
set_option maxRecDepth 20000 in
theorem gX12_readLine_X12_lineNow : GoodIn wsX12_readLine (wsV RX12 190 RX12 yX12_lineNow wsX12_lineNow) := goodIn_app (goodIn_of _ (by decide +kernel)) ggX12_readLine_X12_lineNow
set_option maxRecDepth 20000 in
theorem ggX12_readLine_X12_needs : GoodIn wsX12_readLine wsX12_needs := goodIn_r _ [35, 3, 17, 36, 86, 87, 88, 89, 90, 91, 92, 93, 94, 95, 96, 97, 98, 99, 100, 101, 102, 103, 104, 105, 106, 107, 108, 109, 110, 111, 112, 113, 114, 115, 116, 117, 118, 119, 120, 121, 122] rfl (by decide +kernel)
set_option maxRecDepth 20000 in
theorem gX12_readLine_X12_needs : GoodIn wsX12_readLine (wsV RX12 161 RX12 yX12_needs wsX12_needs) := goodIn_app (goodIn_of _ (by decide +kernel)) ggX12_readLine_X12_needs
set_option maxRecDepth 20000 in
theorem ggX12_readLine_X12_in : GoodIn wsX12_readLine wsX12_in := goodIn_r _ [39] rfl (by decide +kernel)
set_option maxRecDepth 20000 in
theorem gX12_readLine_X12_in : GoodIn wsX12_readLine (va_wsS RX12 115 yX12_in wsX12_in) := goodIn_app (goodIn_of _ (by decide +kernel)) ggX12_readLine_X12_in
set_option maxRecDepth 20000 in
theorem ggX12_readLine_X12_nextToken : GoodIn wsX12_readLine wsX12_nextToken := goodIn_r _ [43, 3, 16, 17, 1, 44, 45, 46, 47, 48, 18, 19, 20, 10, 21, 22, 23, 37, 38, 39, 32, 33, 34, 35, 36, 86, 87, 88, 89, 90, 91, 92, 93, 94, 95, 96, 97, 98, 99, 100, 101, 102, 103, 104, 105, 106, 107, 108, 109, 110, 111, 112, 113, 114, 115, 116, 117, 118, 119, 120, 121, 122] rfl (by decide +kernel)
set_option maxRecDepth 20000 in
theorem gX12_readLine_X12_nextToken : GoodIn wsX12_readLine (wsV RX12 168 RX12 yX12_nextToken wsX12_nextToken) := goodIn_app (goodIn_of _ (by decide +kernel)) ggX12_readLine_X12_nextToken
set_option maxRecDepth 20000 in
theorem ggX12_readLine_X12_readLineOf : GoodIn wsX12_readLine wsX12_readLineOf := goodIn_r _ [52, 53, 54, 55, 56, 57, 58, 10, 59, 60, 61, 62, 63, 3, 1, 48, 32, 33, 34, 35, 17, 36, 37, 38, 39, 40, 41, 42, 43, 16, 44, 45, 46, 47, 18, 19, 20, 21, 22, 23, 64, 65, 66, 67, 68, 69, 70, 71, 72, 73, 74, 75, 76, 77, 78, 79, 80, 81, 82, 83, 84, 2, 85, 86, 87, 88, 89, 90, 91, 92, 93, 94, 95, 96, 97, 98, 99, 100, 101, 102, 103, 104, 105, 106, 107, 108, 109, 110, 111, 112, 113, 114, 115, 116, 117, 118, 119, 120, 121, 122] rfl (by decide +kernel)
set_option maxRecDepth 20000 in
theorem gX12_readLine_X12_readLineOf : GoodIn wsX12_readLine (wsV RX12 197 RX12 yX12_readLineOf wsX12_readLineOf) := goodIn_app (goodIn_of _ (by decide +kernel)) ggX12_readLine_X12_readLineOf
theorem dX12_readLine_0 : decode cX12_readLine 0 = .ok (.aload_n 0, 1) := by decide +kernel
theorem dX12_readLine_1 : decode cX12_readLine 1 = .ok (.getfield 147, 3) := by decide +kernel
theorem dX12_readLine_4 : decode cX12_readLine 4 = .ok (.iconst 1, 1) := by decide +kernel
theorem dX12_readLine_5 : decode cX12_readLine 5 = .ok (.if_icmp .ne 10, 3) := by decide +kernel
theorem dX12_readLine_8 : decode cX12_readLine 8 = .ok (.aload_n 0, 1) := by decide +kernel
theorem dX12_readLine_9 : decode cX12_readLine 9 = .ok (.invokevirtual 190, 3) := by decide +kernel
theorem dX12_readLine_12 : decode cX12_readLine 12 = .ok (.goto 5, 3) := by decide +kernel
theorem dX12_readLine_15 : decode cX12_readLine 15 = .ok (.bipush (-4), 2) := by decide +kernel
theorem dX12_readLine_17 : decode cX12_readLine 17 = .ok (.istore_n 1, 1) := by decide +kernel
theorem dX12_readLine_18 : decode cX12_readLine 18 = .ok (.aload_n 0, 1) := by decide +kernel
theorem dX12_readLine_19 : decode cX12_readLine 19 = .ok (.iload_n 1, 1) := by decide +kernel
theorem dX12_readLine_20 : decode cX12_readLine 20 = .ok (.bipush (-4), 2) := by decide +kernel
theorem dX12_readLine_22 : decode cX12_readLine 22 = .ok (.if_icmp .eq 7, 3) := by decide +kernel
theorem dX12_readLine_25 : decode cX12_readLine 25 = .ok (.iconst 1, 1) := by decide +kernel
theorem dX12_readLine_26 : decode cX12_readLine 26 = .ok (.goto 4, 3) := by decide +kernel
theorem dX12_readLine_29 : decode cX12_readLine 29 = .ok (.iconst 0, 1) := by decide +kernel
theorem dX12_readLine_30 : decode cX12_readLine 30 = .ok (.iconst 2, 1) := by decide +kernel
theorem dX12_readLine_31 : decode cX12_readLine 31 = .ok (.invokevirtual 161, 3) := by decide +kernel
theorem dX12_readLine_34 : decode cX12_readLine 34 = .ok (.aload_n 0, 1) := by decide +kernel
theorem dX12_readLine_35 : decode cX12_readLine 35 = .ok (.iload_n 1, 1) := by decide +kernel
theorem dX12_readLine_36 : decode cX12_readLine 36 = .ok (.iconst 3, 1) := by decide +kernel
theorem dX12_readLine_37 : decode cX12_readLine 37 = .ok (.if_icmp .gt 11, 3) := by decide +kernel
theorem dX12_readLine_40 : decode cX12_readLine 40 = .ok (.aload_n 0, 1) := by decide +kernel
theorem dX12_readLine_41 : decode cX12_readLine 41 = .ok (.getfield 91, 3) := by decide +kernel
theorem dX12_readLine_44 : decode cX12_readLine 44 = .ok (.iconst 5, 1) := by decide +kernel
theorem dX12_readLine_45 : decode cX12_readLine 45 = .ok (.if_icmp .ge 7, 3) := by decide +kernel
theorem dX12_readLine_48 : decode cX12_readLine 48 = .ok (.iconst 1, 1) := by decide +kernel
theorem dX12_readLine_49 : decode cX12_readLine 49 = .ok (.goto 4, 3) := by decide +kernel
theorem dX12_readLine_52 : decode cX12_readLine 52 = .ok (.iconst 0, 1) := by decide +kernel
theorem dX12_readLine_53 : decode cX12_readLine 53 = .ok (.iconst 5, 1) := by decide +kernel
theorem dX12_readLine_54 : decode cX12_readLine 54 = .ok (.invokevirtual 161, 3) := by decide +kernel
theorem dX12_readLine_57 : decode cX12_readLine 57 = .ok (.aload_n 0, 1) := by decide +kernel
theorem dX12_readLine_58 : decode cX12_readLine 58 = .ok (.getfield 119, 3) := by decide +kernel
theorem dX12_readLine_61 : decode cX12_readLine 61 = .ok (.ifCond .ne 50, 3) := by decide +kernel
theorem dX12_readLine_64 : decode cX12_readLine 64 = .ok (.iload_n 1, 1) := by decide +kernel
theorem dX12_readLine_65 : decode cX12_readLine 65 = .ok (.i2l, 1) := by decide +kernel
theorem dX12_readLine_66 : decode cX12_readLine 66 = .ok (.ldc2_w 193, 3) := by decide +kernel
theorem dX12_readLine_69 : decode cX12_readLine 69 = .ok (.ldc2_w 195, 3) := by decide +kernel
theorem dX12_readLine_72 : decode cX12_readLine 72 = .ok (.invokestatic 115, 3) := by decide +kernel
theorem dX12_readLine_75 : decode cX12_readLine 75 = .ok (.ifCond .eq 36, 3) := by decide +kernel
theorem dX12_readLine_78 : decode cX12_readLine 78 = .ok (.aload_n 0, 1) := by decide +kernel
theorem dX12_readLine_79 : decode cX12_readLine 79 = .ok (.aload_n 0, 1) := by decide +kernel
theorem dX12_readLine_80 : decode cX12_readLine 80 = .ok (.getfield 94, 3) := by decide +kernel
theorem dX12_readLine_83 : decode cX12_readLine 83 = .ok (.iload_n 1, 1) := by decide +kernel
theorem dX12_readLine_84 : decode cX12_readLine 84 = .ok (.ishr, 1) := by decide +kernel
theorem dX12_readLine_85 : decode cX12_readLine 85 = .ok (.iconst 1, 1) := by decide +kernel
theorem dX12_readLine_86 : decode cX12_readLine 86 = .ok (.iand, 1) := by decide +kernel
theorem dX12_readLine_87 : decode cX12_readLine 87 = .ok (.ifCond .ne 7, 3) := by decide +kernel
theorem dX12_readLine_90 : decode cX12_readLine 90 = .ok (.iconst 1, 1) := by decide +kernel
theorem dX12_readLine_91 : decode cX12_readLine 91 = .ok (.goto 4, 3) := by decide +kernel
theorem dX12_readLine_94 : decode cX12_readLine 94 = .ok (.iconst 0, 1) := by decide +kernel
theorem dX12_readLine_95 : decode cX12_readLine 95 = .ok (.iconst 4, 1) := by decide +kernel
theorem dX12_readLine_96 : decode cX12_readLine 96 = .ok (.invokevirtual 161, 3) := by decide +kernel
theorem dX12_readLine_99 : decode cX12_readLine 99 = .ok (.aload_n 0, 1) := by decide +kernel
theorem dX12_readLine_100 : decode cX12_readLine 100 = .ok (.dup, 1) := by decide +kernel
theorem dX12_readLine_101 : decode cX12_readLine 101 = .ok (.getfield 94, 3) := by decide +kernel
theorem dX12_readLine_104 : decode cX12_readLine 104 = .ok (.iconst 1, 1) := by decide +kernel
theorem dX12_readLine_105 : decode cX12_readLine 105 = .ok (.iload_n 1, 1) := by decide +kernel
theorem dX12_readLine_106 : decode cX12_readLine 106 = .ok (.ishl, 1) := by decide +kernel
theorem dX12_readLine_107 : decode cX12_readLine 107 = .ok (.ior, 1) := by decide +kernel
theorem dX12_readLine_108 : decode cX12_readLine 108 = .ok (.putfield 94, 3) := by decide +kernel
theorem dX12_readLine_111 : decode cX12_readLine 111 = .ok (.aload_n 0, 1) := by decide +kernel
theorem dX12_readLine_112 : decode cX12_readLine 112 = .ok (.invokevirtual 168, 3) := by decide +kernel
theorem dX12_readLine_115 : decode cX12_readLine 115 = .ok (.aload_n 0, 1) := by decide +kernel
theorem dX12_readLine_116 : decode cX12_readLine 116 = .ok (.getfield 119, 3) := by decide +kernel
theorem dX12_readLine_119 : decode cX12_readLine 119 = .ok (.ifCond .le 4, 3) := by decide +kernel
theorem dX12_readLine_122 : decode cX12_readLine 122 = .ok (.return_, 1) := by decide +kernel
theorem dX12_readLine_123 : decode cX12_readLine 123 = .ok (.aload_n 0, 1) := by decide +kernel
theorem dX12_readLine_124 : decode cX12_readLine 124 = .ok (.iload_n 1, 1) := by decide +kernel
theorem dX12_readLine_125 : decode cX12_readLine 125 = .ok (.invokevirtual 197, 3) := by decide +kernel
theorem dX12_readLine_128 : decode cX12_readLine 128 = .ok (.aload_n 0, 1) := by decide +kernel
theorem dX12_readLine_129 : decode cX12_readLine 129 = .ok (.getfield 119, 3) := by decide +kernel
theorem dX12_readLine_132 : decode cX12_readLine 132 = .ok (.ifCond .ne 21, 3) := by decide +kernel
theorem dX12_readLine_135 : decode cX12_readLine 135 = .ok (.aload_n 0, 1) := by decide +kernel
theorem dX12_readLine_136 : decode cX12_readLine 136 = .ok (.aload_n 0, 1) := by decide +kernel
theorem dX12_readLine_137 : decode cX12_readLine 137 = .ok (.getfield 147, 3) := by decide +kernel
theorem dX12_readLine_140 : decode cX12_readLine 140 = .ok (.iconst 3, 1) := by decide +kernel
theorem dX12_readLine_141 : decode cX12_readLine 141 = .ok (.if_icmp .ne 7, 3) := by decide +kernel
theorem dX12_readLine_144 : decode cX12_readLine 144 = .ok (.iconst 1, 1) := by decide +kernel
theorem dX12_readLine_145 : decode cX12_readLine 145 = .ok (.goto 4, 3) := by decide +kernel
theorem dX12_readLine_148 : decode cX12_readLine 148 = .ok (.iconst 0, 1) := by decide +kernel
theorem dX12_readLine_149 : decode cX12_readLine 149 = .ok (.iconst 2, 1) := by decide +kernel
theorem dX12_readLine_150 : decode cX12_readLine 150 = .ok (.invokevirtual 161, 3) := by decide +kernel
theorem dX12_readLine_153 : decode cX12_readLine 153 = .ok (.aload_n 0, 1) := by decide +kernel
theorem dX12_readLine_154 : decode cX12_readLine 154 = .ok (.invokevirtual 168, 3) := by decide +kernel
theorem dX12_readLine_157 : decode cX12_readLine 157 = .ok (.return_, 1) := by decide +kernel
set_option maxRecDepth 20000 in
theorem ggX12_text_X12_firstDraft : GoodIn wsX12_text wsX12_firstDraft := goodIn_r _ [12, 13, 14, 5, 15, 16, 4, 108, 109, 110, 111, 112, 113, 114, 115, 116, 117, 118, 119, 120, 121, 122, 123, 124, 125, 126, 127, 128, 129, 130, 131, 132, 133, 134, 135, 136, 137, 138, 139, 140, 141, 142, 143, 144] rfl (by decide +kernel)
set_option maxRecDepth 20000 in
theorem gX12_text_X12_firstDraft : GoodIn wsX12_text (wsV RX12 81 RX12 yX12_firstDraft wsX12_firstDraft) := goodIn_app (goodIn_of _ (by decide +kernel)) ggX12_text_X12_firstDraft
set_option maxRecDepth 20000 in
theorem ggX12_text_X12_nextToken : GoodIn wsX12_text wsX12_nextToken := goodIn_r _ [20, 1, 2, 21, 3, 22, 23, 24, 25, 26, 27, 28, 29, 11, 30, 6, 31, 32, 33, 34, 35, 36, 37, 38, 7, 108, 109, 110, 111, 112, 113, 114, 115, 116, 117, 118, 119, 120, 121, 122, 123, 124, 125, 126, 127, 128, 129, 130, 131, 132, 133, 134, 135, 136, 137, 138, 139, 140, 141, 142, 143, 144] rfl (by decide +kernel)
set_option maxRecDepth 20000 in
theorem gX12_text_X12_nextToken : GoodIn wsX12_text (wsV RX12 168 RX12 yX12_nextToken wsX12_nextToken) := goodIn_app (goodIn_of _ (by decide +kernel)) ggX12_text_X12_nextToken
set_option maxRecDepth 20000 in
theorem ggX12_text_X12_readLine : GoodIn wsX12_text wsX12_readLine := goodIn_r _ [42, 3, 15, 1, 43, 44, 16, 45, 46, 47, 11, 48, 49, 50, 51, 52, 2, 21, 27, 28, 29, 30, 6, 31, 53, 54, 55, 56, 57, 58, 59, 60, 35, 36, 37, 38, 7, 32, 33, 34, 17, 18, 19, 20, 22, 23, 24, 25, 26, 61, 62, 63, 64, 5, 13, 14, 65, 66, 67, 68, 69, 70, 71, 72, 73, 74, 75, 76, 4, 77, 78, 79, 80, 81, 82, 83, 84, 85, 86, 87, 88, 89, 90, 91, 92, 93, 108, 109, 110, 111, 112, 113, 114, 115, 116, 117, 118, 119, 120, 121, 122, 123, 124, 125, 126, 127, 128, 129, 130, 131, 132, 133, 134, 135, 136, 137, 138, 139, 140, 141, 142, 143, 144] rfl (by decide +kernel)
set_option maxRecDepth 20000 in
theorem gX12_text_X12_readLine : GoodIn wsX12_text (wsV RX12 200 RX12 yX12_readLine wsX12_readLine) := goodIn_app (goodIn_of _ (by decide +kernel)) ggX12_text_X12_readLine
set_option maxRecDepth 20000 in
theorem ggX12_text_X12_needs : GoodIn wsX12_text wsX12_needs := goodIn_r _ [38, 1, 21, 7, 108, 109, 110, 111, 112, 113, 114, 115, 116, 117, 118, 119, 120, 121, 122, 123, 124, 125, 126, 127, 128, 129, 130, 131, 132, 133, 134, 135, 136, 137, 138, 139, 140, 141, 142, 143, 144] rfl (by decide +kernel)
set_option maxRecDepth 20000 in
theorem gX12_text_X12_needs : GoodIn wsX12_text (wsV RX12 161 RX12 yX12_needs wsX12_needs) := goodIn_app (goodIn_of _ (by decide +kernel)) ggX12_text_X12_needs
set_option maxRecDepth 20000 in
theorem ggX12_text_X12_keepDraft : GoodIn wsX12_text wsX12_keepDraft := goodIn_r _ [97, 98, 13, 5, 99, 15, 100, 101, 14, 102, 103, 104, 105, 106, 11, 107, 93, 108, 109, 110, 111, 112, 113, 114, 115, 116, 117, 118, 119, 120, 121, 122, 123, 124, 125, 126, 127, 128, 129, 130, 131, 132, 133, 134, 135, 136, 137, 138, 139, 140, 141, 142, 143, 144] rfl (by decide +kernel)
set_option maxRecDepth 20000 in
theorem gX12_text_X12_keepDraft : GoodIn wsX12_text (wsV RX12 84 RX12 yX12_keepDraft wsX12_keepDraft) := goodIn_app (goodIn_of _ (by decide +kernel)) ggX12_text_X12_keepDraft
theorem dX12_text_0 : decode cX12_text 0 = .ok (.iconst 0, 1) := by decide +kernel
theorem dX12_text_1 : decode cX12_text 1 = .ok (.istore_n 1, 1) := by decide +kernel
theorem dX12_text_2 : decode cX12_text 2 = .ok (.aload_n 0, 1) := by decide +kernel
theorem dX12_text_3 : decode cX12_text 3 = .ok (.iconst 0, 1) := by decide +kernel
theorem dX12_text_4 : decode cX12_text 4 = .ok (.putfield 119, 3) := by decide +kernel
theorem dX12_text_7 : decode cX12_text 7 = .ok (.aload_n 0, 1) := by decide +kernel
theorem dX12_text_8 : decode cX12_text 8 = .ok (.iconst 0, 1) := by decide +kernel
theorem dX12_text_9 : decode cX12_text 9 = .ok (.putfield 128, 3) := by decide +kernel
theorem dX12_text_12 : decode cX12_text 12 = .ok (.aload_n 0, 1) := by decide +kernel
theorem dX12_text_13 : decode cX12_text 13 = .ok (.invokevirtual 81, 3) := by decide +kernel
theorem dX12_text_16 : decode cX12_text 16 = .ok (.aload_n 0, 1) := by decide +kernel
theorem dX12_text_17 : decode cX12_text 17 = .ok (.invokevirtual 168, 3) := by decide +kernel
theorem dX12_text_20 : decode cX12_text 20 = .ok (.aload_n 0, 1) := by decide +kernel
theorem dX12_text_21 : decode cX12_text 21 = .ok (.getfield 119, 3) := by decide +kernel
theorem dX12_text_24 : decode cX12_text 24 = .ok (.ifCond .ne 20, 3) := by decide +kernel
theorem dX12_text_27 : decode cX12_text 27 = .ok (.aload_n 0, 1) := by decide +kernel
theorem dX12_text_28 : decode cX12_text 28 = .ok (.getfield 147, 3) := by decide +kernel
theorem dX12_text_31 : decode cX12_text 31 = .ok (.ifCond .eq 13, 3) := by decide +kernel
theorem dX12_text_34 : decode cX12_text 34 = .ok (.aload_n 0, 1) := by decide +kernel
theorem dX12_text_35 : decode cX12_text 35 = .ok (.invokevirtual 200, 3) := by decide +kernel
theorem dX12_text_38 : decode cX12_text 38 = .ok (.iinc 1 1, 3) := by decide +kernel
theorem dX12_text_41 : decode cX12_text 41 = .ok (.goto (-21), 3) := by decide +kernel
theorem dX12_text_44 : decode cX12_text 44 = .ok (.aload_n 0, 1) := by decide +kernel
theorem dX12_text_45 : decode cX12_text 45 = .ok (.getfield 119, 3) := by decide +kernel
theorem dX12_text_48 : decode cX12_text 48 = .ok (.ifCond .ne 25, 3) := by decide +kernel
theorem dX12_text_51 : decode cX12_text 51 = .ok (.aload_n 0, 1) := by decide +kernel
theorem dX12_text_52 : decode cX12_text 52 = .ok (.aload_n 0, 1) := by decide +kernel
theorem dX12_text_53 : decode cX12_text 53 = .ok (.getfield 97, 3) := by decide +kernel
theorem dX12_text_56 : decode cX12_text 56 = .ok (.aload_n 0, 1) := by decide +kernel
theorem dX12_text_57 : decode cX12_text 57 = .ok (.getfield 87, 3) := by decide +kernel
theorem dX12_text_60 : decode cX12_text 60 = .ok (.if_icmp .ge 7, 3) := by decide +kernel
theorem dX12_text_63 : decode cX12_text 63 = .ok (.iconst 1, 1) := by decide +kernel
theorem dX12_text_64 : decode cX12_text 64 = .ok (.goto 4, 3) := by decide +kernel
theorem dX12_text_67 : decode cX12_text 67 = .ok (.iconst 0, 1) := by decide +kernel
theorem dX12_text_68 : decode cX12_text 68 = .ok (.bipush 6, 2) := by decide +kernel
theorem dX12_text_70 : decode cX12_text 70 = .ok (.invokevirtual 161, 3) := by decide +kernel
theorem dX12_text_73 : decode cX12_text 73 = .ok (.aload_n 0, 1) := by decide +kernel
theorem dX12_text_74 : decode cX12_text 74 = .ok (.iconst 0, 1) := by decide +kernel
theorem dX12_text_75 : decode cX12_text 75 = .ok (.putfield 110, 3) := by decide +kernel
theorem dX12_text_78 : decode cX12_text 78 = .ok (.aload_n 0, 1) := by decide +kernel
theorem dX12_text_79 : decode cX12_text 79 = .ok (.getfield 119, 3) := by decide +kernel
theorem dX12_text_82 : decode cX12_text 82 = .ok (.ifCond .le 11, 3) := by decide +kernel
theorem dX12_text_85 : decode cX12_text 85 = .ok (.bipush (-10), 2) := by decide +kernel
theorem dX12_text_87 : decode cX12_text 87 = .ok (.aload_n 0, 1) := by decide +kernel
theorem dX12_text_88 : decode cX12_text 88 = .ok (.getfield 125, 3) := by decide +kernel
theorem dX12_text_91 : decode cX12_text 91 = .ok (.isub, 1) := by decide +kernel
theorem dX12_text_92 : decode cX12_text 92 = .ok (.ireturn, 1) := by decide +kernel
theorem dX12_text_93 : decode cX12_text 93 = .ok (.aload_n 0, 1) := by decide +kernel
theorem dX12_text_94 : decode cX12_text 94 = .ok (.invokevirtual 84, 3) := by decide +kernel
theorem dX12_text_97 : decode cX12_text 97 = .ok (.iload_n 1, 1) := by decide +kernel
theorem dX12_text_98 : decode cX12_text 98 = .ok (.ireturn, 1) := by decide +kernel
theorem dX12_fault_0 : decode cX12_fault 0 = .ok (.aload_n 0, 1) := by decide +kernel
theorem dX12_fault_1 : decode cX12_fault 1 = .ok (.getfield 119, 3) := by decide +kernel
theorem dX12_fault_4 : decode cX12_fault 4 = .ok (.ireturn, 1) := by decide +kernel
set_option maxRecDepth 20000 in
theorem ggX12_isSeat_X12_in : GoodIn wsX12_isSeat wsX12_in := goodIn_r _ [5] rfl (by decide +kernel)
set_option maxRecDepth 20000 in
theorem gX12_isSeat_X12_in : GoodIn wsX12_isSeat (va_wsS RX12 115 yX12_in wsX12_in) := goodIn_app (goodIn_of _ (by decide +kernel)) ggX12_isSeat_X12_in
theorem dX12_isSeat_0 : decode cX12_isSeat 0 = .ok (.iload_n 1, 1) := by decide +kernel
theorem dX12_isSeat_1 : decode cX12_isSeat 1 = .ok (.i2l, 1) := by decide +kernel
theorem dX12_isSeat_2 : decode cX12_isSeat 2 = .ok (.lconst 0, 1) := by decide +kernel
theorem dX12_isSeat_3 : decode cX12_isSeat 3 = .ok (.aload_n 0, 1) := by decide +kernel
theorem dX12_isSeat_4 : decode cX12_isSeat 4 = .ok (.getfield 100, 3) := by decide +kernel
theorem dX12_isSeat_7 : decode cX12_isSeat 7 = .ok (.iconst 1, 1) := by decide +kernel
theorem dX12_isSeat_8 : decode cX12_isSeat 8 = .ok (.isub, 1) := by decide +kernel
theorem dX12_isSeat_9 : decode cX12_isSeat 9 = .ok (.i2l, 1) := by decide +kernel
theorem dX12_isSeat_10 : decode cX12_isSeat 10 = .ok (.invokestatic 115, 3) := by decide +kernel
theorem dX12_isSeat_13 : decode cX12_isSeat 13 = .ok (.ireturn, 1) := by decide +kernel
set_option maxRecDepth 20000 in
theorem ggX12_isStir_X12_in : GoodIn wsX12_isStir wsX12_in := goodIn_r _ [5] rfl (by decide +kernel)
set_option maxRecDepth 20000 in
theorem gX12_isStir_X12_in : GoodIn wsX12_isStir (va_wsS RX12 115 yX12_in wsX12_in) := goodIn_app (goodIn_of _ (by decide +kernel)) ggX12_isStir_X12_in
theorem dX12_isStir_0 : decode cX12_isStir 0 = .ok (.iload_n 1, 1) := by decide +kernel
theorem dX12_isStir_1 : decode cX12_isStir 1 = .ok (.i2l, 1) := by decide +kernel
theorem dX12_isStir_2 : decode cX12_isStir 2 = .ok (.lconst 0, 1) := by decide +kernel
theorem dX12_isStir_3 : decode cX12_isStir 3 = .ok (.aload_n 0, 1) := by decide +kernel
theorem dX12_isStir_4 : decode cX12_isStir 4 = .ok (.getfield 103, 3) := by decide +kernel
theorem dX12_isStir_7 : decode cX12_isStir 7 = .ok (.iconst 1, 1) := by decide +kernel
theorem dX12_isStir_8 : decode cX12_isStir 8 = .ok (.isub, 1) := by decide +kernel
theorem dX12_isStir_9 : decode cX12_isStir 9 = .ok (.i2l, 1) := by decide +kernel
theorem dX12_isStir_10 : decode cX12_isStir 10 = .ok (.invokestatic 115, 3) := by decide +kernel
theorem dX12_isStir_13 : decode cX12_isStir 13 = .ok (.ireturn, 1) := by decide +kernel
theorem dX12_rule_0 : decode cX12_rule 0 = .ok (.iload_n 1, 1) := by decide +kernel
theorem dX12_rule_1 : decode cX12_rule 1 = .ok (.tableswitch 69 0 4 #[35, 40, 45, 53, 61], 35) := by decide +kernel
theorem dX12_rule_36 : decode cX12_rule 36 = .ok (.aload_n 0, 1) := by decide +kernel
theorem dX12_rule_37 : decode cX12_rule 37 = .ok (.getfield 100, 3) := by decide +kernel
theorem dX12_rule_40 : decode cX12_rule 40 = .ok (.ireturn, 1) := by decide +kernel
theorem dX12_rule_41 : decode cX12_rule 41 = .ok (.aload_n 0, 1) := by decide +kernel
theorem dX12_rule_42 : decode cX12_rule 42 = .ok (.getfield 103, 3) := by decide +kernel
theorem dX12_rule_45 : decode cX12_rule 45 = .ok (.ireturn, 1) := by decide +kernel
theorem dX12_rule_46 : decode cX12_rule 46 = .ok (.aload_n 0, 1) := by decide +kernel
theorem dX12_rule_47 : decode cX12_rule 47 = .ok (.getfield 7, 3) := by decide +kernel
theorem dX12_rule_50 : decode cX12_rule 50 = .ok (.bipush 8, 2) := by decide +kernel
theorem dX12_rule_52 : decode cX12_rule 52 = .ok (.iaload, 1) := by decide +kernel
theorem dX12_rule_53 : decode cX12_rule 53 = .ok (.ireturn, 1) := by decide +kernel
theorem dX12_rule_54 : decode cX12_rule 54 = .ok (.aload_n 0, 1) := by decide +kernel
theorem dX12_rule_55 : decode cX12_rule 55 = .ok (.getfield 7, 3) := by decide +kernel
theorem dX12_rule_58 : decode cX12_rule 58 = .ok (.bipush 30, 2) := by decide +kernel
theorem dX12_rule_60 : decode cX12_rule 60 = .ok (.iaload, 1) := by decide +kernel
theorem dX12_rule_61 : decode cX12_rule 61 = .ok (.ireturn, 1) := by decide +kernel
theorem dX12_rule_62 : decode cX12_rule 62 = .ok (.aload_n 0, 1) := by decide +kernel
theorem dX12_rule_63 : decode cX12_rule 63 = .ok (.getfield 7, 3) := by decide +kernel
theorem dX12_rule_66 : decode cX12_rule 66 = .ok (.bipush 7, 2) := by decide +kernel
theorem dX12_rule_68 : decode cX12_rule 68 = .ok (.iaload, 1) := by decide +kernel
theorem dX12_rule_69 : decode cX12_rule 69 = .ok (.ireturn, 1) := by decide +kernel
theorem dX12_rule_70 : decode cX12_rule 70 = .ok (.iconst (-1), 1) := by decide +kernel
theorem dX12_rule_71 : decode cX12_rule 71 = .ok (.ireturn, 1) := by decide +kernel
set_option maxRecDepth 20000 in
theorem ggX12_pot_X12_isSeat : GoodIn wsX12_pot wsX12_isSeat := goodIn_r _ [6, 7, 8, 9, 5, 10, 11, 12, 13, 14, 15, 16, 17, 18, 19, 20, 21, 22, 23, 24, 25, 26, 27, 28, 29, 30, 31, 32, 33, 34, 35, 36, 37, 38, 39, 40, 41, 42, 43, 44, 45, 46, 47] rfl (by decide +kernel)
set_option maxRecDepth 20000 in
theorem gX12_pot_X12_isSeat : GoodIn wsX12_pot (wsV RX12 203 RX12 yX12_isSeat wsX12_isSeat) := goodIn_app (goodIn_of _ (by decide +kernel)) ggX12_pot_X12_isSeat
theorem dX12_pot_0 : decode cX12_pot 0 = .ok (.aload_n 0, 1) := by decide +kernel
theorem dX12_pot_1 : decode cX12_pot 1 = .ok (.iload_n 1, 1) := by decide +kernel
theorem dX12_pot_2 : decode cX12_pot 2 = .ok (.invokevirtual 203, 3) := by decide +kernel
theorem dX12_pot_5 : decode cX12_pot 5 = .ok (.ifCond .eq 12, 3) := by decide +kernel
theorem dX12_pot_8 : decode cX12_pot 8 = .ok (.aload_n 0, 1) := by decide +kernel
theorem dX12_pot_9 : decode cX12_pot 9 = .ok (.getfield 7, 3) := by decide +kernel
theorem dX12_pot_12 : decode cX12_pot 12 = .ok (.iload_n 1, 1) := by decide +kernel
theorem dX12_pot_13 : decode cX12_pot 13 = .ok (.iaload, 1) := by decide +kernel
theorem dX12_pot_14 : decode cX12_pot 14 = .ok (.goto 4, 3) := by decide +kernel
theorem dX12_pot_17 : decode cX12_pot 17 = .ok (.iconst (-1), 1) := by decide +kernel
theorem dX12_pot_18 : decode cX12_pot 18 = .ok (.ireturn, 1) := by decide +kernel
set_option maxRecDepth 20000 in
theorem ggX12_one_X12_isSeat : GoodIn wsX12_one wsX12_isSeat := goodIn_r _ [7, 8, 9, 10, 6, 11, 12, 13, 14, 15, 16, 17, 18, 19, 20, 21, 22, 23, 24, 25, 26, 27, 28, 29, 30, 31, 32, 33, 34, 35, 36, 37, 38, 39, 40, 41, 42, 43, 44, 45, 46, 47, 48] rfl (by decide +kernel)
set_option maxRecDepth 20000 in
theorem gX12_one_X12_isSeat : GoodIn wsX12_one (wsV RX12 203 RX12 yX12_isSeat wsX12_isSeat) := goodIn_app (goodIn_of _ (by decide +kernel)) ggX12_one_X12_isSeat
theorem dX12_one_0 : decode cX12_one 0 = .ok (.aload_n 0, 1) := by decide +kernel
theorem dX12_one_1 : decode cX12_one 1 = .ok (.iload_n 1, 1) := by decide +kernel
theorem dX12_one_2 : decode cX12_one 2 = .ok (.invokevirtual 203, 3) := by decide +kernel
theorem dX12_one_5 : decode cX12_one 5 = .ok (.ifCond .ne 5, 3) := by decide +kernel
theorem dX12_one_8 : decode cX12_one 8 = .ok (.iconst (-1), 1) := by decide +kernel
theorem dX12_one_9 : decode cX12_one 9 = .ok (.ireturn, 1) := by decide +kernel
theorem dX12_one_10 : decode cX12_one 10 = .ok (.iload_n 2, 1) := by decide +kernel
theorem dX12_one_11 : decode cX12_one 11 = .ok (.tableswitch 66 0 3 #[29, 39, 49, 56], 29) := by decide +kernel
theorem dX12_one_40 : decode cX12_one 40 = .ok (.aload_n 0, 1) := by decide +kernel
theorem dX12_one_41 : decode cX12_one 41 = .ok (.getfield 7, 3) := by decide +kernel
theorem dX12_one_44 : decode cX12_one 44 = .ok (.bipush 9, 2) := by decide +kernel
theorem dX12_one_46 : decode cX12_one 46 = .ok (.iload_n 1, 1) := by decide +kernel
theorem dX12_one_47 : decode cX12_one 47 = .ok (.iadd, 1) := by decide +kernel
theorem dX12_one_48 : decode cX12_one 48 = .ok (.iaload, 1) := by decide +kernel
theorem dX12_one_49 : decode cX12_one 49 = .ok (.ireturn, 1) := by decide +kernel
theorem dX12_one_50 : decode cX12_one 50 = .ok (.aload_n 0, 1) := by decide +kernel
theorem dX12_one_51 : decode cX12_one 51 = .ok (.getfield 7, 3) := by decide +kernel
theorem dX12_one_54 : decode cX12_one 54 = .ok (.bipush 16, 2) := by decide +kernel
theorem dX12_one_56 : decode cX12_one 56 = .ok (.iload_n 1, 1) := by decide +kernel
theorem dX12_one_57 : decode cX12_one 57 = .ok (.iadd, 1) := by decide +kernel
theorem dX12_one_58 : decode cX12_one 58 = .ok (.iaload, 1) := by decide +kernel
theorem dX12_one_59 : decode cX12_one 59 = .ok (.ireturn, 1) := by decide +kernel
theorem dX12_one_60 : decode cX12_one 60 = .ok (.aload_n 0, 1) := by decide +kernel
theorem dX12_one_61 : decode cX12_one 61 = .ok (.getfield 20, 3) := by decide +kernel
theorem dX12_one_64 : decode cX12_one 64 = .ok (.iload_n 1, 1) := by decide +kernel
theorem dX12_one_65 : decode cX12_one 65 = .ok (.iaload, 1) := by decide +kernel
theorem dX12_one_66 : decode cX12_one 66 = .ok (.ireturn, 1) := by decide +kernel
theorem dX12_one_67 : decode cX12_one 67 = .ok (.aload_n 0, 1) := by decide +kernel
theorem dX12_one_68 : decode cX12_one 68 = .ok (.getfield 7, 3) := by decide +kernel
theorem dX12_one_71 : decode cX12_one 71 = .ok (.bipush 23, 2) := by decide +kernel
theorem dX12_one_73 : decode cX12_one 73 = .ok (.iload_n 1, 1) := by decide +kernel
theorem dX12_one_74 : decode cX12_one 74 = .ok (.iadd, 1) := by decide +kernel
theorem dX12_one_75 : decode cX12_one 75 = .ok (.iaload, 1) := by decide +kernel
theorem dX12_one_76 : decode cX12_one 76 = .ok (.ireturn, 1) := by decide +kernel
theorem dX12_one_77 : decode cX12_one 77 = .ok (.iconst (-1), 1) := by decide +kernel
theorem dX12_one_78 : decode cX12_one 78 = .ok (.ireturn, 1) := by decide +kernel
set_option maxRecDepth 20000 in
theorem ggX12_stir_X12_isStir : GoodIn wsX12_stir wsX12_isStir := goodIn_r _ [6, 7, 8, 9, 5, 10, 16, 17, 18, 19, 20, 21, 22, 23, 24, 25, 26, 27, 28, 29, 30, 31, 32, 33, 34, 35, 36, 37, 38, 39, 40, 41, 42, 43, 44, 45, 46, 47, 48, 49, 50, 51, 52] rfl (by decide +kernel)
set_option maxRecDepth 20000 in
theorem gX12_stir_X12_isStir : GoodIn wsX12_stir (wsV RX12 207 RX12 yX12_isStir wsX12_isStir) := goodIn_app (goodIn_of _ (by decide +kernel)) ggX12_stir_X12_isStir
set_option maxRecDepth 20000 in
theorem ggX12_stir_X12_isSeat : GoodIn wsX12_stir wsX12_isSeat := goodIn_r _ [14, 15, 8, 9, 5, 10, 16, 17, 18, 19, 20, 21, 22, 23, 24, 25, 26, 27, 28, 29, 30, 31, 32, 33, 34, 35, 36, 37, 38, 39, 40, 41, 42, 43, 44, 45, 46, 47, 48, 49, 50, 51, 52] rfl (by decide +kernel)
set_option maxRecDepth 20000 in
theorem gX12_stir_X12_isSeat : GoodIn wsX12_stir (wsV RX12 203 RX12 yX12_isSeat wsX12_isSeat) := goodIn_app (goodIn_of _ (by decide +kernel)) ggX12_stir_X12_isSeat
theorem dX12_stir_0 : decode cX12_stir 0 = .ok (.aload_n 0, 1) := by decide +kernel
theorem dX12_stir_1 : decode cX12_stir 1 = .ok (.iload_n 1, 1) := by decide +kernel
theorem dX12_stir_2 : decode cX12_stir 2 = .ok (.invokevirtual 207, 3) := by decide +kernel
theorem dX12_stir_5 : decode cX12_stir 5 = .ok (.ifCond .eq 25, 3) := by decide +kernel
theorem dX12_stir_8 : decode cX12_stir 8 = .ok (.aload_n 0, 1) := by decide +kernel
theorem dX12_stir_9 : decode cX12_stir 9 = .ok (.iload_n 2, 1) := by decide +kernel
theorem dX12_stir_10 : decode cX12_stir 10 = .ok (.invokevirtual 203, 3) := by decide +kernel
theorem dX12_stir_13 : decode cX12_stir 13 = .ok (.ifCond .eq 17, 3) := by decide +kernel
theorem dX12_stir_16 : decode cX12_stir 16 = .ok (.aload_n 0, 1) := by decide +kernel
theorem dX12_stir_17 : decode cX12_stir 17 = .ok (.getfield 17, 3) := by decide +kernel
theorem dX12_stir_20 : decode cX12_stir 20 = .ok (.bipush 7, 2) := by decide +kernel
theorem dX12_stir_22 : decode cX12_stir 22 = .ok (.iload_n 1, 1) := by decide +kernel
theorem dX12_stir_23 : decode cX12_stir 23 = .ok (.imul, 1) := by decide +kernel
theorem dX12_stir_24 : decode cX12_stir 24 = .ok (.iload_n 2, 1) := by decide +kernel
theorem dX12_stir_25 : decode cX12_stir 25 = .ok (.iadd, 1) := by decide +kernel
theorem dX12_stir_26 : decode cX12_stir 26 = .ok (.iaload, 1) := by decide +kernel
theorem dX12_stir_27 : decode cX12_stir 27 = .ok (.goto 4, 3) := by decide +kernel
theorem dX12_stir_30 : decode cX12_stir 30 = .ok (.iconst (-1), 1) := by decide +kernel
theorem dX12_stir_31 : decode cX12_stir 31 = .ok (.ireturn, 1) := by decide +kernel
set_option maxRecDepth 20000 in
theorem ggX12_befriend_X12_isSeat : GoodIn wsX12_befriend wsX12_isSeat := goodIn_r _ [6, 7, 8, 9, 5, 10, 11, 12, 13, 14, 15, 16, 17, 18, 19, 20, 21, 22, 23, 24, 25, 26, 27, 28, 29, 30, 31, 32, 33, 34, 35, 36, 37, 38, 39, 40, 41, 42, 43, 44, 45, 46, 47] rfl (by decide +kernel)
set_option maxRecDepth 20000 in
theorem gX12_befriend_X12_isSeat : GoodIn wsX12_befriend (wsV RX12 203 RX12 yX12_isSeat wsX12_isSeat) := goodIn_app (goodIn_of _ (by decide +kernel)) ggX12_befriend_X12_isSeat
theorem dX12_befriend_0 : decode cX12_befriend 0 = .ok (.aload_n 0, 1) := by decide +kernel
theorem dX12_befriend_1 : decode cX12_befriend 1 = .ok (.iload_n 1, 1) := by decide +kernel
theorem dX12_befriend_2 : decode cX12_befriend 2 = .ok (.invokevirtual 203, 3) := by decide +kernel
theorem dX12_befriend_5 : decode cX12_befriend 5 = .ok (.ifCond .eq 16, 3) := by decide +kernel
theorem dX12_befriend_8 : decode cX12_befriend 8 = .ok (.aload_n 0, 1) := by decide +kernel
theorem dX12_befriend_9 : decode cX12_befriend 9 = .ok (.iload_n 2, 1) := by decide +kernel
theorem dX12_befriend_10 : decode cX12_befriend 10 = .ok (.invokevirtual 203, 3) := by decide +kernel
theorem dX12_befriend_13 : decode cX12_befriend 13 = .ok (.ifCond .eq 8, 3) := by decide +kernel
theorem dX12_befriend_16 : decode cX12_befriend 16 = .ok (.iload_n 1, 1) := by decide +kernel
theorem dX12_befriend_17 : decode cX12_befriend 17 = .ok (.iload_n 2, 1) := by decide +kernel
theorem dX12_befriend_18 : decode cX12_befriend 18 = .ok (.if_icmp .ne 5, 3) := by decide +kernel
theorem dX12_befriend_21 : decode cX12_befriend 21 = .ok (.iconst (-1), 1) := by decide +kernel
theorem dX12_befriend_22 : decode cX12_befriend 22 = .ok (.ireturn, 1) := by decide +kernel
theorem dX12_befriend_23 : decode cX12_befriend 23 = .ok (.aload_n 0, 1) := by decide +kernel
theorem dX12_befriend_24 : decode cX12_befriend 24 = .ok (.getfield 7, 3) := by decide +kernel
theorem dX12_befriend_27 : decode cX12_befriend 27 = .ok (.bipush 9, 2) := by decide +kernel
theorem dX12_befriend_29 : decode cX12_befriend 29 = .ok (.iload_n 1, 1) := by decide +kernel
theorem dX12_befriend_30 : decode cX12_befriend 30 = .ok (.iadd, 1) := by decide +kernel
theorem dX12_befriend_31 : decode cX12_befriend 31 = .ok (.iaload, 1) := by decide +kernel
theorem dX12_befriend_32 : decode cX12_befriend 32 = .ok (.iload_n 2, 1) := by decide +kernel
theorem dX12_befriend_33 : decode cX12_befriend 33 = .ok (.ishr, 1) := by decide +kernel
theorem dX12_befriend_34 : decode cX12_befriend 34 = .ok (.iconst 1, 1) := by decide +kernel
theorem dX12_befriend_35 : decode cX12_befriend 35 = .ok (.iand, 1) := by decide +kernel
theorem dX12_befriend_36 : decode cX12_befriend 36 = .ok (.istore 4, 2) := by decide +kernel
theorem dX12_befriend_38 : decode cX12_befriend 38 = .ok (.aload_n 0, 1) := by decide +kernel
theorem dX12_befriend_39 : decode cX12_befriend 39 = .ok (.getfield 7, 3) := by decide +kernel
theorem dX12_befriend_42 : decode cX12_befriend 42 = .ok (.bipush 9, 2) := by decide +kernel
theorem dX12_befriend_44 : decode cX12_befriend 44 = .ok (.iload_n 1, 1) := by decide +kernel
theorem dX12_befriend_45 : decode cX12_befriend 45 = .ok (.iadd, 1) := by decide +kernel
theorem dX12_befriend_46 : decode cX12_befriend 46 = .ok (.iload_n 3, 1) := by decide +kernel
theorem dX12_befriend_47 : decode cX12_befriend 47 = .ok (.ifCond .eq 19, 3) := by decide +kernel
theorem dX12_befriend_50 : decode cX12_befriend 50 = .ok (.aload_n 0, 1) := by decide +kernel
theorem dX12_befriend_51 : decode cX12_befriend 51 = .ok (.getfield 7, 3) := by decide +kernel
theorem dX12_befriend_54 : decode cX12_befriend 54 = .ok (.bipush 9, 2) := by decide +kernel
theorem dX12_befriend_56 : decode cX12_befriend 56 = .ok (.iload_n 1, 1) := by decide +kernel
theorem dX12_befriend_57 : decode cX12_befriend 57 = .ok (.iadd, 1) := by decide +kernel
theorem dX12_befriend_58 : decode cX12_befriend 58 = .ok (.iaload, 1) := by decide +kernel
theorem dX12_befriend_59 : decode cX12_befriend 59 = .ok (.iconst 1, 1) := by decide +kernel
theorem dX12_befriend_60 : decode cX12_befriend 60 = .ok (.iload_n 2, 1) := by decide +kernel
theorem dX12_befriend_61 : decode cX12_befriend 61 = .ok (.ishl, 1) := by decide +kernel
theorem dX12_befriend_62 : decode cX12_befriend 62 = .ok (.ior, 1) := by decide +kernel
theorem dX12_befriend_63 : decode cX12_befriend 63 = .ok (.goto 18, 3) := by decide +kernel
theorem dX12_befriend_66 : decode cX12_befriend 66 = .ok (.aload_n 0, 1) := by decide +kernel
theorem dX12_befriend_67 : decode cX12_befriend 67 = .ok (.getfield 7, 3) := by decide +kernel
theorem dX12_befriend_70 : decode cX12_befriend 70 = .ok (.bipush 9, 2) := by decide +kernel
theorem dX12_befriend_72 : decode cX12_befriend 72 = .ok (.iload_n 1, 1) := by decide +kernel
theorem dX12_befriend_73 : decode cX12_befriend 73 = .ok (.iadd, 1) := by decide +kernel
theorem dX12_befriend_74 : decode cX12_befriend 74 = .ok (.iaload, 1) := by decide +kernel
theorem dX12_befriend_75 : decode cX12_befriend 75 = .ok (.iconst 1, 1) := by decide +kernel
theorem dX12_befriend_76 : decode cX12_befriend 76 = .ok (.iload_n 2, 1) := by decide +kernel
theorem dX12_befriend_77 : decode cX12_befriend 77 = .ok (.ishl, 1) := by decide +kernel
theorem dX12_befriend_78 : decode cX12_befriend 78 = .ok (.iconst (-1), 1) := by decide +kernel
theorem dX12_befriend_79 : decode cX12_befriend 79 = .ok (.ixor, 1) := by decide +kernel
theorem dX12_befriend_80 : decode cX12_befriend 80 = .ok (.iand, 1) := by decide +kernel
theorem dX12_befriend_81 : decode cX12_befriend 81 = .ok (.iastore, 1) := by decide +kernel
theorem dX12_befriend_82 : decode cX12_befriend 82 = .ok (.iload 4, 2) := by decide +kernel
theorem dX12_befriend_84 : decode cX12_befriend 84 = .ok (.ireturn, 1) := by decide +kernel
set_option maxRecDepth 20000 in
theorem ggX12_spoon_X12_isSeat : GoodIn wsX12_spoon wsX12_isSeat := goodIn_r _ [7, 8, 9, 10, 6, 11, 12, 13, 14, 15, 16, 17, 18, 19, 20, 21, 22, 23, 24, 25, 26, 27, 28, 29, 30, 31, 32, 33, 34, 35, 36, 37, 38, 39, 40, 41, 42, 43, 44, 45, 46, 47, 48] rfl (by decide +kernel)
set_option maxRecDepth 20000 in
theorem gX12_spoon_X12_isSeat : GoodIn wsX12_spoon (wsV RX12 203 RX12 yX12_isSeat wsX12_isSeat) := goodIn_app (goodIn_of _ (by decide +kernel)) ggX12_spoon_X12_isSeat
set_option maxRecDepth 20000 in
theorem ggX12_spoon_X12_in : GoodIn wsX12_spoon wsX12_in := goodIn_r _ [11] rfl (by decide +kernel)
set_option maxRecDepth 20000 in
theorem gX12_spoon_X12_in : GoodIn wsX12_spoon (va_wsS RX12 115 yX12_in wsX12_in) := goodIn_app (goodIn_of _ (by decide +kernel)) ggX12_spoon_X12_in
theorem dX12_spoon_0 : decode cX12_spoon 0 = .ok (.aload_n 0, 1) := by decide +kernel
theorem dX12_spoon_1 : decode cX12_spoon 1 = .ok (.iload_n 1, 1) := by decide +kernel
theorem dX12_spoon_2 : decode cX12_spoon 2 = .ok (.invokevirtual 203, 3) := by decide +kernel
theorem dX12_spoon_5 : decode cX12_spoon 5 = .ok (.ifCond .eq 15, 3) := by decide +kernel
theorem dX12_spoon_8 : decode cX12_spoon 8 = .ok (.iload_n 2, 1) := by decide +kernel
theorem dX12_spoon_9 : decode cX12_spoon 9 = .ok (.i2l, 1) := by decide +kernel
theorem dX12_spoon_10 : decode cX12_spoon 10 = .ok (.lconst 1, 1) := by decide +kernel
theorem dX12_spoon_11 : decode cX12_spoon 11 = .ok (.ldc2_w 210, 3) := by decide +kernel
theorem dX12_spoon_14 : decode cX12_spoon 14 = .ok (.invokestatic 115, 3) := by decide +kernel
theorem dX12_spoon_17 : decode cX12_spoon 17 = .ok (.ifCond .ne 5, 3) := by decide +kernel
theorem dX12_spoon_20 : decode cX12_spoon 20 = .ok (.iconst (-1), 1) := by decide +kernel
theorem dX12_spoon_21 : decode cX12_spoon 21 = .ok (.ireturn, 1) := by decide +kernel
theorem dX12_spoon_22 : decode cX12_spoon 22 = .ok (.aload_n 0, 1) := by decide +kernel
theorem dX12_spoon_23 : decode cX12_spoon 23 = .ok (.getfield 7, 3) := by decide +kernel
theorem dX12_spoon_26 : decode cX12_spoon 26 = .ok (.bipush 16, 2) := by decide +kernel
theorem dX12_spoon_28 : decode cX12_spoon 28 = .ok (.iload_n 1, 1) := by decide +kernel
theorem dX12_spoon_29 : decode cX12_spoon 29 = .ok (.iadd, 1) := by decide +kernel
theorem dX12_spoon_30 : decode cX12_spoon 30 = .ok (.iaload, 1) := by decide +kernel
theorem dX12_spoon_31 : decode cX12_spoon 31 = .ok (.istore_n 3, 1) := by decide +kernel
theorem dX12_spoon_32 : decode cX12_spoon 32 = .ok (.aload_n 0, 1) := by decide +kernel
theorem dX12_spoon_33 : decode cX12_spoon 33 = .ok (.getfield 7, 3) := by decide +kernel
theorem dX12_spoon_36 : decode cX12_spoon 36 = .ok (.bipush 16, 2) := by decide +kernel
theorem dX12_spoon_38 : decode cX12_spoon 38 = .ok (.iload_n 1, 1) := by decide +kernel
theorem dX12_spoon_39 : decode cX12_spoon 39 = .ok (.iadd, 1) := by decide +kernel
theorem dX12_spoon_40 : decode cX12_spoon 40 = .ok (.iload_n 2, 1) := by decide +kernel
theorem dX12_spoon_41 : decode cX12_spoon 41 = .ok (.iastore, 1) := by decide +kernel
theorem dX12_spoon_42 : decode cX12_spoon 42 = .ok (.iload_n 3, 1) := by decide +kernel
theorem dX12_spoon_43 : decode cX12_spoon 43 = .ok (.ireturn, 1) := by decide +kernel
set_option maxRecDepth 20000 in
theorem ggX12_crown_X12_isSeat : GoodIn wsX12_crown wsX12_isSeat := goodIn_r _ [6, 7, 8, 9, 5, 10, 11, 12, 13, 14, 15, 16, 17, 18, 19, 20, 21, 22, 23, 24, 25, 26, 27, 28, 29, 30, 31, 32, 33, 34, 35, 36, 37, 38, 39, 40, 41, 42, 43, 44, 45, 46, 47] rfl (by decide +kernel)
set_option maxRecDepth 20000 in
theorem gX12_crown_X12_isSeat : GoodIn wsX12_crown (wsV RX12 203 RX12 yX12_isSeat wsX12_isSeat) := goodIn_app (goodIn_of _ (by decide +kernel)) ggX12_crown_X12_isSeat
theorem dX12_crown_0 : decode cX12_crown 0 = .ok (.aload_n 0, 1) := by decide +kernel
theorem dX12_crown_1 : decode cX12_crown 1 = .ok (.iload_n 1, 1) := by decide +kernel
theorem dX12_crown_2 : decode cX12_crown 2 = .ok (.invokevirtual 203, 3) := by decide +kernel
theorem dX12_crown_5 : decode cX12_crown 5 = .ok (.ifCond .ne 5, 3) := by decide +kernel
theorem dX12_crown_8 : decode cX12_crown 8 = .ok (.iconst (-1), 1) := by decide +kernel
theorem dX12_crown_9 : decode cX12_crown 9 = .ok (.ireturn, 1) := by decide +kernel
theorem dX12_crown_10 : decode cX12_crown 10 = .ok (.aload_n 0, 1) := by decide +kernel
theorem dX12_crown_11 : decode cX12_crown 11 = .ok (.getfield 7, 3) := by decide +kernel
theorem dX12_crown_14 : decode cX12_crown 14 = .ok (.bipush 8, 2) := by decide +kernel
theorem dX12_crown_16 : decode cX12_crown 16 = .ok (.iaload, 1) := by decide +kernel
theorem dX12_crown_17 : decode cX12_crown 17 = .ok (.istore_n 2, 1) := by decide +kernel
theorem dX12_crown_18 : decode cX12_crown 18 = .ok (.aload_n 0, 1) := by decide +kernel
theorem dX12_crown_19 : decode cX12_crown 19 = .ok (.getfield 7, 3) := by decide +kernel
theorem dX12_crown_22 : decode cX12_crown 22 = .ok (.bipush 8, 2) := by decide +kernel
theorem dX12_crown_24 : decode cX12_crown 24 = .ok (.iload_n 1, 1) := by decide +kernel
theorem dX12_crown_25 : decode cX12_crown 25 = .ok (.iastore, 1) := by decide +kernel
theorem dX12_crown_26 : decode cX12_crown 26 = .ok (.iload_n 2, 1) := by decide +kernel
theorem dX12_crown_27 : decode cX12_crown 27 = .ok (.ireturn, 1) := by decide +kernel
set_option maxRecDepth 20000 in
theorem ggX12_fill_X12_isSeat : GoodIn wsX12_fill wsX12_isSeat := goodIn_r _ [7, 8, 9, 10, 6, 11, 12, 13, 14, 15, 16, 17, 18, 19, 20, 21, 22, 23, 24, 25, 26, 27, 28, 29, 30, 31, 32, 33, 34, 35, 36, 37, 38, 39, 40, 41, 42, 43, 44, 45, 46, 47, 48] rfl (by decide +kernel)
set_option maxRecDepth 20000 in
theorem gX12_fill_X12_isSeat : GoodIn wsX12_fill (wsV RX12 203 RX12 yX12_isSeat wsX12_isSeat) := goodIn_app (goodIn_of _ (by decide +kernel)) ggX12_fill_X12_isSeat
set_option maxRecDepth 20000 in
theorem ggX12_fill_X12_in : GoodIn wsX12_fill wsX12_in := goodIn_r _ [11] rfl (by decide +kernel)
set_option maxRecDepth 20000 in
theorem gX12_fill_X12_in : GoodIn wsX12_fill (va_wsS RX12 115 yX12_in wsX12_in) := goodIn_app (goodIn_of _ (by decide +kernel)) ggX12_fill_X12_in
theorem dX12_fill_0 : decode cX12_fill 0 = .ok (.aload_n 0, 1) := by decide +kernel
theorem dX12_fill_1 : decode cX12_fill 1 = .ok (.iload_n 1, 1) := by decide +kernel
theorem dX12_fill_2 : decode cX12_fill 2 = .ok (.invokevirtual 203, 3) := by decide +kernel
theorem dX12_fill_5 : decode cX12_fill 5 = .ok (.ifCond .eq 15, 3) := by decide +kernel
theorem dX12_fill_8 : decode cX12_fill 8 = .ok (.iload_n 2, 1) := by decide +kernel
theorem dX12_fill_9 : decode cX12_fill 9 = .ok (.i2l, 1) := by decide +kernel
theorem dX12_fill_10 : decode cX12_fill 10 = .ok (.lconst 0, 1) := by decide +kernel
theorem dX12_fill_11 : decode cX12_fill 11 = .ok (.ldc2_w 210, 3) := by decide +kernel
theorem dX12_fill_14 : decode cX12_fill 14 = .ok (.invokestatic 115, 3) := by decide +kernel
theorem dX12_fill_17 : decode cX12_fill 17 = .ok (.ifCond .ne 5, 3) := by decide +kernel
theorem dX12_fill_20 : decode cX12_fill 20 = .ok (.iconst (-1), 1) := by decide +kernel
theorem dX12_fill_21 : decode cX12_fill 21 = .ok (.ireturn, 1) := by decide +kernel
theorem dX12_fill_22 : decode cX12_fill 22 = .ok (.aload_n 0, 1) := by decide +kernel
theorem dX12_fill_23 : decode cX12_fill 23 = .ok (.getfield 7, 3) := by decide +kernel
theorem dX12_fill_26 : decode cX12_fill 26 = .ok (.iload_n 1, 1) := by decide +kernel
theorem dX12_fill_27 : decode cX12_fill 27 = .ok (.iaload, 1) := by decide +kernel
theorem dX12_fill_28 : decode cX12_fill 28 = .ok (.istore_n 3, 1) := by decide +kernel
theorem dX12_fill_29 : decode cX12_fill 29 = .ok (.aload_n 0, 1) := by decide +kernel
theorem dX12_fill_30 : decode cX12_fill 30 = .ok (.getfield 7, 3) := by decide +kernel
theorem dX12_fill_33 : decode cX12_fill 33 = .ok (.iload_n 1, 1) := by decide +kernel
theorem dX12_fill_34 : decode cX12_fill 34 = .ok (.iload_n 2, 1) := by decide +kernel
theorem dX12_fill_35 : decode cX12_fill 35 = .ok (.iastore, 1) := by decide +kernel
theorem dX12_fill_36 : decode cX12_fill 36 = .ok (.iload_n 3, 1) := by decide +kernel
theorem dX12_fill_37 : decode cX12_fill 37 = .ok (.ireturn, 1) := by decide +kernel
set_option maxRecDepth 20000 in
theorem ggX12_findPlaces_X12_flag : GoodIn wsX12_findPlaces wsX12_flag := goodIn_r _ [7] rfl (by decide +kernel)
set_option maxRecDepth 20000 in
theorem gX12_findPlaces_X12_flag : GoodIn wsX12_findPlaces (va_wsS RX12 212 yX12_flag wsX12_flag) := goodIn_app (goodIn_of _ (by decide +kernel)) ggX12_findPlaces_X12_flag
theorem dX12_findPlaces_0 : decode cX12_findPlaces 0 = .ok (.iconst 0, 1) := by decide +kernel
theorem dX12_findPlaces_1 : decode cX12_findPlaces 1 = .ok (.istore_n 2, 1) := by decide +kernel
theorem dX12_findPlaces_2 : decode cX12_findPlaces 2 = .ok (.aload_n 0, 1) := by decide +kernel
theorem dX12_findPlaces_3 : decode cX12_findPlaces 3 = .ok (.getfield 100, 3) := by decide +kernel
theorem dX12_findPlaces_6 : decode cX12_findPlaces 6 = .ok (.iconst 1, 1) := by decide +kernel
theorem dX12_findPlaces_7 : decode cX12_findPlaces 7 = .ok (.isub, 1) := by decide +kernel
theorem dX12_findPlaces_8 : decode cX12_findPlaces 8 = .ok (.istore_n 3, 1) := by decide +kernel
theorem dX12_findPlaces_9 : decode cX12_findPlaces 9 = .ok (.iconst 0, 1) := by decide +kernel
theorem dX12_findPlaces_10 : decode cX12_findPlaces 10 = .ok (.istore 4, 2) := by decide +kernel
theorem dX12_findPlaces_12 : decode cX12_findPlaces 12 = .ok (.iload 4, 2) := by decide +kernel
theorem dX12_findPlaces_14 : decode cX12_findPlaces 14 = .ok (.aload_n 0, 1) := by decide +kernel
theorem dX12_findPlaces_15 : decode cX12_findPlaces 15 = .ok (.getfield 100, 3) := by decide +kernel
theorem dX12_findPlaces_18 : decode cX12_findPlaces 18 = .ok (.if_icmp .ge 92, 3) := by decide +kernel
theorem dX12_findPlaces_21 : decode cX12_findPlaces 21 = .ok (.iload_n 1, 1) := by decide +kernel
theorem dX12_findPlaces_22 : decode cX12_findPlaces 22 = .ok (.iload 4, 2) := by decide +kernel
theorem dX12_findPlaces_24 : decode cX12_findPlaces 24 = .ok (.iadd, 1) := by decide +kernel
theorem dX12_findPlaces_25 : decode cX12_findPlaces 25 = .ok (.aload_n 0, 1) := by decide +kernel
theorem dX12_findPlaces_26 : decode cX12_findPlaces 26 = .ok (.getfield 100, 3) := by decide +kernel
theorem dX12_findPlaces_29 : decode cX12_findPlaces 29 = .ok (.irem, 1) := by decide +kernel
theorem dX12_findPlaces_30 : decode cX12_findPlaces 30 = .ok (.istore 5, 2) := by decide +kernel
theorem dX12_findPlaces_32 : decode cX12_findPlaces 32 = .ok (.iload 5, 2) := by decide +kernel
theorem dX12_findPlaces_34 : decode cX12_findPlaces 34 = .ok (.iload_n 1, 1) := by decide +kernel
theorem dX12_findPlaces_35 : decode cX12_findPlaces 35 = .ok (.if_icmp .eq 21, 3) := by decide +kernel
theorem dX12_findPlaces_38 : decode cX12_findPlaces 38 = .ok (.aload_n 0, 1) := by decide +kernel
theorem dX12_findPlaces_39 : decode cX12_findPlaces 39 = .ok (.getfield 7, 3) := by decide +kernel
theorem dX12_findPlaces_42 : decode cX12_findPlaces 42 = .ok (.bipush 9, 2) := by decide +kernel
theorem dX12_findPlaces_44 : decode cX12_findPlaces 44 = .ok (.iload_n 1, 1) := by decide +kernel
theorem dX12_findPlaces_45 : decode cX12_findPlaces 45 = .ok (.iadd, 1) := by decide +kernel
theorem dX12_findPlaces_46 : decode cX12_findPlaces 46 = .ok (.iaload, 1) := by decide +kernel
theorem dX12_findPlaces_47 : decode cX12_findPlaces 47 = .ok (.iload 5, 2) := by decide +kernel
theorem dX12_findPlaces_49 : decode cX12_findPlaces 49 = .ok (.ishr, 1) := by decide +kernel
theorem dX12_findPlaces_50 : decode cX12_findPlaces 50 = .ok (.iconst 1, 1) := by decide +kernel
theorem dX12_findPlaces_51 : decode cX12_findPlaces 51 = .ok (.iand, 1) := by decide +kernel
theorem dX12_findPlaces_52 : decode cX12_findPlaces 52 = .ok (.iconst 1, 1) := by decide +kernel
theorem dX12_findPlaces_53 : decode cX12_findPlaces 53 = .ok (.if_icmp .ne 7, 3) := by decide +kernel
theorem dX12_findPlaces_56 : decode cX12_findPlaces 56 = .ok (.iconst 1, 1) := by decide +kernel
theorem dX12_findPlaces_57 : decode cX12_findPlaces 57 = .ok (.goto 4, 3) := by decide +kernel
theorem dX12_findPlaces_60 : decode cX12_findPlaces 60 = .ok (.iconst 0, 1) := by decide +kernel
theorem dX12_findPlaces_61 : decode cX12_findPlaces 61 = .ok (.istore 6, 2) := by decide +kernel
theorem dX12_findPlaces_63 : decode cX12_findPlaces 63 = .ok (.aload_n 0, 1) := by decide +kernel
theorem dX12_findPlaces_64 : decode cX12_findPlaces 64 = .ok (.getfield 35, 3) := by decide +kernel
theorem dX12_findPlaces_67 : decode cX12_findPlaces 67 = .ok (.iload 5, 2) := by decide +kernel
theorem dX12_findPlaces_69 : decode cX12_findPlaces 69 = .ok (.iload 6, 2) := by decide +kernel
theorem dX12_findPlaces_71 : decode cX12_findPlaces 71 = .ok (.ifCond .eq 7, 3) := by decide +kernel
theorem dX12_findPlaces_74 : decode cX12_findPlaces 74 = .ok (.iload_n 3, 1) := by decide +kernel
theorem dX12_findPlaces_75 : decode cX12_findPlaces 75 = .ok (.goto 4, 3) := by decide +kernel
theorem dX12_findPlaces_78 : decode cX12_findPlaces 78 = .ok (.iload_n 2, 1) := by decide +kernel
theorem dX12_findPlaces_79 : decode cX12_findPlaces 79 = .ok (.iastore, 1) := by decide +kernel
theorem dX12_findPlaces_80 : decode cX12_findPlaces 80 = .ok (.iload_n 3, 1) := by decide +kernel
theorem dX12_findPlaces_81 : decode cX12_findPlaces 81 = .ok (.iload 6, 2) := by decide +kernel
theorem dX12_findPlaces_83 : decode cX12_findPlaces 83 = .ok (.invokestatic 212, 3) := by decide +kernel
theorem dX12_findPlaces_86 : decode cX12_findPlaces 86 = .ok (.isub, 1) := by decide +kernel
theorem dX12_findPlaces_87 : decode cX12_findPlaces 87 = .ok (.istore_n 3, 1) := by decide +kernel
theorem dX12_findPlaces_88 : decode cX12_findPlaces 88 = .ok (.iload_n 2, 1) := by decide +kernel
theorem dX12_findPlaces_89 : decode cX12_findPlaces 89 = .ok (.iload 6, 2) := by decide +kernel
theorem dX12_findPlaces_91 : decode cX12_findPlaces 91 = .ok (.ifCond .ne 7, 3) := by decide +kernel
theorem dX12_findPlaces_94 : decode cX12_findPlaces 94 = .ok (.iconst 1, 1) := by decide +kernel
theorem dX12_findPlaces_95 : decode cX12_findPlaces 95 = .ok (.goto 4, 3) := by decide +kernel
theorem dX12_findPlaces_98 : decode cX12_findPlaces 98 = .ok (.iconst 0, 1) := by decide +kernel
theorem dX12_findPlaces_99 : decode cX12_findPlaces 99 = .ok (.invokestatic 212, 3) := by decide +kernel
theorem dX12_findPlaces_102 : decode cX12_findPlaces 102 = .ok (.iadd, 1) := by decide +kernel
theorem dX12_findPlaces_103 : decode cX12_findPlaces 103 = .ok (.istore_n 2, 1) := by decide +kernel
theorem dX12_findPlaces_104 : decode cX12_findPlaces 104 = .ok (.iinc 4 1, 3) := by decide +kernel
theorem dX12_findPlaces_107 : decode cX12_findPlaces 107 = .ok (.goto (-95), 3) := by decide +kernel
theorem dX12_findPlaces_110 : decode cX12_findPlaces 110 = .ok (.return_, 1) := by decide +kernel
theorem dX12_cameFrom_0 : decode cX12_cameFrom 0 = .ok (.iconst 0, 1) := by decide +kernel
theorem dX12_cameFrom_1 : decode cX12_cameFrom 1 = .ok (.istore_n 3, 1) := by decide +kernel
theorem dX12_cameFrom_2 : decode cX12_cameFrom 2 = .ok (.aload_n 0, 1) := by decide +kernel
theorem dX12_cameFrom_3 : decode cX12_cameFrom 3 = .ok (.getfield 17, 3) := by decide +kernel
theorem dX12_cameFrom_6 : decode cX12_cameFrom 6 = .ok (.bipush 7, 2) := by decide +kernel
theorem dX12_cameFrom_8 : decode cX12_cameFrom 8 = .ok (.iload_n 1, 1) := by decide +kernel
theorem dX12_cameFrom_9 : decode cX12_cameFrom 9 = .ok (.imul, 1) := by decide +kernel
theorem dX12_cameFrom_10 : decode cX12_cameFrom 10 = .ok (.iload_n 3, 1) := by decide +kernel
theorem dX12_cameFrom_11 : decode cX12_cameFrom 11 = .ok (.iadd, 1) := by decide +kernel
theorem dX12_cameFrom_12 : decode cX12_cameFrom 12 = .ok (.iaload, 1) := by decide +kernel
theorem dX12_cameFrom_13 : decode cX12_cameFrom 13 = .ok (.iload_n 2, 1) := by decide +kernel
theorem dX12_cameFrom_14 : decode cX12_cameFrom 14 = .ok (.if_icmp .eq 9, 3) := by decide +kernel
theorem dX12_cameFrom_17 : decode cX12_cameFrom 17 = .ok (.iinc 3 1, 3) := by decide +kernel
theorem dX12_cameFrom_20 : decode cX12_cameFrom 20 = .ok (.goto (-18), 3) := by decide +kernel
theorem dX12_cameFrom_23 : decode cX12_cameFrom 23 = .ok (.iload_n 3, 1) := by decide +kernel
theorem dX12_cameFrom_24 : decode cX12_cameFrom 24 = .ok (.ireturn, 1) := by decide +kernel
set_option maxRecDepth 20000 in
theorem ggX12_nextBy_X12_findPlaces : GoodIn wsX12_nextBy wsX12_findPlaces := goodIn_r _ [7, 8, 9, 1, 10, 11, 6, 12, 13, 14, 15, 16, 17, 18, 19, 20, 21, 22, 23, 24, 25, 26, 27, 28, 29, 30, 31, 32, 33, 34, 35, 36, 37, 38, 39, 40, 41, 42, 43, 44, 45, 46, 47, 48, 49] rfl (by decide +kernel)
set_option maxRecDepth 20000 in
theorem gX12_nextBy_X12_findPlaces : GoodIn wsX12_nextBy (wsV RX12 216 RX12 yX12_findPlaces wsX12_findPlaces) := goodIn_app (goodIn_of _ (by decide +kernel)) ggX12_nextBy_X12_findPlaces
theorem dX12_nextBy_0 : decode cX12_nextBy 0 = .ok (.aload_n 0, 1) := by decide +kernel
theorem dX12_nextBy_1 : decode cX12_nextBy 1 = .ok (.iload_n 1, 1) := by decide +kernel
theorem dX12_nextBy_2 : decode cX12_nextBy 2 = .ok (.invokevirtual 216, 3) := by decide +kernel
theorem dX12_nextBy_5 : decode cX12_nextBy 5 = .ok (.iconst 0, 1) := by decide +kernel
theorem dX12_nextBy_6 : decode cX12_nextBy 6 = .ok (.istore 4, 2) := by decide +kernel
theorem dX12_nextBy_8 : decode cX12_nextBy 8 = .ok (.aload_n 0, 1) := by decide +kernel
theorem dX12_nextBy_9 : decode cX12_nextBy 9 = .ok (.getfield 35, 3) := by decide +kernel
theorem dX12_nextBy_12 : decode cX12_nextBy 12 = .ok (.iload 4, 2) := by decide +kernel
theorem dX12_nextBy_14 : decode cX12_nextBy 14 = .ok (.iaload, 1) := by decide +kernel
theorem dX12_nextBy_15 : decode cX12_nextBy 15 = .ok (.aload_n 0, 1) := by decide +kernel
theorem dX12_nextBy_16 : decode cX12_nextBy 16 = .ok (.getfield 17, 3) := by decide +kernel
theorem dX12_nextBy_19 : decode cX12_nextBy 19 = .ok (.bipush 7, 2) := by decide +kernel
theorem dX12_nextBy_21 : decode cX12_nextBy 21 = .ok (.iload_n 2, 1) := by decide +kernel
theorem dX12_nextBy_22 : decode cX12_nextBy 22 = .ok (.imul, 1) := by decide +kernel
theorem dX12_nextBy_23 : decode cX12_nextBy 23 = .ok (.iload_n 3, 1) := by decide +kernel
theorem dX12_nextBy_24 : decode cX12_nextBy 24 = .ok (.iadd, 1) := by decide +kernel
theorem dX12_nextBy_25 : decode cX12_nextBy 25 = .ok (.iaload, 1) := by decide +kernel
theorem dX12_nextBy_26 : decode cX12_nextBy 26 = .ok (.if_icmp .eq 9, 3) := by decide +kernel
theorem dX12_nextBy_29 : decode cX12_nextBy 29 = .ok (.iinc 4 1, 3) := by decide +kernel
theorem dX12_nextBy_32 : decode cX12_nextBy 32 = .ok (.goto (-24), 3) := by decide +kernel
theorem dX12_nextBy_35 : decode cX12_nextBy 35 = .ok (.iload 4, 2) := by decide +kernel
theorem dX12_nextBy_37 : decode cX12_nextBy 37 = .ok (.ireturn, 1) := by decide +kernel
set_option maxRecDepth 20000 in
theorem ggX12_bowl_X12_isSeat : GoodIn wsX12_bowl wsX12_isSeat := goodIn_r _ [7, 8, 9, 10, 6, 11, 29, 30, 31, 32, 33, 34, 35, 36, 37, 38, 39, 40, 41, 42, 43, 44, 45, 46, 47, 48, 49, 50, 51, 52, 53, 54, 55, 56, 57, 58, 59, 60, 61, 62, 63, 64, 65] rfl (by decide +kernel)
set_option maxRecDepth 20000 in
theorem gX12_bowl_X12_isSeat : GoodIn wsX12_bowl (wsV RX12 203 RX12 yX12_isSeat wsX12_isSeat) := goodIn_app (goodIn_of _ (by decide +kernel)) ggX12_bowl_X12_isSeat
set_option maxRecDepth 20000 in
theorem ggX12_bowl_X12_isStir : GoodIn wsX12_bowl wsX12_isStir := goodIn_r _ [15, 16, 9, 10, 6, 11, 29, 30, 31, 32, 33, 34, 35, 36, 37, 38, 39, 40, 41, 42, 43, 44, 45, 46, 47, 48, 49, 50, 51, 52, 53, 54, 55, 56, 57, 58, 59, 60, 61, 62, 63, 64, 65] rfl (by decide +kernel)
set_option maxRecDepth 20000 in
theorem gX12_bowl_X12_isStir : GoodIn wsX12_bowl (wsV RX12 207 RX12 yX12_isStir wsX12_isStir) := goodIn_app (goodIn_of _ (by decide +kernel)) ggX12_bowl_X12_isStir
set_option maxRecDepth 20000 in
theorem ggX12_bowl_X12_findPlaces : GoodIn wsX12_bowl wsX12_findPlaces := goodIn_r _ [20, 8, 1, 2, 21, 22, 6, 23, 29, 30, 31, 32, 33, 34, 35, 36, 37, 38, 39, 40, 41, 42, 43, 44, 45, 46, 47, 48, 49, 50, 51, 52, 53, 54, 55, 56, 57, 58, 59, 60, 61, 62, 63, 64, 65] rfl (by decide +kernel)
set_option maxRecDepth 20000 in
theorem gX12_bowl_X12_findPlaces : GoodIn wsX12_bowl (wsV RX12 216 RX12 yX12_findPlaces wsX12_findPlaces) := goodIn_app (goodIn_of _ (by decide +kernel)) ggX12_bowl_X12_findPlaces
set_option maxRecDepth 20000 in
theorem ggX12_bowl_X12_cameFrom : GoodIn wsX12_bowl wsX12_cameFrom := goodIn_r _ [27, 28, 29, 30, 31, 32, 33, 34, 35, 36, 37, 38, 39, 40, 41, 42, 43, 44, 45, 46, 47, 48, 49, 50, 51, 52, 53, 54, 55, 56, 57, 58, 59, 60, 61, 62, 63, 64, 65] rfl (by decide +kernel)
set_option maxRecDepth 20000 in
theorem gX12_bowl_X12_cameFrom : GoodIn wsX12_bowl (wsV RX12 219 RX12 yX12_cameFrom wsX12_cameFrom) := goodIn_app (goodIn_of _ (by decide +kernel)) ggX12_bowl_X12_cameFrom
theorem dX12_bowl_0 : decode cX12_bowl 0 = .ok (.aload_n 0, 1) := by decide +kernel
theorem dX12_bowl_1 : decode cX12_bowl 1 = .ok (.iload_n 1, 1) := by decide +kernel
theorem dX12_bowl_2 : decode cX12_bowl 2 = .ok (.invokevirtual 203, 3) := by decide +kernel
theorem dX12_bowl_5 : decode cX12_bowl 5 = .ok (.ifCond .eq 19, 3) := by decide +kernel
theorem dX12_bowl_8 : decode cX12_bowl 8 = .ok (.aload_n 0, 1) := by decide +kernel
theorem dX12_bowl_9 : decode cX12_bowl 9 = .ok (.iload_n 2, 1) := by decide +kernel
theorem dX12_bowl_10 : decode cX12_bowl 10 = .ok (.invokevirtual 203, 3) := by decide +kernel
theorem dX12_bowl_13 : decode cX12_bowl 13 = .ok (.ifCond .eq 11, 3) := by decide +kernel
theorem dX12_bowl_16 : decode cX12_bowl 16 = .ok (.aload_n 0, 1) := by decide +kernel
theorem dX12_bowl_17 : decode cX12_bowl 17 = .ok (.iload_n 3, 1) := by decide +kernel
theorem dX12_bowl_18 : decode cX12_bowl 18 = .ok (.invokevirtual 207, 3) := by decide +kernel
theorem dX12_bowl_21 : decode cX12_bowl 21 = .ok (.ifCond .ne 5, 3) := by decide +kernel
theorem dX12_bowl_24 : decode cX12_bowl 24 = .ok (.iconst (-1), 1) := by decide +kernel
theorem dX12_bowl_25 : decode cX12_bowl 25 = .ok (.ireturn, 1) := by decide +kernel
theorem dX12_bowl_26 : decode cX12_bowl 26 = .ok (.aload_n 0, 1) := by decide +kernel
theorem dX12_bowl_27 : decode cX12_bowl 27 = .ok (.iload_n 1, 1) := by decide +kernel
theorem dX12_bowl_28 : decode cX12_bowl 28 = .ok (.invokevirtual 216, 3) := by decide +kernel
theorem dX12_bowl_31 : decode cX12_bowl 31 = .ok (.aload_n 0, 1) := by decide +kernel
theorem dX12_bowl_32 : decode cX12_bowl 32 = .ok (.getfield 7, 3) := by decide +kernel
theorem dX12_bowl_35 : decode cX12_bowl 35 = .ok (.aload_n 0, 1) := by decide +kernel
theorem dX12_bowl_36 : decode cX12_bowl 36 = .ok (.iload_n 3, 1) := by decide +kernel
theorem dX12_bowl_37 : decode cX12_bowl 37 = .ok (.aload_n 0, 1) := by decide +kernel
theorem dX12_bowl_38 : decode cX12_bowl 38 = .ok (.getfield 35, 3) := by decide +kernel
theorem dX12_bowl_41 : decode cX12_bowl 41 = .ok (.iload_n 2, 1) := by decide +kernel
theorem dX12_bowl_42 : decode cX12_bowl 42 = .ok (.iaload, 1) := by decide +kernel
theorem dX12_bowl_43 : decode cX12_bowl 43 = .ok (.invokevirtual 219, 3) := by decide +kernel
theorem dX12_bowl_46 : decode cX12_bowl 46 = .ok (.iaload, 1) := by decide +kernel
theorem dX12_bowl_47 : decode cX12_bowl 47 = .ok (.ireturn, 1) := by decide +kernel
set_option maxRecDepth 20000 in
theorem ggX12_ladle_X12_isSeat : GoodIn wsX12_ladle wsX12_isSeat := goodIn_r _ [6, 7, 8, 9, 5, 10, 24, 25, 26, 27, 28, 29, 30, 31, 32, 33, 34, 35, 36, 37, 38, 39, 40, 41, 42, 43, 44, 45, 46, 47, 48, 49, 50, 51, 52, 53, 54, 55, 56, 57, 58, 59, 60] rfl (by decide +kernel)
set_option maxRecDepth 20000 in
theorem gX12_ladle_X12_isSeat : GoodIn wsX12_ladle (wsV RX12 203 RX12 yX12_isSeat wsX12_isSeat) := goodIn_app (goodIn_of _ (by decide +kernel)) ggX12_ladle_X12_isSeat
set_option maxRecDepth 20000 in
theorem ggX12_ladle_X12_isStir : GoodIn wsX12_ladle wsX12_isStir := goodIn_r _ [14, 15, 8, 9, 5, 10, 24, 25, 26, 27, 28, 29, 30, 31, 32, 33, 34, 35, 36, 37, 38, 39, 40, 41, 42, 43, 44, 45, 46, 47, 48, 49, 50, 51, 52, 53, 54, 55, 56, 57, 58, 59, 60] rfl (by decide +kernel)
set_option maxRecDepth 20000 in
theorem gX12_ladle_X12_isStir : GoodIn wsX12_ladle (wsV RX12 207 RX12 yX12_isStir wsX12_isStir) := goodIn_app (goodIn_of _ (by decide +kernel)) ggX12_ladle_X12_isStir
set_option maxRecDepth 20000 in
theorem ggX12_ladle_X12_findPlaces : GoodIn wsX12_ladle wsX12_findPlaces := goodIn_r _ [19, 7, 20, 1, 21, 22, 5, 23, 24, 25, 26, 27, 28, 29, 30, 31, 32, 33, 34, 35, 36, 37, 38, 39, 40, 41, 42, 43, 44, 45, 46, 47, 48, 49, 50, 51, 52, 53, 54, 55, 56, 57, 58, 59, 60] rfl (by decide +kernel)
set_option maxRecDepth 20000 in
theorem gX12_ladle_X12_findPlaces : GoodIn wsX12_ladle (wsV RX12 216 RX12 yX12_findPlaces wsX12_findPlaces) := goodIn_app (goodIn_of _ (by decide +kernel)) ggX12_ladle_X12_findPlaces
theorem dX12_ladle_0 : decode cX12_ladle 0 = .ok (.aload_n 0, 1) := by decide +kernel
theorem dX12_ladle_1 : decode cX12_ladle 1 = .ok (.iload_n 1, 1) := by decide +kernel
theorem dX12_ladle_2 : decode cX12_ladle 2 = .ok (.invokevirtual 203, 3) := by decide +kernel
theorem dX12_ladle_5 : decode cX12_ladle 5 = .ok (.ifCond .eq 19, 3) := by decide +kernel
theorem dX12_ladle_8 : decode cX12_ladle 8 = .ok (.aload_n 0, 1) := by decide +kernel
theorem dX12_ladle_9 : decode cX12_ladle 9 = .ok (.iload_n 2, 1) := by decide +kernel
theorem dX12_ladle_10 : decode cX12_ladle 10 = .ok (.invokevirtual 203, 3) := by decide +kernel
theorem dX12_ladle_13 : decode cX12_ladle 13 = .ok (.ifCond .eq 11, 3) := by decide +kernel
theorem dX12_ladle_16 : decode cX12_ladle 16 = .ok (.aload_n 0, 1) := by decide +kernel
theorem dX12_ladle_17 : decode cX12_ladle 17 = .ok (.iload_n 3, 1) := by decide +kernel
theorem dX12_ladle_18 : decode cX12_ladle 18 = .ok (.invokevirtual 207, 3) := by decide +kernel
theorem dX12_ladle_21 : decode cX12_ladle 21 = .ok (.ifCond .ne 5, 3) := by decide +kernel
theorem dX12_ladle_24 : decode cX12_ladle 24 = .ok (.iconst (-1), 1) := by decide +kernel
theorem dX12_ladle_25 : decode cX12_ladle 25 = .ok (.ireturn, 1) := by decide +kernel
theorem dX12_ladle_26 : decode cX12_ladle 26 = .ok (.aload_n 0, 1) := by decide +kernel
theorem dX12_ladle_27 : decode cX12_ladle 27 = .ok (.iload_n 1, 1) := by decide +kernel
theorem dX12_ladle_28 : decode cX12_ladle 28 = .ok (.invokevirtual 216, 3) := by decide +kernel
theorem dX12_ladle_31 : decode cX12_ladle 31 = .ok (.aload_n 0, 1) := by decide +kernel
theorem dX12_ladle_32 : decode cX12_ladle 32 = .ok (.getfield 35, 3) := by decide +kernel
theorem dX12_ladle_35 : decode cX12_ladle 35 = .ok (.iload_n 2, 1) := by decide +kernel
theorem dX12_ladle_36 : decode cX12_ladle 36 = .ok (.iaload, 1) := by decide +kernel
theorem dX12_ladle_37 : decode cX12_ladle 37 = .ok (.ireturn, 1) := by decide +kernel
set_option maxRecDepth 20000 in
theorem ggX12_next_X12_isSeat : GoodIn wsX12_next wsX12_isSeat := goodIn_r _ [6, 7, 8, 9, 5, 10, 29, 30, 31, 32, 33, 34, 35, 36, 37, 38, 39, 40, 41, 42, 43, 44, 45, 46, 47, 48, 49, 50, 51, 52, 53, 54, 55, 56, 57, 58, 59, 60, 61, 62, 63, 64, 65] rfl (by decide +kernel)
set_option maxRecDepth 20000 in
theorem gX12_next_X12_isSeat : GoodIn wsX12_next (wsV RX12 203 RX12 yX12_isSeat wsX12_isSeat) := goodIn_app (goodIn_of _ (by decide +kernel)) ggX12_next_X12_isSeat
set_option maxRecDepth 20000 in
theorem ggX12_next_X12_isStir : GoodIn wsX12_next wsX12_isStir := goodIn_r _ [14, 15, 8, 9, 5, 10, 29, 30, 31, 32, 33, 34, 35, 36, 37, 38, 39, 40, 41, 42, 43, 44, 45, 46, 47, 48, 49, 50, 51, 52, 53, 54, 55, 56, 57, 58, 59, 60, 61, 62, 63, 64, 65] rfl (by decide +kernel)
set_option maxRecDepth 20000 in
theorem gX12_next_X12_isStir : GoodIn wsX12_next (wsV RX12 207 RX12 yX12_isStir wsX12_isStir) := goodIn_app (goodIn_of _ (by decide +kernel)) ggX12_next_X12_isStir
set_option maxRecDepth 20000 in
theorem ggX12_next_X12_nextBy : GoodIn wsX12_next wsX12_nextBy := goodIn_r _ [19, 20, 21, 22, 23, 24, 5, 25, 7, 1, 26, 27, 28, 29, 30, 31, 32, 33, 34, 35, 36, 37, 38, 39, 40, 41, 42, 43, 44, 45, 46, 47, 48, 49, 50, 51, 52, 53, 54, 55, 56, 57, 58, 59, 60, 61, 62, 63, 64, 65] rfl (by decide +kernel)
set_option maxRecDepth 20000 in
theorem gX12_next_X12_nextBy : GoodIn wsX12_next (wsV RX12 222 RX12 yX12_nextBy wsX12_nextBy) := goodIn_app (goodIn_of _ (by decide +kernel)) ggX12_next_X12_nextBy
theorem dX12_next_0 : decode cX12_next 0 = .ok (.aload_n 0, 1) := by decide +kernel
theorem dX12_next_1 : decode cX12_next 1 = .ok (.iload_n 1, 1) := by decide +kernel
theorem dX12_next_2 : decode cX12_next 2 = .ok (.invokevirtual 203, 3) := by decide +kernel
theorem dX12_next_5 : decode cX12_next 5 = .ok (.ifCond .eq 27, 3) := by decide +kernel
theorem dX12_next_8 : decode cX12_next 8 = .ok (.aload_n 0, 1) := by decide +kernel
theorem dX12_next_9 : decode cX12_next 9 = .ok (.iload_n 2, 1) := by decide +kernel
theorem dX12_next_10 : decode cX12_next 10 = .ok (.invokevirtual 207, 3) := by decide +kernel
theorem dX12_next_13 : decode cX12_next 13 = .ok (.ifCond .eq 19, 3) := by decide +kernel
theorem dX12_next_16 : decode cX12_next 16 = .ok (.aload_n 0, 1) := by decide +kernel
theorem dX12_next_17 : decode cX12_next 17 = .ok (.iload_n 1, 1) := by decide +kernel
theorem dX12_next_18 : decode cX12_next 18 = .ok (.iload_n 2, 1) := by decide +kernel
theorem dX12_next_19 : decode cX12_next 19 = .ok (.aload_n 0, 1) := by decide +kernel
theorem dX12_next_20 : decode cX12_next 20 = .ok (.getfield 7, 3) := by decide +kernel
theorem dX12_next_23 : decode cX12_next 23 = .ok (.bipush 7, 2) := by decide +kernel
theorem dX12_next_25 : decode cX12_next 25 = .ok (.iaload, 1) := by decide +kernel
theorem dX12_next_26 : decode cX12_next 26 = .ok (.invokevirtual 222, 3) := by decide +kernel
theorem dX12_next_29 : decode cX12_next 29 = .ok (.goto 4, 3) := by decide +kernel
theorem dX12_next_32 : decode cX12_next 32 = .ok (.iconst (-1), 1) := by decide +kernel
theorem dX12_next_33 : decode cX12_next 33 = .ok (.ireturn, 1) := by decide +kernel
set_option maxRecDepth 20000 in
theorem ggX12_goesDay_X12_nextBy : GoodIn wsX12_goesDay wsX12_nextBy := goodIn_r _ [10, 5, 4, 11, 12, 13, 9, 14, 2, 1, 15, 16, 17, 18, 19, 20, 21, 22, 23, 24, 25, 26, 27, 28, 29, 30, 31, 32, 33, 34, 35, 36, 37, 38, 39, 40, 41, 42, 43, 44, 45, 46, 47, 48, 49, 50, 51, 52, 53, 54] rfl (by decide +kernel)
set_option maxRecDepth 20000 in
theorem gX12_goesDay_X12_nextBy : GoodIn wsX12_goesDay (wsV RX12 222 RX12 yX12_nextBy wsX12_nextBy) := goodIn_app (goodIn_of _ (by decide +kernel)) ggX12_goesDay_X12_nextBy
theorem dX12_goesDay_0 : decode cX12_goesDay 0 = .ok (.aload_n 0, 1) := by decide +kernel
theorem dX12_goesDay_1 : decode cX12_goesDay 1 = .ok (.aload_n 0, 1) := by decide +kernel
theorem dX12_goesDay_2 : decode cX12_goesDay 2 = .ok (.getfield 7, 3) := by decide +kernel
theorem dX12_goesDay_5 : decode cX12_goesDay 5 = .ok (.bipush 8, 2) := by decide +kernel
theorem dX12_goesDay_7 : decode cX12_goesDay 7 = .ok (.iaload, 1) := by decide +kernel
theorem dX12_goesDay_8 : decode cX12_goesDay 8 = .ok (.iload_n 1, 1) := by decide +kernel
theorem dX12_goesDay_9 : decode cX12_goesDay 9 = .ok (.aload_n 0, 1) := by decide +kernel
theorem dX12_goesDay_10 : decode cX12_goesDay 10 = .ok (.getfield 7, 3) := by decide +kernel
theorem dX12_goesDay_13 : decode cX12_goesDay 13 = .ok (.bipush 7, 2) := by decide +kernel
theorem dX12_goesDay_15 : decode cX12_goesDay 15 = .ok (.iaload, 1) := by decide +kernel
theorem dX12_goesDay_16 : decode cX12_goesDay 16 = .ok (.invokevirtual 222, 3) := by decide +kernel
theorem dX12_goesDay_19 : decode cX12_goesDay 19 = .ok (.istore_n 2, 1) := by decide +kernel
theorem dX12_goesDay_20 : decode cX12_goesDay 20 = .ok (.iconst 0, 1) := by decide +kernel
theorem dX12_goesDay_21 : decode cX12_goesDay 21 = .ok (.istore_n 3, 1) := by decide +kernel
theorem dX12_goesDay_22 : decode cX12_goesDay 22 = .ok (.iload_n 3, 1) := by decide +kernel
theorem dX12_goesDay_23 : decode cX12_goesDay 23 = .ok (.aload_n 0, 1) := by decide +kernel
theorem dX12_goesDay_24 : decode cX12_goesDay 24 = .ok (.getfield 100, 3) := by decide +kernel
theorem dX12_goesDay_27 : decode cX12_goesDay 27 = .ok (.if_icmp .ge 31, 3) := by decide +kernel
theorem dX12_goesDay_30 : decode cX12_goesDay 30 = .ok (.aload_n 0, 1) := by decide +kernel
theorem dX12_goesDay_31 : decode cX12_goesDay 31 = .ok (.getfield 38, 3) := by decide +kernel
theorem dX12_goesDay_34 : decode cX12_goesDay 34 = .ok (.aload_n 0, 1) := by decide +kernel
theorem dX12_goesDay_35 : decode cX12_goesDay 35 = .ok (.getfield 17, 3) := by decide +kernel
theorem dX12_goesDay_38 : decode cX12_goesDay 38 = .ok (.bipush 7, 2) := by decide +kernel
theorem dX12_goesDay_40 : decode cX12_goesDay 40 = .ok (.iload_n 1, 1) := by decide +kernel
theorem dX12_goesDay_41 : decode cX12_goesDay 41 = .ok (.imul, 1) := by decide +kernel
theorem dX12_goesDay_42 : decode cX12_goesDay 42 = .ok (.iload_n 3, 1) := by decide +kernel
theorem dX12_goesDay_43 : decode cX12_goesDay 43 = .ok (.iadd, 1) := by decide +kernel
theorem dX12_goesDay_44 : decode cX12_goesDay 44 = .ok (.iaload, 1) := by decide +kernel
theorem dX12_goesDay_45 : decode cX12_goesDay 45 = .ok (.aload_n 0, 1) := by decide +kernel
theorem dX12_goesDay_46 : decode cX12_goesDay 46 = .ok (.getfield 7, 3) := by decide +kernel
theorem dX12_goesDay_49 : decode cX12_goesDay 49 = .ok (.iload_n 3, 1) := by decide +kernel
theorem dX12_goesDay_50 : decode cX12_goesDay 50 = .ok (.iaload, 1) := by decide +kernel
theorem dX12_goesDay_51 : decode cX12_goesDay 51 = .ok (.iastore, 1) := by decide +kernel
theorem dX12_goesDay_52 : decode cX12_goesDay 52 = .ok (.iinc 3 1, 3) := by decide +kernel
theorem dX12_goesDay_55 : decode cX12_goesDay 55 = .ok (.goto (-33), 3) := by decide +kernel
theorem dX12_goesDay_58 : decode cX12_goesDay 58 = .ok (.iconst 0, 1) := by decide +kernel
theorem dX12_goesDay_59 : decode cX12_goesDay 59 = .ok (.istore_n 3, 1) := by decide +kernel
theorem dX12_goesDay_60 : decode cX12_goesDay 60 = .ok (.iload_n 3, 1) := by decide +kernel
theorem dX12_goesDay_61 : decode cX12_goesDay 61 = .ok (.aload_n 0, 1) := by decide +kernel
theorem dX12_goesDay_62 : decode cX12_goesDay 62 = .ok (.getfield 100, 3) := by decide +kernel
theorem dX12_goesDay_65 : decode cX12_goesDay 65 = .ok (.if_icmp .ge 21, 3) := by decide +kernel
theorem dX12_goesDay_68 : decode cX12_goesDay 68 = .ok (.aload_n 0, 1) := by decide +kernel
theorem dX12_goesDay_69 : decode cX12_goesDay 69 = .ok (.getfield 7, 3) := by decide +kernel
theorem dX12_goesDay_72 : decode cX12_goesDay 72 = .ok (.iload_n 3, 1) := by decide +kernel
theorem dX12_goesDay_73 : decode cX12_goesDay 73 = .ok (.aload_n 0, 1) := by decide +kernel
theorem dX12_goesDay_74 : decode cX12_goesDay 74 = .ok (.getfield 38, 3) := by decide +kernel
theorem dX12_goesDay_77 : decode cX12_goesDay 77 = .ok (.iload_n 3, 1) := by decide +kernel
theorem dX12_goesDay_78 : decode cX12_goesDay 78 = .ok (.iaload, 1) := by decide +kernel
theorem dX12_goesDay_79 : decode cX12_goesDay 79 = .ok (.iastore, 1) := by decide +kernel
theorem dX12_goesDay_80 : decode cX12_goesDay 80 = .ok (.iinc 3 1, 3) := by decide +kernel
theorem dX12_goesDay_83 : decode cX12_goesDay 83 = .ok (.goto (-23), 3) := by decide +kernel
theorem dX12_goesDay_86 : decode cX12_goesDay 86 = .ok (.iconst 0, 1) := by decide +kernel
theorem dX12_goesDay_87 : decode cX12_goesDay 87 = .ok (.istore_n 3, 1) := by decide +kernel
theorem dX12_goesDay_88 : decode cX12_goesDay 88 = .ok (.iload_n 3, 1) := by decide +kernel
theorem dX12_goesDay_89 : decode cX12_goesDay 89 = .ok (.aload_n 0, 1) := by decide +kernel
theorem dX12_goesDay_90 : decode cX12_goesDay 90 = .ok (.getfield 100, 3) := by decide +kernel
theorem dX12_goesDay_93 : decode cX12_goesDay 93 = .ok (.if_icmp .ge 32, 3) := by decide +kernel
theorem dX12_goesDay_96 : decode cX12_goesDay 96 = .ok (.aload_n 0, 1) := by decide +kernel
theorem dX12_goesDay_97 : decode cX12_goesDay 97 = .ok (.getfield 7, 3) := by decide +kernel
theorem dX12_goesDay_100 : decode cX12_goesDay 100 = .ok (.bipush 23, 2) := by decide +kernel
theorem dX12_goesDay_102 : decode cX12_goesDay 102 = .ok (.iload_n 3, 1) := by decide +kernel
theorem dX12_goesDay_103 : decode cX12_goesDay 103 = .ok (.iadd, 1) := by decide +kernel
theorem dX12_goesDay_104 : decode cX12_goesDay 104 = .ok (.dup2, 1) := by decide +kernel
theorem dX12_goesDay_105 : decode cX12_goesDay 105 = .ok (.iaload, 1) := by decide +kernel
theorem dX12_goesDay_106 : decode cX12_goesDay 106 = .ok (.aload_n 0, 1) := by decide +kernel
theorem dX12_goesDay_107 : decode cX12_goesDay 107 = .ok (.getfield 7, 3) := by decide +kernel
theorem dX12_goesDay_110 : decode cX12_goesDay 110 = .ok (.aload_n 0, 1) := by decide +kernel
theorem dX12_goesDay_111 : decode cX12_goesDay 111 = .ok (.getfield 35, 3) := by decide +kernel
theorem dX12_goesDay_114 : decode cX12_goesDay 114 = .ok (.iload_n 3, 1) := by decide +kernel
theorem dX12_goesDay_115 : decode cX12_goesDay 115 = .ok (.iaload, 1) := by decide +kernel
theorem dX12_goesDay_116 : decode cX12_goesDay 116 = .ok (.iaload, 1) := by decide +kernel
theorem dX12_goesDay_117 : decode cX12_goesDay 117 = .ok (.iadd, 1) := by decide +kernel
theorem dX12_goesDay_118 : decode cX12_goesDay 118 = .ok (.iastore, 1) := by decide +kernel
theorem dX12_goesDay_119 : decode cX12_goesDay 119 = .ok (.iinc 3 1, 3) := by decide +kernel
theorem dX12_goesDay_122 : decode cX12_goesDay 122 = .ok (.goto (-34), 3) := by decide +kernel
theorem dX12_goesDay_125 : decode cX12_goesDay 125 = .ok (.aload_n 0, 1) := by decide +kernel
theorem dX12_goesDay_126 : decode cX12_goesDay 126 = .ok (.getfield 7, 3) := by decide +kernel
theorem dX12_goesDay_129 : decode cX12_goesDay 129 = .ok (.bipush 7, 2) := by decide +kernel
theorem dX12_goesDay_131 : decode cX12_goesDay 131 = .ok (.aload_n 0, 1) := by decide +kernel
theorem dX12_goesDay_132 : decode cX12_goesDay 132 = .ok (.getfield 17, 3) := by decide +kernel
theorem dX12_goesDay_135 : decode cX12_goesDay 135 = .ok (.bipush 7, 2) := by decide +kernel
theorem dX12_goesDay_137 : decode cX12_goesDay 137 = .ok (.iload_n 1, 1) := by decide +kernel
theorem dX12_goesDay_138 : decode cX12_goesDay 138 = .ok (.imul, 1) := by decide +kernel
theorem dX12_goesDay_139 : decode cX12_goesDay 139 = .ok (.aload_n 0, 1) := by decide +kernel
theorem dX12_goesDay_140 : decode cX12_goesDay 140 = .ok (.getfield 7, 3) := by decide +kernel
theorem dX12_goesDay_143 : decode cX12_goesDay 143 = .ok (.bipush 7, 2) := by decide +kernel
theorem dX12_goesDay_145 : decode cX12_goesDay 145 = .ok (.iaload, 1) := by decide +kernel
theorem dX12_goesDay_146 : decode cX12_goesDay 146 = .ok (.iadd, 1) := by decide +kernel
theorem dX12_goesDay_147 : decode cX12_goesDay 147 = .ok (.iaload, 1) := by decide +kernel
theorem dX12_goesDay_148 : decode cX12_goesDay 148 = .ok (.iastore, 1) := by decide +kernel
theorem dX12_goesDay_149 : decode cX12_goesDay 149 = .ok (.aload_n 0, 1) := by decide +kernel
theorem dX12_goesDay_150 : decode cX12_goesDay 150 = .ok (.getfield 7, 3) := by decide +kernel
theorem dX12_goesDay_153 : decode cX12_goesDay 153 = .ok (.bipush 8, 2) := by decide +kernel
theorem dX12_goesDay_155 : decode cX12_goesDay 155 = .ok (.iload_n 2, 1) := by decide +kernel
theorem dX12_goesDay_156 : decode cX12_goesDay 156 = .ok (.iastore, 1) := by decide +kernel
theorem dX12_goesDay_157 : decode cX12_goesDay 157 = .ok (.aload_n 0, 1) := by decide +kernel
theorem dX12_goesDay_158 : decode cX12_goesDay 158 = .ok (.getfield 7, 3) := by decide +kernel
theorem dX12_goesDay_161 : decode cX12_goesDay 161 = .ok (.bipush 30, 2) := by decide +kernel
theorem dX12_goesDay_163 : decode cX12_goesDay 163 = .ok (.dup2, 1) := by decide +kernel
theorem dX12_goesDay_164 : decode cX12_goesDay 164 = .ok (.iaload, 1) := by decide +kernel
theorem dX12_goesDay_165 : decode cX12_goesDay 165 = .ok (.iconst 1, 1) := by decide +kernel
theorem dX12_goesDay_166 : decode cX12_goesDay 166 = .ok (.iadd, 1) := by decide +kernel
theorem dX12_goesDay_167 : decode cX12_goesDay 167 = .ok (.iastore, 1) := by decide +kernel
theorem dX12_goesDay_168 : decode cX12_goesDay 168 = .ok (.return_, 1) := by decide +kernel
set_option maxRecDepth 20000 in
theorem ggX12_day_X12_isStir : GoodIn wsX12_day wsX12_isStir := goodIn_r _ [6, 7, 8, 9, 5, 10, 30, 31, 32, 33, 34, 35, 36, 37, 38, 39, 40, 41, 42, 43, 44, 45, 46, 47, 48, 49, 50, 51, 52, 53, 54, 55, 56, 57, 58, 59, 60, 61, 62, 63, 64, 65, 66] rfl (by decide +kernel)
set_option maxRecDepth 20000 in
theorem gX12_day_X12_isStir : GoodIn wsX12_day (wsV RX12 207 RX12 yX12_isStir wsX12_isStir) := goodIn_app (goodIn_of _ (by decide +kernel)) ggX12_day_X12_isStir
set_option maxRecDepth 20000 in
theorem ggX12_day_X12_goesDay : GoodIn wsX12_day wsX12_goesDay := goodIn_r _ [14, 1, 15, 16, 17, 18, 19, 20, 21, 5, 22, 23, 24, 25, 26, 27, 28, 29, 30, 31, 32, 33, 34, 35, 36, 37, 38, 39, 40, 41, 42, 43, 44, 45, 46, 47, 48, 49, 50, 51, 52, 53, 54, 55, 56, 57, 58, 59, 60, 61, 62, 63, 64, 65, 66] rfl (by decide +kernel)
set_option maxRecDepth 20000 in
theorem gX12_day_X12_goesDay : GoodIn wsX12_day (wsV RX12 226 RX12 yX12_goesDay wsX12_goesDay) := goodIn_app (goodIn_of _ (by decide +kernel)) ggX12_day_X12_goesDay
theorem dX12_day_0 : decode cX12_day 0 = .ok (.aload_n 0, 1) := by decide +kernel
theorem dX12_day_1 : decode cX12_day 1 = .ok (.iload_n 1, 1) := by decide +kernel
theorem dX12_day_2 : decode cX12_day 2 = .ok (.invokevirtual 207, 3) := by decide +kernel
theorem dX12_day_5 : decode cX12_day 5 = .ok (.ifCond .ne 5, 3) := by decide +kernel
theorem dX12_day_8 : decode cX12_day 8 = .ok (.iconst (-1), 1) := by decide +kernel
theorem dX12_day_9 : decode cX12_day 9 = .ok (.ireturn, 1) := by decide +kernel
theorem dX12_day_10 : decode cX12_day 10 = .ok (.aload_n 0, 1) := by decide +kernel
theorem dX12_day_11 : decode cX12_day 11 = .ok (.getfield 7, 3) := by decide +kernel
theorem dX12_day_14 : decode cX12_day 14 = .ok (.bipush 30, 2) := by decide +kernel
theorem dX12_day_16 : decode cX12_day 16 = .ok (.iaload, 1) := by decide +kernel
theorem dX12_day_17 : decode cX12_day 17 = .ok (.sipush 999, 3) := by decide +kernel
theorem dX12_day_20 : decode cX12_day 20 = .ok (.if_icmp .ne 6, 3) := by decide +kernel
theorem dX12_day_23 : decode cX12_day 23 = .ok (.bipush (-3), 2) := by decide +kernel
theorem dX12_day_25 : decode cX12_day 25 = .ok (.ireturn, 1) := by decide +kernel
theorem dX12_day_26 : decode cX12_day 26 = .ok (.aload_n 0, 1) := by decide +kernel
theorem dX12_day_27 : decode cX12_day 27 = .ok (.iload_n 1, 1) := by decide +kernel
theorem dX12_day_28 : decode cX12_day 28 = .ok (.invokevirtual 226, 3) := by decide +kernel
theorem dX12_day_31 : decode cX12_day 31 = .ok (.aload_n 0, 1) := by decide +kernel
theorem dX12_day_32 : decode cX12_day 32 = .ok (.getfield 7, 3) := by decide +kernel
theorem dX12_day_35 : decode cX12_day 35 = .ok (.bipush 8, 2) := by decide +kernel
theorem dX12_day_37 : decode cX12_day 37 = .ok (.iaload, 1) := by decide +kernel
theorem dX12_day_38 : decode cX12_day 38 = .ok (.ireturn, 1) := by decide +kernel
set_option maxRecDepth 20000 in
theorem ggX12_hungry_X12_flag : GoodIn wsX12_hungry wsX12_flag := goodIn_r _ [7] rfl (by decide +kernel)
set_option maxRecDepth 20000 in
theorem gX12_hungry_X12_flag : GoodIn wsX12_hungry (va_wsS RX12 212 yX12_flag wsX12_flag) := goodIn_app (goodIn_of _ (by decide +kernel)) ggX12_hungry_X12_flag
theorem dX12_hungry_0 : decode cX12_hungry 0 = .ok (.iconst 0, 1) := by decide +kernel
theorem dX12_hungry_1 : decode cX12_hungry 1 = .ok (.istore_n 1, 1) := by decide +kernel
theorem dX12_hungry_2 : decode cX12_hungry 2 = .ok (.iconst 0, 1) := by decide +kernel
theorem dX12_hungry_3 : decode cX12_hungry 3 = .ok (.istore_n 2, 1) := by decide +kernel
theorem dX12_hungry_4 : decode cX12_hungry 4 = .ok (.iload_n 2, 1) := by decide +kernel
theorem dX12_hungry_5 : decode cX12_hungry 5 = .ok (.aload_n 0, 1) := by decide +kernel
theorem dX12_hungry_6 : decode cX12_hungry 6 = .ok (.getfield 100, 3) := by decide +kernel
theorem dX12_hungry_9 : decode cX12_hungry 9 = .ok (.if_icmp .ge 48, 3) := by decide +kernel
theorem dX12_hungry_12 : decode cX12_hungry 12 = .ok (.iload_n 1, 1) := by decide +kernel
theorem dX12_hungry_13 : decode cX12_hungry 13 = .ok (.aload_n 0, 1) := by decide +kernel
theorem dX12_hungry_14 : decode cX12_hungry 14 = .ok (.getfield 7, 3) := by decide +kernel
theorem dX12_hungry_17 : decode cX12_hungry 17 = .ok (.bipush 23, 2) := by decide +kernel
theorem dX12_hungry_19 : decode cX12_hungry 19 = .ok (.iload_n 2, 1) := by decide +kernel
theorem dX12_hungry_20 : decode cX12_hungry 20 = .ok (.iadd, 1) := by decide +kernel
theorem dX12_hungry_21 : decode cX12_hungry 21 = .ok (.iaload, 1) := by decide +kernel
theorem dX12_hungry_22 : decode cX12_hungry 22 = .ok (.aload_n 0, 1) := by decide +kernel
theorem dX12_hungry_23 : decode cX12_hungry 23 = .ok (.getfield 20, 3) := by decide +kernel
theorem dX12_hungry_26 : decode cX12_hungry 26 = .ok (.iload_n 2, 1) := by decide +kernel
theorem dX12_hungry_27 : decode cX12_hungry 27 = .ok (.iaload, 1) := by decide +kernel
theorem dX12_hungry_28 : decode cX12_hungry 28 = .ok (.aload_n 0, 1) := by decide +kernel
theorem dX12_hungry_29 : decode cX12_hungry 29 = .ok (.getfield 7, 3) := by decide +kernel
theorem dX12_hungry_32 : decode cX12_hungry 32 = .ok (.bipush 30, 2) := by decide +kernel
theorem dX12_hungry_34 : decode cX12_hungry 34 = .ok (.iaload, 1) := by decide +kernel
theorem dX12_hungry_35 : decode cX12_hungry 35 = .ok (.imul, 1) := by decide +kernel
theorem dX12_hungry_36 : decode cX12_hungry 36 = .ok (.if_icmp .ge 7, 3) := by decide +kernel
theorem dX12_hungry_39 : decode cX12_hungry 39 = .ok (.iconst 1, 1) := by decide +kernel
theorem dX12_hungry_40 : decode cX12_hungry 40 = .ok (.goto 4, 3) := by decide +kernel
theorem dX12_hungry_43 : decode cX12_hungry 43 = .ok (.iconst 0, 1) := by decide +kernel
theorem dX12_hungry_44 : decode cX12_hungry 44 = .ok (.invokestatic 212, 3) := by decide +kernel
theorem dX12_hungry_47 : decode cX12_hungry 47 = .ok (.iload_n 2, 1) := by decide +kernel
theorem dX12_hungry_48 : decode cX12_hungry 48 = .ok (.ishl, 1) := by decide +kernel
theorem dX12_hungry_49 : decode cX12_hungry 49 = .ok (.ior, 1) := by decide +kernel
theorem dX12_hungry_50 : decode cX12_hungry 50 = .ok (.istore_n 1, 1) := by decide +kernel
theorem dX12_hungry_51 : decode cX12_hungry 51 = .ok (.iinc 2 1, 3) := by decide +kernel
theorem dX12_hungry_54 : decode cX12_hungry 54 = .ok (.goto (-50), 3) := by decide +kernel
theorem dX12_hungry_57 : decode cX12_hungry 57 = .ok (.iload_n 1, 1) := by decide +kernel
theorem dX12_hungry_58 : decode cX12_hungry 58 = .ok (.ireturn, 1) := by decide +kernel
theorem dX12_common_0 : decode cX12_common 0 = .ok (.lload_n 0, 1) := by decide +kernel
theorem dX12_common_1 : decode cX12_common 1 = .ok (.lstore 4, 2) := by decide +kernel
theorem dX12_common_3 : decode cX12_common 3 = .ok (.lload_n 2, 1) := by decide +kernel
theorem dX12_common_4 : decode cX12_common 4 = .ok (.lstore 6, 2) := by decide +kernel
theorem dX12_common_6 : decode cX12_common 6 = .ok (.lload 6, 2) := by decide +kernel
theorem dX12_common_8 : decode cX12_common 8 = .ok (.lconst 0, 1) := by decide +kernel
theorem dX12_common_9 : decode cX12_common 9 = .ok (.lcmp, 1) := by decide +kernel
theorem dX12_common_10 : decode cX12_common 10 = .ok (.ifCond .eq 21, 3) := by decide +kernel
theorem dX12_common_13 : decode cX12_common 13 = .ok (.lload 4, 2) := by decide +kernel
theorem dX12_common_15 : decode cX12_common 15 = .ok (.lload 6, 2) := by decide +kernel
theorem dX12_common_17 : decode cX12_common 17 = .ok (.lrem, 1) := by decide +kernel
theorem dX12_common_18 : decode cX12_common 18 = .ok (.lstore 8, 2) := by decide +kernel
theorem dX12_common_20 : decode cX12_common 20 = .ok (.lload 6, 2) := by decide +kernel
theorem dX12_common_22 : decode cX12_common 22 = .ok (.lstore 4, 2) := by decide +kernel
theorem dX12_common_24 : decode cX12_common 24 = .ok (.lload 8, 2) := by decide +kernel
theorem dX12_common_26 : decode cX12_common 26 = .ok (.lstore 6, 2) := by decide +kernel
theorem dX12_common_28 : decode cX12_common 28 = .ok (.goto (-22), 3) := by decide +kernel
theorem dX12_common_31 : decode cX12_common 31 = .ok (.lload 4, 2) := by decide +kernel
theorem dX12_common_33 : decode cX12_common 33 = .ok (.lreturn, 1) := by decide +kernel
set_option maxRecDepth 20000 in
theorem ggX12_lowest_X12_common : GoodIn wsX12_lowest wsX12_common := goodIn_r _ [4] rfl (by decide +kernel)
set_option maxRecDepth 20000 in
theorem gX12_lowest_X12_common : GoodIn wsX12_lowest (va_wsS RX12 229 yX12_common wsX12_common) := goodIn_app (goodIn_of _ (by decide +kernel)) ggX12_lowest_X12_common
theorem dX12_lowest_0 : decode cX12_lowest 0 = .ok (.lload_n 2, 1) := by decide +kernel
theorem dX12_lowest_1 : decode cX12_lowest 1 = .ok (.lload_n 0, 1) := by decide +kernel
theorem dX12_lowest_2 : decode cX12_lowest 2 = .ok (.invokestatic 229, 3) := by decide +kernel
theorem dX12_lowest_5 : decode cX12_lowest 5 = .ok (.lstore 5, 2) := by decide +kernel
theorem dX12_lowest_7 : decode cX12_lowest 7 = .ok (.iload 4, 2) := by decide +kernel
theorem dX12_lowest_9 : decode cX12_lowest 9 = .ok (.ifCond .ne 10, 3) := by decide +kernel
theorem dX12_lowest_12 : decode cX12_lowest 12 = .ok (.lload_n 0, 1) := by decide +kernel
theorem dX12_lowest_13 : decode cX12_lowest 13 = .ok (.lload 5, 2) := by decide +kernel
theorem dX12_lowest_15 : decode cX12_lowest 15 = .ok (.ldiv, 1) := by decide +kernel
theorem dX12_lowest_16 : decode cX12_lowest 16 = .ok (.goto 7, 3) := by decide +kernel
theorem dX12_lowest_19 : decode cX12_lowest 19 = .ok (.lload_n 2, 1) := by decide +kernel
theorem dX12_lowest_20 : decode cX12_lowest 20 = .ok (.lload 5, 2) := by decide +kernel
theorem dX12_lowest_22 : decode cX12_lowest 22 = .ok (.ldiv, 1) := by decide +kernel
theorem dX12_lowest_23 : decode cX12_lowest 23 = .ok (.lreturn, 1) := by decide +kernel
theorem dX12_power_0 : decode cX12_power 0 = .ok (.lconst 1, 1) := by decide +kernel
theorem dX12_power_1 : decode cX12_power 1 = .ok (.lstore 4, 2) := by decide +kernel
theorem dX12_power_3 : decode cX12_power 3 = .ok (.iconst 0, 1) := by decide +kernel
theorem dX12_power_4 : decode cX12_power 4 = .ok (.istore 6, 2) := by decide +kernel
theorem dX12_power_6 : decode cX12_power 6 = .ok (.iload 6, 2) := by decide +kernel
theorem dX12_power_8 : decode cX12_power 8 = .ok (.iload_n 3, 1) := by decide +kernel
theorem dX12_power_9 : decode cX12_power 9 = .ok (.if_icmp .ge 15, 3) := by decide +kernel
theorem dX12_power_12 : decode cX12_power 12 = .ok (.lload 4, 2) := by decide +kernel
theorem dX12_power_14 : decode cX12_power 14 = .ok (.lload_n 1, 1) := by decide +kernel
theorem dX12_power_15 : decode cX12_power 15 = .ok (.lmul, 1) := by decide +kernel
theorem dX12_power_16 : decode cX12_power 16 = .ok (.lstore 4, 2) := by decide +kernel
theorem dX12_power_18 : decode cX12_power 18 = .ok (.iinc 6 1, 3) := by decide +kernel
theorem dX12_power_21 : decode cX12_power 21 = .ok (.goto (-15), 3) := by decide +kernel
theorem dX12_power_24 : decode cX12_power 24 = .ok (.lload 4, 2) := by decide +kernel
theorem dX12_power_26 : decode cX12_power 26 = .ok (.lreturn, 1) := by decide +kernel
theorem dX12_firstWays_0 : decode cX12_firstWays 0 = .ok (.iconst 0, 1) := by decide +kernel
theorem dX12_firstWays_1 : decode cX12_firstWays 1 = .ok (.istore_n 1, 1) := by decide +kernel
theorem dX12_firstWays_2 : decode cX12_firstWays 2 = .ok (.iload_n 1, 1) := by decide +kernel
theorem dX12_firstWays_3 : decode cX12_firstWays 3 = .ok (.bipush 49, 2) := by decide +kernel
theorem dX12_firstWays_5 : decode cX12_firstWays 5 = .ok (.if_icmp .ge 16, 3) := by decide +kernel
theorem dX12_firstWays_8 : decode cX12_firstWays 8 = .ok (.aload_n 0, 1) := by decide +kernel
theorem dX12_firstWays_9 : decode cX12_firstWays 9 = .ok (.getfield 41, 3) := by decide +kernel
theorem dX12_firstWays_12 : decode cX12_firstWays 12 = .ok (.iload_n 1, 1) := by decide +kernel
theorem dX12_firstWays_13 : decode cX12_firstWays 13 = .ok (.lconst 0, 1) := by decide +kernel
theorem dX12_firstWays_14 : decode cX12_firstWays 14 = .ok (.lastore, 1) := by decide +kernel
theorem dX12_firstWays_15 : decode cX12_firstWays 15 = .ok (.iinc 1 1, 3) := by decide +kernel
theorem dX12_firstWays_18 : decode cX12_firstWays 18 = .ok (.goto (-16), 3) := by decide +kernel
theorem dX12_firstWays_21 : decode cX12_firstWays 21 = .ok (.aload_n 0, 1) := by decide +kernel
theorem dX12_firstWays_22 : decode cX12_firstWays 22 = .ok (.getfield 41, 3) := by decide +kernel
theorem dX12_firstWays_25 : decode cX12_firstWays 25 = .ok (.bipush 7, 2) := by decide +kernel
theorem dX12_firstWays_27 : decode cX12_firstWays 27 = .ok (.aload_n 0, 1) := by decide +kernel
theorem dX12_firstWays_28 : decode cX12_firstWays 28 = .ok (.getfield 7, 3) := by decide +kernel
theorem dX12_firstWays_31 : decode cX12_firstWays 31 = .ok (.bipush 7, 2) := by decide +kernel
theorem dX12_firstWays_33 : decode cX12_firstWays 33 = .ok (.iaload, 1) := by decide +kernel
theorem dX12_firstWays_34 : decode cX12_firstWays 34 = .ok (.imul, 1) := by decide +kernel
theorem dX12_firstWays_35 : decode cX12_firstWays 35 = .ok (.aload_n 0, 1) := by decide +kernel
theorem dX12_firstWays_36 : decode cX12_firstWays 36 = .ok (.getfield 7, 3) := by decide +kernel
theorem dX12_firstWays_39 : decode cX12_firstWays 39 = .ok (.bipush 8, 2) := by decide +kernel
theorem dX12_firstWays_41 : decode cX12_firstWays 41 = .ok (.iaload, 1) := by decide +kernel
theorem dX12_firstWays_42 : decode cX12_firstWays 42 = .ok (.iadd, 1) := by decide +kernel
theorem dX12_firstWays_43 : decode cX12_firstWays 43 = .ok (.lconst 1, 1) := by decide +kernel
theorem dX12_firstWays_44 : decode cX12_firstWays 44 = .ok (.lastore, 1) := by decide +kernel
theorem dX12_firstWays_45 : decode cX12_firstWays 45 = .ok (.return_, 1) := by decide +kernel
set_option maxRecDepth 20000 in
theorem ggX12_then_X12_nextBy : GoodIn wsX12_then wsX12_nextBy := goodIn_r _ [6, 7, 1, 8, 9, 10, 5, 11, 12, 13, 14, 15, 16, 17, 18, 19, 20, 21, 22, 23, 24, 25, 26, 27, 28, 29, 30, 31, 32, 33, 34, 35, 36, 37, 38, 39, 40, 41, 42, 43, 44, 45, 46, 47, 48, 49, 50, 51, 52, 53] rfl (by decide +kernel)
set_option maxRecDepth 20000 in
theorem gX12_then_X12_nextBy : GoodIn wsX12_then (wsV RX12 222 RX12 yX12_nextBy wsX12_nextBy) := goodIn_app (goodIn_of _ (by decide +kernel)) ggX12_then_X12_nextBy
theorem dX12_then_0 : decode cX12_then 0 = .ok (.bipush 7, 2) := by decide +kernel
theorem dX12_then_2 : decode cX12_then 2 = .ok (.aload_n 0, 1) := by decide +kernel
theorem dX12_then_3 : decode cX12_then 3 = .ok (.getfield 17, 3) := by decide +kernel
theorem dX12_then_6 : decode cX12_then 6 = .ok (.bipush 7, 2) := by decide +kernel
theorem dX12_then_8 : decode cX12_then 8 = .ok (.iload_n 2, 1) := by decide +kernel
theorem dX12_then_9 : decode cX12_then 9 = .ok (.imul, 1) := by decide +kernel
theorem dX12_then_10 : decode cX12_then 10 = .ok (.iload_n 1, 1) := by decide +kernel
theorem dX12_then_11 : decode cX12_then 11 = .ok (.bipush 7, 2) := by decide +kernel
theorem dX12_then_13 : decode cX12_then 13 = .ok (.idiv, 1) := by decide +kernel
theorem dX12_then_14 : decode cX12_then 14 = .ok (.iadd, 1) := by decide +kernel
theorem dX12_then_15 : decode cX12_then 15 = .ok (.iaload, 1) := by decide +kernel
theorem dX12_then_16 : decode cX12_then 16 = .ok (.imul, 1) := by decide +kernel
theorem dX12_then_17 : decode cX12_then 17 = .ok (.aload_n 0, 1) := by decide +kernel
theorem dX12_then_18 : decode cX12_then 18 = .ok (.iload_n 1, 1) := by decide +kernel
theorem dX12_then_19 : decode cX12_then 19 = .ok (.bipush 7, 2) := by decide +kernel
theorem dX12_then_21 : decode cX12_then 21 = .ok (.irem, 1) := by decide +kernel
theorem dX12_then_22 : decode cX12_then 22 = .ok (.iload_n 2, 1) := by decide +kernel
theorem dX12_then_23 : decode cX12_then 23 = .ok (.iload_n 1, 1) := by decide +kernel
theorem dX12_then_24 : decode cX12_then 24 = .ok (.bipush 7, 2) := by decide +kernel
theorem dX12_then_26 : decode cX12_then 26 = .ok (.idiv, 1) := by decide +kernel
theorem dX12_then_27 : decode cX12_then 27 = .ok (.invokevirtual 222, 3) := by decide +kernel
theorem dX12_then_30 : decode cX12_then 30 = .ok (.iadd, 1) := by decide +kernel
theorem dX12_then_31 : decode cX12_then 31 = .ok (.ireturn, 1) := by decide +kernel
set_option maxRecDepth 20000 in
theorem ggX12_nextWays_X12_then : GoodIn wsX12_nextWays wsX12_then := goodIn_r _ [8, 9, 10, 11, 12, 7, 13, 14, 15, 16, 17, 18, 19, 20, 21, 22, 23, 24, 25, 26, 27, 28, 29, 30, 31, 32, 33, 34, 35, 36, 37, 38, 39, 40, 41, 42, 43, 44, 45, 46, 47, 48, 49, 50, 51, 52, 53, 54, 55, 56, 57, 58, 59, 60] rfl (by decide +kernel)
set_option maxRecDepth 20000 in
theorem gX12_nextWays_X12_then : GoodIn wsX12_nextWays (wsV RX12 233 RX12 yX12_then wsX12_then) := goodIn_app (goodIn_of _ (by decide +kernel)) ggX12_nextWays_X12_then
theorem dX12_nextWays_0 : decode cX12_nextWays 0 = .ok (.iconst 0, 1) := by decide +kernel
theorem dX12_nextWays_1 : decode cX12_nextWays 1 = .ok (.istore_n 2, 1) := by decide +kernel
theorem dX12_nextWays_2 : decode cX12_nextWays 2 = .ok (.iload_n 2, 1) := by decide +kernel
theorem dX12_nextWays_3 : decode cX12_nextWays 3 = .ok (.bipush 49, 2) := by decide +kernel
theorem dX12_nextWays_5 : decode cX12_nextWays 5 = .ok (.if_icmp .ge 16, 3) := by decide +kernel
theorem dX12_nextWays_8 : decode cX12_nextWays 8 = .ok (.aload_n 0, 1) := by decide +kernel
theorem dX12_nextWays_9 : decode cX12_nextWays 9 = .ok (.getfield 45, 3) := by decide +kernel
theorem dX12_nextWays_12 : decode cX12_nextWays 12 = .ok (.iload_n 2, 1) := by decide +kernel
theorem dX12_nextWays_13 : decode cX12_nextWays 13 = .ok (.lconst 0, 1) := by decide +kernel
theorem dX12_nextWays_14 : decode cX12_nextWays 14 = .ok (.lastore, 1) := by decide +kernel
theorem dX12_nextWays_15 : decode cX12_nextWays 15 = .ok (.iinc 2 1, 3) := by decide +kernel
theorem dX12_nextWays_18 : decode cX12_nextWays 18 = .ok (.goto (-16), 3) := by decide +kernel
theorem dX12_nextWays_21 : decode cX12_nextWays 21 = .ok (.iconst 0, 1) := by decide +kernel
theorem dX12_nextWays_22 : decode cX12_nextWays 22 = .ok (.istore_n 2, 1) := by decide +kernel
theorem dX12_nextWays_23 : decode cX12_nextWays 23 = .ok (.iload_n 2, 1) := by decide +kernel
theorem dX12_nextWays_24 : decode cX12_nextWays 24 = .ok (.bipush 49, 2) := by decide +kernel
theorem dX12_nextWays_26 : decode cX12_nextWays 26 = .ok (.if_icmp .ge 80, 3) := by decide +kernel
theorem dX12_nextWays_29 : decode cX12_nextWays 29 = .ok (.iconst 0, 1) := by decide +kernel
theorem dX12_nextWays_30 : decode cX12_nextWays 30 = .ok (.istore_n 3, 1) := by decide +kernel
theorem dX12_nextWays_31 : decode cX12_nextWays 31 = .ok (.iload_n 3, 1) := by decide +kernel
theorem dX12_nextWays_32 : decode cX12_nextWays 32 = .ok (.aload_n 0, 1) := by decide +kernel
theorem dX12_nextWays_33 : decode cX12_nextWays 33 = .ok (.getfield 103, 3) := by decide +kernel
theorem dX12_nextWays_36 : decode cX12_nextWays 36 = .ok (.if_icmp .ge 64, 3) := by decide +kernel
theorem dX12_nextWays_39 : decode cX12_nextWays 39 = .ok (.aload_n 0, 1) := by decide +kernel
theorem dX12_nextWays_40 : decode cX12_nextWays 40 = .ok (.getfield 41, 3) := by decide +kernel
theorem dX12_nextWays_43 : decode cX12_nextWays 43 = .ok (.iload_n 2, 1) := by decide +kernel
theorem dX12_nextWays_44 : decode cX12_nextWays 44 = .ok (.laload, 1) := by decide +kernel
theorem dX12_nextWays_45 : decode cX12_nextWays 45 = .ok (.lconst 0, 1) := by decide +kernel
theorem dX12_nextWays_46 : decode cX12_nextWays 46 = .ok (.lcmp, 1) := by decide +kernel
theorem dX12_nextWays_47 : decode cX12_nextWays 47 = .ok (.ifCond .le 53, 3) := by decide +kernel
theorem dX12_nextWays_50 : decode cX12_nextWays 50 = .ok (.aload_n 0, 1) := by decide +kernel
theorem dX12_nextWays_51 : decode cX12_nextWays 51 = .ok (.iload_n 2, 1) := by decide +kernel
theorem dX12_nextWays_52 : decode cX12_nextWays 52 = .ok (.iload_n 3, 1) := by decide +kernel
theorem dX12_nextWays_53 : decode cX12_nextWays 53 = .ok (.invokevirtual 233, 3) := by decide +kernel
theorem dX12_nextWays_56 : decode cX12_nextWays 56 = .ok (.istore 4, 2) := by decide +kernel
theorem dX12_nextWays_58 : decode cX12_nextWays 58 = .ok (.aload_n 0, 1) := by decide +kernel
theorem dX12_nextWays_59 : decode cX12_nextWays 59 = .ok (.getfield 45, 3) := by decide +kernel
theorem dX12_nextWays_62 : decode cX12_nextWays 62 = .ok (.iload 4, 2) := by decide +kernel
theorem dX12_nextWays_64 : decode cX12_nextWays 64 = .ok (.dup2, 1) := by decide +kernel
theorem dX12_nextWays_65 : decode cX12_nextWays 65 = .ok (.laload, 1) := by decide +kernel
theorem dX12_nextWays_66 : decode cX12_nextWays 66 = .ok (.iload_n 1, 1) := by decide +kernel
theorem dX12_nextWays_67 : decode cX12_nextWays 67 = .ok (.ifCond .eq 15, 3) := by decide +kernel
theorem dX12_nextWays_70 : decode cX12_nextWays 70 = .ok (.iload 4, 2) := by decide +kernel
theorem dX12_nextWays_72 : decode cX12_nextWays 72 = .ok (.bipush 7, 2) := by decide +kernel
theorem dX12_nextWays_74 : decode cX12_nextWays 74 = .ok (.irem, 1) := by decide +kernel
theorem dX12_nextWays_75 : decode cX12_nextWays 75 = .ok (.iload_n 2, 1) := by decide +kernel
theorem dX12_nextWays_76 : decode cX12_nextWays 76 = .ok (.bipush 7, 2) := by decide +kernel
theorem dX12_nextWays_78 : decode cX12_nextWays 78 = .ok (.irem, 1) := by decide +kernel
theorem dX12_nextWays_79 : decode cX12_nextWays 79 = .ok (.if_icmp .ne 12, 3) := by decide +kernel
theorem dX12_nextWays_82 : decode cX12_nextWays 82 = .ok (.aload_n 0, 1) := by decide +kernel
theorem dX12_nextWays_83 : decode cX12_nextWays 83 = .ok (.getfield 41, 3) := by decide +kernel
theorem dX12_nextWays_86 : decode cX12_nextWays 86 = .ok (.iload_n 2, 1) := by decide +kernel
theorem dX12_nextWays_87 : decode cX12_nextWays 87 = .ok (.laload, 1) := by decide +kernel
theorem dX12_nextWays_88 : decode cX12_nextWays 88 = .ok (.goto 4, 3) := by decide +kernel
theorem dX12_nextWays_91 : decode cX12_nextWays 91 = .ok (.lconst 0, 1) := by decide +kernel
theorem dX12_nextWays_92 : decode cX12_nextWays 92 = .ok (.ladd, 1) := by decide +kernel
theorem dX12_nextWays_93 : decode cX12_nextWays 93 = .ok (.lastore, 1) := by decide +kernel
theorem dX12_nextWays_94 : decode cX12_nextWays 94 = .ok (.iinc 3 1, 3) := by decide +kernel
theorem dX12_nextWays_97 : decode cX12_nextWays 97 = .ok (.goto (-66), 3) := by decide +kernel
theorem dX12_nextWays_100 : decode cX12_nextWays 100 = .ok (.iinc 2 1, 3) := by decide +kernel
theorem dX12_nextWays_103 : decode cX12_nextWays 103 = .ok (.goto (-80), 3) := by decide +kernel
theorem dX12_nextWays_106 : decode cX12_nextWays 106 = .ok (.iconst 0, 1) := by decide +kernel
theorem dX12_nextWays_107 : decode cX12_nextWays 107 = .ok (.istore_n 2, 1) := by decide +kernel
theorem dX12_nextWays_108 : decode cX12_nextWays 108 = .ok (.iload_n 2, 1) := by decide +kernel
theorem dX12_nextWays_109 : decode cX12_nextWays 109 = .ok (.bipush 49, 2) := by decide +kernel
theorem dX12_nextWays_111 : decode cX12_nextWays 111 = .ok (.if_icmp .ge 21, 3) := by decide +kernel
theorem dX12_nextWays_114 : decode cX12_nextWays 114 = .ok (.aload_n 0, 1) := by decide +kernel
theorem dX12_nextWays_115 : decode cX12_nextWays 115 = .ok (.getfield 41, 3) := by decide +kernel
theorem dX12_nextWays_118 : decode cX12_nextWays 118 = .ok (.iload_n 2, 1) := by decide +kernel
theorem dX12_nextWays_119 : decode cX12_nextWays 119 = .ok (.aload_n 0, 1) := by decide +kernel
theorem dX12_nextWays_120 : decode cX12_nextWays 120 = .ok (.getfield 45, 3) := by decide +kernel
theorem dX12_nextWays_123 : decode cX12_nextWays 123 = .ok (.iload_n 2, 1) := by decide +kernel
theorem dX12_nextWays_124 : decode cX12_nextWays 124 = .ok (.laload, 1) := by decide +kernel
theorem dX12_nextWays_125 : decode cX12_nextWays 125 = .ok (.lastore, 1) := by decide +kernel
theorem dX12_nextWays_126 : decode cX12_nextWays 126 = .ok (.iinc 2 1, 3) := by decide +kernel
theorem dX12_nextWays_129 : decode cX12_nextWays 129 = .ok (.goto (-21), 3) := by decide +kernel
theorem dX12_nextWays_132 : decode cX12_nextWays 132 = .ok (.return_, 1) := by decide +kernel
set_option maxRecDepth 20000 in
theorem ggX12_isTold_X12_in : GoodIn wsX12_isTold wsX12_in := goodIn_r _ [4] rfl (by decide +kernel)
set_option maxRecDepth 20000 in
theorem gX12_isTold_X12_in : GoodIn wsX12_isTold (va_wsS RX12 115 yX12_in wsX12_in) := goodIn_app (goodIn_of _ (by decide +kernel)) ggX12_isTold_X12_in
theorem dX12_isTold_0 : decode cX12_isTold 0 = .ok (.iload_n 0, 1) := by decide +kernel
theorem dX12_isTold_1 : decode cX12_isTold 1 = .ok (.i2l, 1) := by decide +kernel
theorem dX12_isTold_2 : decode cX12_isTold 2 = .ok (.lconst 0, 1) := by decide +kernel
theorem dX12_isTold_3 : decode cX12_isTold 3 = .ok (.lconst 1, 1) := by decide +kernel
theorem dX12_isTold_4 : decode cX12_isTold 4 = .ok (.invokestatic 115, 3) := by decide +kernel
theorem dX12_isTold_7 : decode cX12_isTold 7 = .ok (.ireturn, 1) := by decide +kernel
set_option maxRecDepth 20000 in
theorem ggX12_chance_X12_isSeat : GoodIn wsX12_chance wsX12_isSeat := goodIn_r _ [10, 11, 12, 13, 9, 14, 55, 56, 57, 58, 59, 60, 61, 62, 63, 64, 65, 66, 67, 68, 69, 70, 71, 72, 73, 74, 75, 76, 77, 78, 79, 80, 81, 82, 83, 84, 85, 86, 87, 88, 89, 90, 91] rfl (by decide +kernel)
set_option maxRecDepth 20000 in
theorem gX12_chance_X12_isSeat : GoodIn wsX12_chance (wsV RX12 203 RX12 yX12_isSeat wsX12_isSeat) := goodIn_app (goodIn_of _ (by decide +kernel)) ggX12_chance_X12_isSeat
set_option maxRecDepth 20000 in
theorem ggX12_chance_X12_in : GoodIn wsX12_chance wsX12_in := goodIn_r _ [14] rfl (by decide +kernel)
set_option maxRecDepth 20000 in
theorem gX12_chance_X12_in : GoodIn wsX12_chance (va_wsS RX12 115 yX12_in wsX12_in) := goodIn_app (goodIn_of _ (by decide +kernel)) ggX12_chance_X12_in
set_option maxRecDepth 20000 in
theorem ggX12_chance_X12_isTold : GoodIn wsX12_chance wsX12_isTold := goodIn_r _ [17, 12, 13, 9, 14] rfl (by decide +kernel)
set_option maxRecDepth 20000 in
theorem gX12_chance_X12_isTold : GoodIn wsX12_chance (va_wsS RX12 238 yX12_isTold wsX12_isTold) := goodIn_app (goodIn_of _ (by decide +kernel)) ggX12_chance_X12_isTold
set_option maxRecDepth 20000 in
theorem ggX12_chance_X12_firstWays : GoodIn wsX12_chance wsX12_firstWays := goodIn_r _ [21, 5, 22, 55, 56, 57, 58, 59, 60, 61, 62, 63, 64, 65, 66, 67, 68, 69, 70, 71, 72, 73, 74, 75, 76, 77, 78, 79, 80, 81, 82, 83, 84, 85, 86, 87, 88, 89, 90, 91] rfl (by decide +kernel)
set_option maxRecDepth 20000 in
theorem gX12_chance_X12_firstWays : GoodIn wsX12_chance (wsV RX12 245 RX12 yX12_firstWays wsX12_firstWays) := goodIn_app (goodIn_of _ (by decide +kernel)) ggX12_chance_X12_firstWays
set_option maxRecDepth 20000 in
theorem ggX12_chance_X12_nextWays : GoodIn wsX12_chance wsX12_nextWays := goodIn_r _ [26, 27, 3, 5, 28, 29, 30, 9, 31, 32, 33, 34, 35, 36, 37, 38, 39, 40, 41, 11, 22, 42, 43, 44, 55, 56, 57, 58, 59, 60, 61, 62, 63, 64, 65, 66, 67, 68, 69, 70, 71, 72, 73, 74, 75, 76, 77, 78, 79, 80, 81, 82, 83, 84, 85, 86, 87, 88, 89, 90, 91] rfl (by decide +kernel)
set_option maxRecDepth 20000 in
theorem gX12_chance_X12_nextWays : GoodIn wsX12_chance (wsV RX12 248 RX12 yX12_nextWays wsX12_nextWays) := goodIn_app (goodIn_of _ (by decide +kernel)) ggX12_chance_X12_nextWays
set_option maxRecDepth 20000 in
theorem ggX12_chance_X12_power : GoodIn wsX12_chance wsX12_power := goodIn_r _ [48] rfl (by decide +kernel)
set_option maxRecDepth 20000 in
theorem gX12_chance_X12_power : GoodIn wsX12_chance (wsV RX12 252 RX12 yX12_power wsX12_power) := goodIn_app (goodIn_of _ (by decide +kernel)) ggX12_chance_X12_power
set_option maxRecDepth 20000 in
theorem ggX12_chance_X12_lowest : GoodIn wsX12_chance wsX12_lowest := goodIn_r _ [51, 52, 53, 9, 54] rfl (by decide +kernel)
set_option maxRecDepth 20000 in
theorem gX12_chance_X12_lowest : GoodIn wsX12_chance (va_wsS RX12 256 yX12_lowest wsX12_lowest) := goodIn_app (goodIn_of _ (by decide +kernel)) ggX12_chance_X12_lowest
theorem dX12_chance_0 : decode cX12_chance 0 = .ok (.aload_n 0, 1) := by decide +kernel
theorem dX12_chance_1 : decode cX12_chance 1 = .ok (.iload_n 1, 1) := by decide +kernel
theorem dX12_chance_2 : decode cX12_chance 2 = .ok (.invokevirtual 203, 3) := by decide +kernel
theorem dX12_chance_5 : decode cX12_chance 5 = .ok (.ifCond .eq 22, 3) := by decide +kernel
theorem dX12_chance_8 : decode cX12_chance 8 = .ok (.iload_n 2, 1) := by decide +kernel
theorem dX12_chance_9 : decode cX12_chance 9 = .ok (.i2l, 1) := by decide +kernel
theorem dX12_chance_10 : decode cX12_chance 10 = .ok (.lconst 0, 1) := by decide +kernel
theorem dX12_chance_11 : decode cX12_chance 11 = .ok (.ldc2_w 236, 3) := by decide +kernel
theorem dX12_chance_14 : decode cX12_chance 14 = .ok (.invokestatic 115, 3) := by decide +kernel
theorem dX12_chance_17 : decode cX12_chance 17 = .ok (.ifCond .eq 10, 3) := by decide +kernel
theorem dX12_chance_20 : decode cX12_chance 20 = .ok (.iload_n 3, 1) := by decide +kernel
theorem dX12_chance_21 : decode cX12_chance 21 = .ok (.invokestatic 238, 3) := by decide +kernel
theorem dX12_chance_24 : decode cX12_chance 24 = .ok (.ifCond .ne 7, 3) := by decide +kernel
theorem dX12_chance_27 : decode cX12_chance 27 = .ok (.ldc2_w 241, 3) := by decide +kernel
theorem dX12_chance_30 : decode cX12_chance 30 = .ok (.lreturn, 1) := by decide +kernel
theorem dX12_chance_31 : decode cX12_chance 31 = .ok (.aload_n 0, 1) := by decide +kernel
theorem dX12_chance_32 : decode cX12_chance 32 = .ok (.getfield 103, 3) := by decide +kernel
theorem dX12_chance_35 : decode cX12_chance 35 = .ok (.ifCond .ne 7, 3) := by decide +kernel
theorem dX12_chance_38 : decode cX12_chance 38 = .ok (.ldc2_w 243, 3) := by decide +kernel
theorem dX12_chance_41 : decode cX12_chance 41 = .ok (.lreturn, 1) := by decide +kernel
theorem dX12_chance_42 : decode cX12_chance 42 = .ok (.aload_n 0, 1) := by decide +kernel
theorem dX12_chance_43 : decode cX12_chance 43 = .ok (.invokevirtual 245, 3) := by decide +kernel
theorem dX12_chance_46 : decode cX12_chance 46 = .ok (.iconst 0, 1) := by decide +kernel
theorem dX12_chance_47 : decode cX12_chance 47 = .ok (.istore 4, 2) := by decide +kernel
theorem dX12_chance_49 : decode cX12_chance 49 = .ok (.iload 4, 2) := by decide +kernel
theorem dX12_chance_51 : decode cX12_chance 51 = .ok (.iload_n 2, 1) := by decide +kernel
theorem dX12_chance_52 : decode cX12_chance 52 = .ok (.if_icmp .ge 14, 3) := by decide +kernel
theorem dX12_chance_55 : decode cX12_chance 55 = .ok (.aload_n 0, 1) := by decide +kernel
theorem dX12_chance_56 : decode cX12_chance 56 = .ok (.iconst 0, 1) := by decide +kernel
theorem dX12_chance_57 : decode cX12_chance 57 = .ok (.invokevirtual 248, 3) := by decide +kernel
theorem dX12_chance_60 : decode cX12_chance 60 = .ok (.iinc 4 1, 3) := by decide +kernel
theorem dX12_chance_63 : decode cX12_chance 63 = .ok (.goto (-14), 3) := by decide +kernel
theorem dX12_chance_66 : decode cX12_chance 66 = .ok (.lconst 0, 1) := by decide +kernel
theorem dX12_chance_67 : decode cX12_chance 67 = .ok (.lstore 4, 2) := by decide +kernel
theorem dX12_chance_69 : decode cX12_chance 69 = .ok (.iconst 0, 1) := by decide +kernel
theorem dX12_chance_70 : decode cX12_chance 70 = .ok (.istore 6, 2) := by decide +kernel
theorem dX12_chance_72 : decode cX12_chance 72 = .ok (.iload 6, 2) := by decide +kernel
theorem dX12_chance_74 : decode cX12_chance 74 = .ok (.bipush 49, 2) := by decide +kernel
theorem dX12_chance_76 : decode cX12_chance 76 = .ok (.if_icmp .ge 34, 3) := by decide +kernel
theorem dX12_chance_79 : decode cX12_chance 79 = .ok (.lload 4, 2) := by decide +kernel
theorem dX12_chance_81 : decode cX12_chance 81 = .ok (.iload 6, 2) := by decide +kernel
theorem dX12_chance_83 : decode cX12_chance 83 = .ok (.bipush 7, 2) := by decide +kernel
theorem dX12_chance_85 : decode cX12_chance 85 = .ok (.irem, 1) := by decide +kernel
theorem dX12_chance_86 : decode cX12_chance 86 = .ok (.iload_n 1, 1) := by decide +kernel
theorem dX12_chance_87 : decode cX12_chance 87 = .ok (.if_icmp .ne 13, 3) := by decide +kernel
theorem dX12_chance_90 : decode cX12_chance 90 = .ok (.aload_n 0, 1) := by decide +kernel
theorem dX12_chance_91 : decode cX12_chance 91 = .ok (.getfield 41, 3) := by decide +kernel
theorem dX12_chance_94 : decode cX12_chance 94 = .ok (.iload 6, 2) := by decide +kernel
theorem dX12_chance_96 : decode cX12_chance 96 = .ok (.laload, 1) := by decide +kernel
theorem dX12_chance_97 : decode cX12_chance 97 = .ok (.goto 4, 3) := by decide +kernel
theorem dX12_chance_100 : decode cX12_chance 100 = .ok (.lconst 0, 1) := by decide +kernel
theorem dX12_chance_101 : decode cX12_chance 101 = .ok (.ladd, 1) := by decide +kernel
theorem dX12_chance_102 : decode cX12_chance 102 = .ok (.lstore 4, 2) := by decide +kernel
theorem dX12_chance_104 : decode cX12_chance 104 = .ok (.iinc 6 1, 3) := by decide +kernel
theorem dX12_chance_107 : decode cX12_chance 107 = .ok (.goto (-35), 3) := by decide +kernel
theorem dX12_chance_110 : decode cX12_chance 110 = .ok (.lload 4, 2) := by decide +kernel
theorem dX12_chance_112 : decode cX12_chance 112 = .ok (.aload_n 0, 1) := by decide +kernel
theorem dX12_chance_113 : decode cX12_chance 113 = .ok (.aload_n 0, 1) := by decide +kernel
theorem dX12_chance_114 : decode cX12_chance 114 = .ok (.getfield 103, 3) := by decide +kernel
theorem dX12_chance_117 : decode cX12_chance 117 = .ok (.i2l, 1) := by decide +kernel
theorem dX12_chance_118 : decode cX12_chance 118 = .ok (.iload_n 2, 1) := by decide +kernel
theorem dX12_chance_119 : decode cX12_chance 119 = .ok (.invokevirtual 252, 3) := by decide +kernel
theorem dX12_chance_122 : decode cX12_chance 122 = .ok (.iload_n 3, 1) := by decide +kernel
theorem dX12_chance_123 : decode cX12_chance 123 = .ok (.invokestatic 256, 3) := by decide +kernel
theorem dX12_chance_126 : decode cX12_chance 126 = .ok (.lreturn, 1) := by decide +kernel
set_option maxRecDepth 20000 in
theorem ggX12_lasts_X12_in : GoodIn wsX12_lasts wsX12_in := goodIn_r _ [9] rfl (by decide +kernel)
set_option maxRecDepth 20000 in
theorem gX12_lasts_X12_in : GoodIn wsX12_lasts (va_wsS RX12 115 yX12_in wsX12_in) := goodIn_app (goodIn_of _ (by decide +kernel)) ggX12_lasts_X12_in
set_option maxRecDepth 20000 in
theorem ggX12_lasts_X12_isTold : GoodIn wsX12_lasts wsX12_isTold := goodIn_r _ [12, 6, 7, 8, 9] rfl (by decide +kernel)
set_option maxRecDepth 20000 in
theorem gX12_lasts_X12_isTold : GoodIn wsX12_lasts (va_wsS RX12 238 yX12_isTold wsX12_isTold) := goodIn_app (goodIn_of _ (by decide +kernel)) ggX12_lasts_X12_isTold
set_option maxRecDepth 20000 in
theorem ggX12_lasts_X12_firstWays : GoodIn wsX12_lasts wsX12_firstWays := goodIn_r _ [16, 5, 17, 51, 52, 53, 54, 55, 56, 57, 58, 59, 60, 61, 62, 63, 64, 65, 66, 67, 68, 69, 70, 71, 72, 73, 74, 75, 76, 77, 78, 79, 80, 81, 82, 83, 84, 85, 86, 87] rfl (by decide +kernel)
set_option maxRecDepth 20000 in
theorem gX12_lasts_X12_firstWays : GoodIn wsX12_lasts (wsV RX12 245 RX12 yX12_firstWays wsX12_firstWays) := goodIn_app (goodIn_of _ (by decide +kernel)) ggX12_lasts_X12_firstWays
set_option maxRecDepth 20000 in
theorem ggX12_lasts_X12_nextWays : GoodIn wsX12_lasts wsX12_nextWays := goodIn_r _ [21, 22, 3, 5, 23, 24, 25, 8, 26, 27, 28, 29, 30, 31, 32, 33, 34, 35, 36, 37, 17, 38, 39, 40, 51, 52, 53, 54, 55, 56, 57, 58, 59, 60, 61, 62, 63, 64, 65, 66, 67, 68, 69, 70, 71, 72, 73, 74, 75, 76, 77, 78, 79, 80, 81, 82, 83, 84, 85, 86, 87] rfl (by decide +kernel)
set_option maxRecDepth 20000 in
theorem gX12_lasts_X12_nextWays : GoodIn wsX12_lasts (wsV RX12 248 RX12 yX12_nextWays wsX12_nextWays) := goodIn_app (goodIn_of _ (by decide +kernel)) ggX12_lasts_X12_nextWays
set_option maxRecDepth 20000 in
theorem ggX12_lasts_X12_power : GoodIn wsX12_lasts wsX12_power := goodIn_r _ [44] rfl (by decide +kernel)
set_option maxRecDepth 20000 in
theorem gX12_lasts_X12_power : GoodIn wsX12_lasts (wsV RX12 252 RX12 yX12_power wsX12_power) := goodIn_app (goodIn_of _ (by decide +kernel)) ggX12_lasts_X12_power
set_option maxRecDepth 20000 in
theorem ggX12_lasts_X12_lowest : GoodIn wsX12_lasts wsX12_lowest := goodIn_r _ [47, 48, 49, 8, 50] rfl (by decide +kernel)
set_option maxRecDepth 20000 in
theorem gX12_lasts_X12_lowest : GoodIn wsX12_lasts (va_wsS RX12 256 yX12_lowest wsX12_lowest) := goodIn_app (goodIn_of _ (by decide +kernel)) ggX12_lasts_X12_lowest
theorem dX12_lasts_0 : decode cX12_lasts 0 = .ok (.iload_n 1, 1) := by decide +kernel
theorem dX12_lasts_1 : decode cX12_lasts 1 = .ok (.i2l, 1) := by decide +kernel
theorem dX12_lasts_2 : decode cX12_lasts 2 = .ok (.lconst 0, 1) := by decide +kernel
theorem dX12_lasts_3 : decode cX12_lasts 3 = .ok (.ldc2_w 236, 3) := by decide +kernel
theorem dX12_lasts_6 : decode cX12_lasts 6 = .ok (.invokestatic 115, 3) := by decide +kernel
theorem dX12_lasts_9 : decode cX12_lasts 9 = .ok (.ifCond .eq 10, 3) := by decide +kernel
theorem dX12_lasts_12 : decode cX12_lasts 12 = .ok (.iload_n 2, 1) := by decide +kernel
theorem dX12_lasts_13 : decode cX12_lasts 13 = .ok (.invokestatic 238, 3) := by decide +kernel
theorem dX12_lasts_16 : decode cX12_lasts 16 = .ok (.ifCond .ne 7, 3) := by decide +kernel
theorem dX12_lasts_19 : decode cX12_lasts 19 = .ok (.ldc2_w 241, 3) := by decide +kernel
theorem dX12_lasts_22 : decode cX12_lasts 22 = .ok (.lreturn, 1) := by decide +kernel
theorem dX12_lasts_23 : decode cX12_lasts 23 = .ok (.aload_n 0, 1) := by decide +kernel
theorem dX12_lasts_24 : decode cX12_lasts 24 = .ok (.getfield 103, 3) := by decide +kernel
theorem dX12_lasts_27 : decode cX12_lasts 27 = .ok (.ifCond .ne 7, 3) := by decide +kernel
theorem dX12_lasts_30 : decode cX12_lasts 30 = .ok (.ldc2_w 243, 3) := by decide +kernel
theorem dX12_lasts_33 : decode cX12_lasts 33 = .ok (.lreturn, 1) := by decide +kernel
theorem dX12_lasts_34 : decode cX12_lasts 34 = .ok (.aload_n 0, 1) := by decide +kernel
theorem dX12_lasts_35 : decode cX12_lasts 35 = .ok (.invokevirtual 245, 3) := by decide +kernel
theorem dX12_lasts_38 : decode cX12_lasts 38 = .ok (.iconst 0, 1) := by decide +kernel
theorem dX12_lasts_39 : decode cX12_lasts 39 = .ok (.istore_n 3, 1) := by decide +kernel
theorem dX12_lasts_40 : decode cX12_lasts 40 = .ok (.iload_n 3, 1) := by decide +kernel
theorem dX12_lasts_41 : decode cX12_lasts 41 = .ok (.iload_n 1, 1) := by decide +kernel
theorem dX12_lasts_42 : decode cX12_lasts 42 = .ok (.if_icmp .ge 14, 3) := by decide +kernel
theorem dX12_lasts_45 : decode cX12_lasts 45 = .ok (.aload_n 0, 1) := by decide +kernel
theorem dX12_lasts_46 : decode cX12_lasts 46 = .ok (.iconst 1, 1) := by decide +kernel
theorem dX12_lasts_47 : decode cX12_lasts 47 = .ok (.invokevirtual 248, 3) := by decide +kernel
theorem dX12_lasts_50 : decode cX12_lasts 50 = .ok (.iinc 3 1, 3) := by decide +kernel
theorem dX12_lasts_53 : decode cX12_lasts 53 = .ok (.goto (-13), 3) := by decide +kernel
theorem dX12_lasts_56 : decode cX12_lasts 56 = .ok (.lconst 0, 1) := by decide +kernel
theorem dX12_lasts_57 : decode cX12_lasts 57 = .ok (.lstore_n 3, 1) := by decide +kernel
theorem dX12_lasts_58 : decode cX12_lasts 58 = .ok (.iconst 0, 1) := by decide +kernel
theorem dX12_lasts_59 : decode cX12_lasts 59 = .ok (.istore 5, 2) := by decide +kernel
theorem dX12_lasts_61 : decode cX12_lasts 61 = .ok (.iload 5, 2) := by decide +kernel
theorem dX12_lasts_63 : decode cX12_lasts 63 = .ok (.bipush 49, 2) := by decide +kernel
theorem dX12_lasts_65 : decode cX12_lasts 65 = .ok (.if_icmp .ge 19, 3) := by decide +kernel
theorem dX12_lasts_68 : decode cX12_lasts 68 = .ok (.lload_n 3, 1) := by decide +kernel
theorem dX12_lasts_69 : decode cX12_lasts 69 = .ok (.aload_n 0, 1) := by decide +kernel
theorem dX12_lasts_70 : decode cX12_lasts 70 = .ok (.getfield 41, 3) := by decide +kernel
theorem dX12_lasts_73 : decode cX12_lasts 73 = .ok (.iload 5, 2) := by decide +kernel
theorem dX12_lasts_75 : decode cX12_lasts 75 = .ok (.laload, 1) := by decide +kernel
theorem dX12_lasts_76 : decode cX12_lasts 76 = .ok (.ladd, 1) := by decide +kernel
theorem dX12_lasts_77 : decode cX12_lasts 77 = .ok (.lstore_n 3, 1) := by decide +kernel
theorem dX12_lasts_78 : decode cX12_lasts 78 = .ok (.iinc 5 1, 3) := by decide +kernel
theorem dX12_lasts_81 : decode cX12_lasts 81 = .ok (.goto (-20), 3) := by decide +kernel
theorem dX12_lasts_84 : decode cX12_lasts 84 = .ok (.lload_n 3, 1) := by decide +kernel
theorem dX12_lasts_85 : decode cX12_lasts 85 = .ok (.aload_n 0, 1) := by decide +kernel
theorem dX12_lasts_86 : decode cX12_lasts 86 = .ok (.aload_n 0, 1) := by decide +kernel
theorem dX12_lasts_87 : decode cX12_lasts 87 = .ok (.getfield 103, 3) := by decide +kernel
theorem dX12_lasts_90 : decode cX12_lasts 90 = .ok (.i2l, 1) := by decide +kernel
theorem dX12_lasts_91 : decode cX12_lasts 91 = .ok (.iload_n 1, 1) := by decide +kernel
theorem dX12_lasts_92 : decode cX12_lasts 92 = .ok (.invokevirtual 252, 3) := by decide +kernel
theorem dX12_lasts_95 : decode cX12_lasts 95 = .ok (.iload_n 2, 1) := by decide +kernel
theorem dX12_lasts_96 : decode cX12_lasts 96 = .ok (.invokestatic 256, 3) := by decide +kernel
theorem dX12_lasts_99 : decode cX12_lasts 99 = .ok (.lreturn, 1) := by decide +kernel
theorem dX12_longestFrom_0 : decode cX12_longestFrom 0 = .ok (.aload_n 0, 1) := by decide +kernel
theorem dX12_longestFrom_1 : decode cX12_longestFrom 1 = .ok (.getfield 48, 3) := by decide +kernel
theorem dX12_longestFrom_4 : decode cX12_longestFrom 4 = .ok (.bipush 49, 2) := by decide +kernel
theorem dX12_longestFrom_6 : decode cX12_longestFrom 6 = .ok (.iload_n 2, 1) := by decide +kernel
theorem dX12_longestFrom_7 : decode cX12_longestFrom 7 = .ok (.imul, 1) := by decide +kernel
theorem dX12_longestFrom_8 : decode cX12_longestFrom 8 = .ok (.iload_n 1, 1) := by decide +kernel
theorem dX12_longestFrom_9 : decode cX12_longestFrom 9 = .ok (.iadd, 1) := by decide +kernel
theorem dX12_longestFrom_10 : decode cX12_longestFrom 10 = .ok (.iaload, 1) := by decide +kernel
theorem dX12_longestFrom_11 : decode cX12_longestFrom 11 = .ok (.ireturn, 1) := by decide +kernel
set_option maxRecDepth 20000 in
theorem ggX12_findStays_X12_then : GoodIn wsX12_findStays wsX12_then := goodIn_r _ [8, 9, 10, 11, 12, 7, 13, 14, 15, 16, 17, 18, 3, 19, 20, 21, 22, 27, 28, 29, 30, 31, 32, 33, 34, 35, 36, 37, 38, 39, 40, 41, 42, 43, 44, 45, 46, 47, 48, 49, 50, 51, 52, 53, 54, 55, 56, 57, 58, 59, 60, 61, 62, 63] rfl (by decide +kernel)
set_option maxRecDepth 20000 in
theorem gX12_findStays_X12_then : GoodIn wsX12_findStays (wsV RX12 233 RX12 yX12_then wsX12_then) := goodIn_app (goodIn_of _ (by decide +kernel)) ggX12_findStays_X12_then
set_option maxRecDepth 20000 in
theorem ggX12_findStays_X12_longestFrom : GoodIn wsX12_findStays wsX12_longestFrom := goodIn_r _ [26, 1, 27, 28, 29, 30, 31, 32, 33, 34, 35, 36, 37, 38, 39, 40, 41, 42, 43, 44, 45, 46, 47, 48, 49, 50, 51, 52, 53, 54, 55, 56, 57, 58, 59, 60, 61, 62, 63] rfl (by decide +kernel)
set_option maxRecDepth 20000 in
theorem gX12_findStays_X12_longestFrom : GoodIn wsX12_findStays (wsV RX12 260 RX12 yX12_longestFrom wsX12_longestFrom) := goodIn_app (goodIn_of _ (by decide +kernel)) ggX12_findStays_X12_longestFrom
theorem dX12_findStays_0 : decode cX12_findStays 0 = .ok (.iconst 0, 1) := by decide +kernel
theorem dX12_findStays_1 : decode cX12_findStays 1 = .ok (.istore_n 2, 1) := by decide +kernel
theorem dX12_findStays_2 : decode cX12_findStays 2 = .ok (.iload_n 2, 1) := by decide +kernel
theorem dX12_findStays_3 : decode cX12_findStays 3 = .ok (.bipush 49, 2) := by decide +kernel
theorem dX12_findStays_5 : decode cX12_findStays 5 = .ok (.if_icmp .ge 16, 3) := by decide +kernel
theorem dX12_findStays_8 : decode cX12_findStays 8 = .ok (.aload_n 0, 1) := by decide +kernel
theorem dX12_findStays_9 : decode cX12_findStays 9 = .ok (.getfield 48, 3) := by decide +kernel
theorem dX12_findStays_12 : decode cX12_findStays 12 = .ok (.iload_n 2, 1) := by decide +kernel
theorem dX12_findStays_13 : decode cX12_findStays 13 = .ok (.iconst 0, 1) := by decide +kernel
theorem dX12_findStays_14 : decode cX12_findStays 14 = .ok (.iastore, 1) := by decide +kernel
theorem dX12_findStays_15 : decode cX12_findStays 15 = .ok (.iinc 2 1, 3) := by decide +kernel
theorem dX12_findStays_18 : decode cX12_findStays 18 = .ok (.goto (-16), 3) := by decide +kernel
theorem dX12_findStays_21 : decode cX12_findStays 21 = .ok (.iconst 1, 1) := by decide +kernel
theorem dX12_findStays_22 : decode cX12_findStays 22 = .ok (.istore_n 2, 1) := by decide +kernel
theorem dX12_findStays_23 : decode cX12_findStays 23 = .ok (.iload_n 2, 1) := by decide +kernel
theorem dX12_findStays_24 : decode cX12_findStays 24 = .ok (.iload_n 1, 1) := by decide +kernel
theorem dX12_findStays_25 : decode cX12_findStays 25 = .ok (.if_icmp .gt 133, 3) := by decide +kernel
theorem dX12_findStays_28 : decode cX12_findStays 28 = .ok (.iconst 0, 1) := by decide +kernel
theorem dX12_findStays_29 : decode cX12_findStays 29 = .ok (.istore_n 3, 1) := by decide +kernel
theorem dX12_findStays_30 : decode cX12_findStays 30 = .ok (.iload_n 3, 1) := by decide +kernel
theorem dX12_findStays_31 : decode cX12_findStays 31 = .ok (.bipush 49, 2) := by decide +kernel
theorem dX12_findStays_33 : decode cX12_findStays 33 = .ok (.if_icmp .ge 119, 3) := by decide +kernel
theorem dX12_findStays_36 : decode cX12_findStays 36 = .ok (.iconst 0, 1) := by decide +kernel
theorem dX12_findStays_37 : decode cX12_findStays 37 = .ok (.istore 4, 2) := by decide +kernel
theorem dX12_findStays_39 : decode cX12_findStays 39 = .ok (.iconst 0, 1) := by decide +kernel
theorem dX12_findStays_40 : decode cX12_findStays 40 = .ok (.istore 5, 2) := by decide +kernel
theorem dX12_findStays_42 : decode cX12_findStays 42 = .ok (.iload 5, 2) := by decide +kernel
theorem dX12_findStays_44 : decode cX12_findStays 44 = .ok (.aload_n 0, 1) := by decide +kernel
theorem dX12_findStays_45 : decode cX12_findStays 45 = .ok (.getfield 103, 3) := by decide +kernel
theorem dX12_findStays_48 : decode cX12_findStays 48 = .ok (.if_icmp .ge 85, 3) := by decide +kernel
theorem dX12_findStays_51 : decode cX12_findStays 51 = .ok (.iload_n 3, 1) := by decide +kernel
theorem dX12_findStays_52 : decode cX12_findStays 52 = .ok (.bipush 7, 2) := by decide +kernel
theorem dX12_findStays_54 : decode cX12_findStays 54 = .ok (.irem, 1) := by decide +kernel
theorem dX12_findStays_55 : decode cX12_findStays 55 = .ok (.aload_n 0, 1) := by decide +kernel
theorem dX12_findStays_56 : decode cX12_findStays 56 = .ok (.getfield 100, 3) := by decide +kernel
theorem dX12_findStays_59 : decode cX12_findStays 59 = .ok (.if_icmp .ge 74, 3) := by decide +kernel
theorem dX12_findStays_62 : decode cX12_findStays 62 = .ok (.iload_n 3, 1) := by decide +kernel
theorem dX12_findStays_63 : decode cX12_findStays 63 = .ok (.bipush 7, 2) := by decide +kernel
theorem dX12_findStays_65 : decode cX12_findStays 65 = .ok (.idiv, 1) := by decide +kernel
theorem dX12_findStays_66 : decode cX12_findStays 66 = .ok (.aload_n 0, 1) := by decide +kernel
theorem dX12_findStays_67 : decode cX12_findStays 67 = .ok (.getfield 100, 3) := by decide +kernel
theorem dX12_findStays_70 : decode cX12_findStays 70 = .ok (.if_icmp .ge 63, 3) := by decide +kernel
theorem dX12_findStays_73 : decode cX12_findStays 73 = .ok (.aload_n 0, 1) := by decide +kernel
theorem dX12_findStays_74 : decode cX12_findStays 74 = .ok (.iload_n 3, 1) := by decide +kernel
theorem dX12_findStays_75 : decode cX12_findStays 75 = .ok (.iload 5, 2) := by decide +kernel
theorem dX12_findStays_77 : decode cX12_findStays 77 = .ok (.invokevirtual 233, 3) := by decide +kernel
theorem dX12_findStays_80 : decode cX12_findStays 80 = .ok (.istore 6, 2) := by decide +kernel
theorem dX12_findStays_82 : decode cX12_findStays 82 = .ok (.iload 6, 2) := by decide +kernel
theorem dX12_findStays_84 : decode cX12_findStays 84 = .ok (.bipush 7, 2) := by decide +kernel
theorem dX12_findStays_86 : decode cX12_findStays 86 = .ok (.irem, 1) := by decide +kernel
theorem dX12_findStays_87 : decode cX12_findStays 87 = .ok (.iload_n 3, 1) := by decide +kernel
theorem dX12_findStays_88 : decode cX12_findStays 88 = .ok (.bipush 7, 2) := by decide +kernel
theorem dX12_findStays_90 : decode cX12_findStays 90 = .ok (.irem, 1) := by decide +kernel
theorem dX12_findStays_91 : decode cX12_findStays 91 = .ok (.if_icmp .ne 17, 3) := by decide +kernel
theorem dX12_findStays_94 : decode cX12_findStays 94 = .ok (.iconst 1, 1) := by decide +kernel
theorem dX12_findStays_95 : decode cX12_findStays 95 = .ok (.aload_n 0, 1) := by decide +kernel
theorem dX12_findStays_96 : decode cX12_findStays 96 = .ok (.iload 6, 2) := by decide +kernel
theorem dX12_findStays_98 : decode cX12_findStays 98 = .ok (.iload_n 2, 1) := by decide +kernel
theorem dX12_findStays_99 : decode cX12_findStays 99 = .ok (.iconst 1, 1) := by decide +kernel
theorem dX12_findStays_100 : decode cX12_findStays 100 = .ok (.isub, 1) := by decide +kernel
theorem dX12_findStays_101 : decode cX12_findStays 101 = .ok (.invokevirtual 260, 3) := by decide +kernel
theorem dX12_findStays_104 : decode cX12_findStays 104 = .ok (.iadd, 1) := by decide +kernel
theorem dX12_findStays_105 : decode cX12_findStays 105 = .ok (.goto 4, 3) := by decide +kernel
theorem dX12_findStays_108 : decode cX12_findStays 108 = .ok (.iconst 0, 1) := by decide +kernel
theorem dX12_findStays_109 : decode cX12_findStays 109 = .ok (.istore 7, 2) := by decide +kernel
theorem dX12_findStays_111 : decode cX12_findStays 111 = .ok (.iload 7, 2) := by decide +kernel
theorem dX12_findStays_113 : decode cX12_findStays 113 = .ok (.iload 4, 2) := by decide +kernel
theorem dX12_findStays_115 : decode cX12_findStays 115 = .ok (.if_icmp .le 8, 3) := by decide +kernel
theorem dX12_findStays_118 : decode cX12_findStays 118 = .ok (.iload 7, 2) := by decide +kernel
theorem dX12_findStays_120 : decode cX12_findStays 120 = .ok (.goto 5, 3) := by decide +kernel
theorem dX12_findStays_123 : decode cX12_findStays 123 = .ok (.iload 4, 2) := by decide +kernel
theorem dX12_findStays_125 : decode cX12_findStays 125 = .ok (.istore 4, 2) := by decide +kernel
theorem dX12_findStays_127 : decode cX12_findStays 127 = .ok (.iinc 5 1, 3) := by decide +kernel
theorem dX12_findStays_130 : decode cX12_findStays 130 = .ok (.goto (-88), 3) := by decide +kernel
theorem dX12_findStays_133 : decode cX12_findStays 133 = .ok (.aload_n 0, 1) := by decide +kernel
theorem dX12_findStays_134 : decode cX12_findStays 134 = .ok (.getfield 48, 3) := by decide +kernel
theorem dX12_findStays_137 : decode cX12_findStays 137 = .ok (.bipush 49, 2) := by decide +kernel
theorem dX12_findStays_139 : decode cX12_findStays 139 = .ok (.iload_n 2, 1) := by decide +kernel
theorem dX12_findStays_140 : decode cX12_findStays 140 = .ok (.imul, 1) := by decide +kernel
theorem dX12_findStays_141 : decode cX12_findStays 141 = .ok (.iload_n 3, 1) := by decide +kernel
theorem dX12_findStays_142 : decode cX12_findStays 142 = .ok (.iadd, 1) := by decide +kernel
theorem dX12_findStays_143 : decode cX12_findStays 143 = .ok (.iload 4, 2) := by decide +kernel
theorem dX12_findStays_145 : decode cX12_findStays 145 = .ok (.iastore, 1) := by decide +kernel
theorem dX12_findStays_146 : decode cX12_findStays 146 = .ok (.iinc 3 1, 3) := by decide +kernel
theorem dX12_findStays_149 : decode cX12_findStays 149 = .ok (.goto (-119), 3) := by decide +kernel
theorem dX12_findStays_152 : decode cX12_findStays 152 = .ok (.iinc 2 1, 3) := by decide +kernel
theorem dX12_findStays_155 : decode cX12_findStays 155 = .ok (.goto (-132), 3) := by decide +kernel
theorem dX12_findStays_158 : decode cX12_findStays 158 = .ok (.return_, 1) := by decide +kernel
theorem dX12_stateNow_0 : decode cX12_stateNow 0 = .ok (.bipush 7, 2) := by decide +kernel
theorem dX12_stateNow_2 : decode cX12_stateNow 2 = .ok (.aload_n 0, 1) := by decide +kernel
theorem dX12_stateNow_3 : decode cX12_stateNow 3 = .ok (.getfield 7, 3) := by decide +kernel
theorem dX12_stateNow_6 : decode cX12_stateNow 6 = .ok (.bipush 7, 2) := by decide +kernel
theorem dX12_stateNow_8 : decode cX12_stateNow 8 = .ok (.iaload, 1) := by decide +kernel
theorem dX12_stateNow_9 : decode cX12_stateNow 9 = .ok (.imul, 1) := by decide +kernel
theorem dX12_stateNow_10 : decode cX12_stateNow 10 = .ok (.aload_n 0, 1) := by decide +kernel
theorem dX12_stateNow_11 : decode cX12_stateNow 11 = .ok (.getfield 7, 3) := by decide +kernel
theorem dX12_stateNow_14 : decode cX12_stateNow 14 = .ok (.bipush 8, 2) := by decide +kernel
theorem dX12_stateNow_16 : decode cX12_stateNow 16 = .ok (.iaload, 1) := by decide +kernel
theorem dX12_stateNow_17 : decode cX12_stateNow 17 = .ok (.iadd, 1) := by decide +kernel
theorem dX12_stateNow_18 : decode cX12_stateNow 18 = .ok (.ireturn, 1) := by decide +kernel
set_option maxRecDepth 20000 in
theorem ggX12_reign_X12_in : GoodIn wsX12_reign wsX12_in := goodIn_r _ [7] rfl (by decide +kernel)
set_option maxRecDepth 20000 in
theorem gX12_reign_X12_in : GoodIn wsX12_reign (va_wsS RX12 115 yX12_in wsX12_in) := goodIn_app (goodIn_of _ (by decide +kernel)) ggX12_reign_X12_in
set_option maxRecDepth 20000 in
theorem ggX12_reign_X12_findStays : GoodIn wsX12_reign wsX12_findStays := goodIn_r _ [11, 12, 3, 13, 14, 15, 16, 6, 17, 18, 19, 20, 21, 22, 23, 24, 25, 26, 27, 28, 29, 30, 31, 32, 33, 34, 35, 40, 41, 42, 43, 44, 45, 46, 47, 48, 49, 50, 51, 52, 53, 54, 55, 56, 57, 58, 59, 60, 61, 62, 63, 64, 65, 66, 67, 68, 69, 70, 71, 72, 73, 74, 75, 76] rfl (by decide +kernel)
set_option maxRecDepth 20000 in
theorem gX12_reign_X12_findStays : GoodIn wsX12_reign (wsV RX12 265 RX12 yX12_findStays wsX12_findStays) := goodIn_app (goodIn_of _ (by decide +kernel)) ggX12_reign_X12_findStays
set_option maxRecDepth 20000 in
theorem ggX12_reign_X12_stateNow : GoodIn wsX12_reign wsX12_stateNow := goodIn_r _ [39, 28, 40, 41, 42, 43, 44, 45, 46, 47, 48, 49, 50, 51, 52, 53, 54, 55, 56, 57, 58, 59, 60, 61, 62, 63, 64, 65, 66, 67, 68, 69, 70, 71, 72, 73, 74, 75, 76] rfl (by decide +kernel)
set_option maxRecDepth 20000 in
theorem gX12_reign_X12_stateNow : GoodIn wsX12_reign (wsV RX12 268 RX12 yX12_stateNow wsX12_stateNow) := goodIn_app (goodIn_of _ (by decide +kernel)) ggX12_reign_X12_stateNow
set_option maxRecDepth 20000 in
theorem ggX12_reign_X12_longestFrom : GoodIn wsX12_reign wsX12_longestFrom := goodIn_r _ [35, 12, 40, 41, 42, 43, 44, 45, 46, 47, 48, 49, 50, 51, 52, 53, 54, 55, 56, 57, 58, 59, 60, 61, 62, 63, 64, 65, 66, 67, 68, 69, 70, 71, 72, 73, 74, 75, 76] rfl (by decide +kernel)
set_option maxRecDepth 20000 in
theorem gX12_reign_X12_longestFrom : GoodIn wsX12_reign (wsV RX12 260 RX12 yX12_longestFrom wsX12_longestFrom) := goodIn_app (goodIn_of _ (by decide +kernel)) ggX12_reign_X12_longestFrom
set_option maxRecDepth 20000 in
theorem ggX12_reign_X12_then : GoodIn wsX12_reign wsX12_then := goodIn_r _ [17, 18, 19, 20, 21, 6, 22, 23, 24, 25, 26, 27, 13, 28, 29, 30, 31, 40, 41, 42, 43, 44, 45, 46, 47, 48, 49, 50, 51, 52, 53, 54, 55, 56, 57, 58, 59, 60, 61, 62, 63, 64, 65, 66, 67, 68, 69, 70, 71, 72, 73, 74, 75, 76] rfl (by decide +kernel)
set_option maxRecDepth 20000 in
theorem gX12_reign_X12_then : GoodIn wsX12_reign (wsV RX12 233 RX12 yX12_then wsX12_then) := goodIn_app (goodIn_of _ (by decide +kernel)) ggX12_reign_X12_then
theorem dX12_reign_0 : decode cX12_reign 0 = .ok (.iload_n 1, 1) := by decide +kernel
theorem dX12_reign_1 : decode cX12_reign 1 = .ok (.i2l, 1) := by decide +kernel
theorem dX12_reign_2 : decode cX12_reign 2 = .ok (.lconst 1, 1) := by decide +kernel
theorem dX12_reign_3 : decode cX12_reign 3 = .ok (.ldc2_w 236, 3) := by decide +kernel
theorem dX12_reign_6 : decode cX12_reign 6 = .ok (.invokestatic 115, 3) := by decide +kernel
theorem dX12_reign_9 : decode cX12_reign 9 = .ok (.ifCond .eq 21, 3) := by decide +kernel
theorem dX12_reign_12 : decode cX12_reign 12 = .ok (.iload_n 2, 1) := by decide +kernel
theorem dX12_reign_13 : decode cX12_reign 13 = .ok (.ifCond .eq 19, 3) := by decide +kernel
theorem dX12_reign_16 : decode cX12_reign 16 = .ok (.iload_n 2, 1) := by decide +kernel
theorem dX12_reign_17 : decode cX12_reign 17 = .ok (.i2l, 1) := by decide +kernel
theorem dX12_reign_18 : decode cX12_reign 18 = .ok (.ldc2_w 236, 3) := by decide +kernel
theorem dX12_reign_21 : decode cX12_reign 21 = .ok (.ldc2_w 263, 3) := by decide +kernel
theorem dX12_reign_24 : decode cX12_reign 24 = .ok (.invokestatic 115, 3) := by decide +kernel
theorem dX12_reign_27 : decode cX12_reign 27 = .ok (.ifCond .ne 5, 3) := by decide +kernel
theorem dX12_reign_30 : decode cX12_reign 30 = .ok (.iconst (-1), 1) := by decide +kernel
theorem dX12_reign_31 : decode cX12_reign 31 = .ok (.ireturn, 1) := by decide +kernel
theorem dX12_reign_32 : decode cX12_reign 32 = .ok (.aload_n 0, 1) := by decide +kernel
theorem dX12_reign_33 : decode cX12_reign 33 = .ok (.getfield 103, 3) := by decide +kernel
theorem dX12_reign_36 : decode cX12_reign 36 = .ok (.ifCond .ne 6, 3) := by decide +kernel
theorem dX12_reign_39 : decode cX12_reign 39 = .ok (.bipush (-2), 2) := by decide +kernel
theorem dX12_reign_41 : decode cX12_reign 41 = .ok (.ireturn, 1) := by decide +kernel
theorem dX12_reign_42 : decode cX12_reign 42 = .ok (.aload_n 0, 1) := by decide +kernel
theorem dX12_reign_43 : decode cX12_reign 43 = .ok (.iload_n 1, 1) := by decide +kernel
theorem dX12_reign_44 : decode cX12_reign 44 = .ok (.invokevirtual 265, 3) := by decide +kernel
theorem dX12_reign_47 : decode cX12_reign 47 = .ok (.aload_n 0, 1) := by decide +kernel
theorem dX12_reign_48 : decode cX12_reign 48 = .ok (.invokevirtual 268, 3) := by decide +kernel
theorem dX12_reign_51 : decode cX12_reign 51 = .ok (.istore_n 3, 1) := by decide +kernel
theorem dX12_reign_52 : decode cX12_reign 52 = .ok (.aload_n 0, 1) := by decide +kernel
theorem dX12_reign_53 : decode cX12_reign 53 = .ok (.iload_n 3, 1) := by decide +kernel
theorem dX12_reign_54 : decode cX12_reign 54 = .ok (.iload_n 1, 1) := by decide +kernel
theorem dX12_reign_55 : decode cX12_reign 55 = .ok (.invokevirtual 260, 3) := by decide +kernel
theorem dX12_reign_58 : decode cX12_reign 58 = .ok (.istore 4, 2) := by decide +kernel
theorem dX12_reign_60 : decode cX12_reign 60 = .ok (.iload_n 2, 1) := by decide +kernel
theorem dX12_reign_61 : decode cX12_reign 61 = .ok (.ifCond .ne 6, 3) := by decide +kernel
theorem dX12_reign_64 : decode cX12_reign 64 = .ok (.iload 4, 2) := by decide +kernel
theorem dX12_reign_66 : decode cX12_reign 66 = .ok (.ireturn, 1) := by decide +kernel
theorem dX12_reign_67 : decode cX12_reign 67 = .ok (.iload_n 2, 1) := by decide +kernel
theorem dX12_reign_68 : decode cX12_reign 68 = .ok (.bipush 10, 2) := by decide +kernel
theorem dX12_reign_70 : decode cX12_reign 70 = .ok (.isub, 1) := by decide +kernel
theorem dX12_reign_71 : decode cX12_reign 71 = .ok (.iload 4, 2) := by decide +kernel
theorem dX12_reign_73 : decode cX12_reign 73 = .ok (.if_icmp .lt 6, 3) := by decide +kernel
theorem dX12_reign_76 : decode cX12_reign 76 = .ok (.bipush (-4), 2) := by decide +kernel
theorem dX12_reign_78 : decode cX12_reign 78 = .ok (.ireturn, 1) := by decide +kernel
theorem dX12_reign_79 : decode cX12_reign 79 = .ok (.bipush (-4), 2) := by decide +kernel
theorem dX12_reign_81 : decode cX12_reign 81 = .ok (.istore 5, 2) := by decide +kernel
theorem dX12_reign_83 : decode cX12_reign 83 = .ok (.iconst 0, 1) := by decide +kernel
theorem dX12_reign_84 : decode cX12_reign 84 = .ok (.istore 6, 2) := by decide +kernel
theorem dX12_reign_86 : decode cX12_reign 86 = .ok (.iload 6, 2) := by decide +kernel
theorem dX12_reign_88 : decode cX12_reign 88 = .ok (.iload_n 2, 1) := by decide +kernel
theorem dX12_reign_89 : decode cX12_reign 89 = .ok (.bipush 10, 2) := by decide +kernel
theorem dX12_reign_91 : decode cX12_reign 91 = .ok (.isub, 1) := by decide +kernel
theorem dX12_reign_92 : decode cX12_reign 92 = .ok (.if_icmp .gt 105, 3) := by decide +kernel
theorem dX12_reign_95 : decode cX12_reign 95 = .ok (.bipush (-4), 2) := by decide +kernel
theorem dX12_reign_97 : decode cX12_reign 97 = .ok (.istore 5, 2) := by decide +kernel
theorem dX12_reign_99 : decode cX12_reign 99 = .ok (.aload_n 0, 1) := by decide +kernel
theorem dX12_reign_100 : decode cX12_reign 100 = .ok (.getfield 103, 3) := by decide +kernel
theorem dX12_reign_103 : decode cX12_reign 103 = .ok (.iconst 1, 1) := by decide +kernel
theorem dX12_reign_104 : decode cX12_reign 104 = .ok (.isub, 1) := by decide +kernel
theorem dX12_reign_105 : decode cX12_reign 105 = .ok (.istore 7, 2) := by decide +kernel
theorem dX12_reign_107 : decode cX12_reign 107 = .ok (.iload 7, 2) := by decide +kernel
theorem dX12_reign_109 : decode cX12_reign 109 = .ok (.ifCond .lt 74, 3) := by decide +kernel
theorem dX12_reign_112 : decode cX12_reign 112 = .ok (.aload_n 0, 1) := by decide +kernel
theorem dX12_reign_113 : decode cX12_reign 113 = .ok (.iload_n 3, 1) := by decide +kernel
theorem dX12_reign_114 : decode cX12_reign 114 = .ok (.iload 7, 2) := by decide +kernel
theorem dX12_reign_116 : decode cX12_reign 116 = .ok (.invokevirtual 233, 3) := by decide +kernel
theorem dX12_reign_119 : decode cX12_reign 119 = .ok (.istore 8, 2) := by decide +kernel
theorem dX12_reign_121 : decode cX12_reign 121 = .ok (.iload 8, 2) := by decide +kernel
theorem dX12_reign_123 : decode cX12_reign 123 = .ok (.bipush 7, 2) := by decide +kernel
theorem dX12_reign_125 : decode cX12_reign 125 = .ok (.irem, 1) := by decide +kernel
theorem dX12_reign_126 : decode cX12_reign 126 = .ok (.iload_n 3, 1) := by decide +kernel
theorem dX12_reign_127 : decode cX12_reign 127 = .ok (.bipush 7, 2) := by decide +kernel
theorem dX12_reign_129 : decode cX12_reign 129 = .ok (.irem, 1) := by decide +kernel
theorem dX12_reign_130 : decode cX12_reign 130 = .ok (.if_icmp .ne 30, 3) := by decide +kernel
theorem dX12_reign_133 : decode cX12_reign 133 = .ok (.aload_n 0, 1) := by decide +kernel
theorem dX12_reign_134 : decode cX12_reign 134 = .ok (.iload 8, 2) := by decide +kernel
theorem dX12_reign_136 : decode cX12_reign 136 = .ok (.iload 4, 2) := by decide +kernel
theorem dX12_reign_138 : decode cX12_reign 138 = .ok (.iload 6, 2) := by decide +kernel
theorem dX12_reign_140 : decode cX12_reign 140 = .ok (.isub, 1) := by decide +kernel
theorem dX12_reign_141 : decode cX12_reign 141 = .ok (.iconst 1, 1) := by decide +kernel
theorem dX12_reign_142 : decode cX12_reign 142 = .ok (.isub, 1) := by decide +kernel
theorem dX12_reign_143 : decode cX12_reign 143 = .ok (.invokevirtual 260, 3) := by decide +kernel
theorem dX12_reign_146 : decode cX12_reign 146 = .ok (.iload 4, 2) := by decide +kernel
theorem dX12_reign_148 : decode cX12_reign 148 = .ok (.iload 6, 2) := by decide +kernel
theorem dX12_reign_150 : decode cX12_reign 150 = .ok (.isub, 1) := by decide +kernel
theorem dX12_reign_151 : decode cX12_reign 151 = .ok (.iconst 1, 1) := by decide +kernel
theorem dX12_reign_152 : decode cX12_reign 152 = .ok (.isub, 1) := by decide +kernel
theorem dX12_reign_153 : decode cX12_reign 153 = .ok (.if_icmp .ne 7, 3) := by decide +kernel
theorem dX12_reign_156 : decode cX12_reign 156 = .ok (.iconst 1, 1) := by decide +kernel
theorem dX12_reign_157 : decode cX12_reign 157 = .ok (.goto 4, 3) := by decide +kernel
theorem dX12_reign_160 : decode cX12_reign 160 = .ok (.iconst 0, 1) := by decide +kernel
theorem dX12_reign_161 : decode cX12_reign 161 = .ok (.istore 9, 2) := by decide +kernel
theorem dX12_reign_163 : decode cX12_reign 163 = .ok (.iload 9, 2) := by decide +kernel
theorem dX12_reign_165 : decode cX12_reign 165 = .ok (.ifCond .eq 8, 3) := by decide +kernel
theorem dX12_reign_168 : decode cX12_reign 168 = .ok (.iload 7, 2) := by decide +kernel
theorem dX12_reign_170 : decode cX12_reign 170 = .ok (.goto 5, 3) := by decide +kernel
theorem dX12_reign_173 : decode cX12_reign 173 = .ok (.iload 5, 2) := by decide +kernel
theorem dX12_reign_175 : decode cX12_reign 175 = .ok (.istore 5, 2) := by decide +kernel
theorem dX12_reign_177 : decode cX12_reign 177 = .ok (.iinc 7 (-1), 3) := by decide +kernel
theorem dX12_reign_180 : decode cX12_reign 180 = .ok (.goto (-73), 3) := by decide +kernel
theorem dX12_reign_183 : decode cX12_reign 183 = .ok (.aload_n 0, 1) := by decide +kernel
theorem dX12_reign_184 : decode cX12_reign 184 = .ok (.iload_n 3, 1) := by decide +kernel
theorem dX12_reign_185 : decode cX12_reign 185 = .ok (.iload 5, 2) := by decide +kernel
theorem dX12_reign_187 : decode cX12_reign 187 = .ok (.invokevirtual 233, 3) := by decide +kernel
theorem dX12_reign_190 : decode cX12_reign 190 = .ok (.istore_n 3, 1) := by decide +kernel
theorem dX12_reign_191 : decode cX12_reign 191 = .ok (.iinc 6 1, 3) := by decide +kernel
theorem dX12_reign_194 : decode cX12_reign 194 = .ok (.goto (-108), 3) := by decide +kernel
theorem dX12_reign_197 : decode cX12_reign 197 = .ok (.iload 5, 2) := by decide +kernel
theorem dX12_reign_199 : decode cX12_reign 199 = .ok (.ireturn, 1) := by decide +kernel
set_option maxRecDepth 20000 in
theorem ggX12_findFewest_X12_then : GoodIn wsX12_findFewest wsX12_then := goodIn_r _ [9, 10, 11, 12, 13, 8, 14, 15, 16, 17, 18, 19, 4, 20, 21, 22, 23, 24, 25, 26, 27, 28, 29, 30, 31, 32, 33, 34, 35, 36, 37, 38, 39, 40, 41, 42, 43, 44, 45, 46, 47, 48, 49, 50, 51, 52, 53, 54, 55, 56, 57, 58, 59, 60] rfl (by decide +kernel)
set_option maxRecDepth 20000 in
theorem gX12_findFewest_X12_then : GoodIn wsX12_findFewest (wsV RX12 233 RX12 yX12_then wsX12_then) := goodIn_app (goodIn_of _ (by decide +kernel)) ggX12_findFewest_X12_then
theorem dX12_findFewest_0 : decode cX12_findFewest 0 = .ok (.iconst 0, 1) := by decide +kernel
theorem dX12_findFewest_1 : decode cX12_findFewest 1 = .ok (.istore_n 2, 1) := by decide +kernel
theorem dX12_findFewest_2 : decode cX12_findFewest 2 = .ok (.iload_n 2, 1) := by decide +kernel
theorem dX12_findFewest_3 : decode cX12_findFewest 3 = .ok (.bipush 49, 2) := by decide +kernel
theorem dX12_findFewest_5 : decode cX12_findFewest 5 = .ok (.if_icmp .ge 30, 3) := by decide +kernel
theorem dX12_findFewest_8 : decode cX12_findFewest 8 = .ok (.aload_n 0, 1) := by decide +kernel
theorem dX12_findFewest_9 : decode cX12_findFewest 9 = .ok (.getfield 51, 3) := by decide +kernel
theorem dX12_findFewest_12 : decode cX12_findFewest 12 = .ok (.iload_n 2, 1) := by decide +kernel
theorem dX12_findFewest_13 : decode cX12_findFewest 13 = .ok (.iload_n 2, 1) := by decide +kernel
theorem dX12_findFewest_14 : decode cX12_findFewest 14 = .ok (.bipush 7, 2) := by decide +kernel
theorem dX12_findFewest_16 : decode cX12_findFewest 16 = .ok (.irem, 1) := by decide +kernel
theorem dX12_findFewest_17 : decode cX12_findFewest 17 = .ok (.iload_n 1, 1) := by decide +kernel
theorem dX12_findFewest_18 : decode cX12_findFewest 18 = .ok (.if_icmp .ne 7, 3) := by decide +kernel
theorem dX12_findFewest_21 : decode cX12_findFewest 21 = .ok (.iconst 0, 1) := by decide +kernel
theorem dX12_findFewest_22 : decode cX12_findFewest 22 = .ok (.goto 6, 3) := by decide +kernel
theorem dX12_findFewest_25 : decode cX12_findFewest 25 = .ok (.ldc_w 271, 3) := by decide +kernel
theorem dX12_findFewest_28 : decode cX12_findFewest 28 = .ok (.iastore, 1) := by decide +kernel
theorem dX12_findFewest_29 : decode cX12_findFewest 29 = .ok (.iinc 2 1, 3) := by decide +kernel
theorem dX12_findFewest_32 : decode cX12_findFewest 32 = .ok (.goto (-30), 3) := by decide +kernel
theorem dX12_findFewest_35 : decode cX12_findFewest 35 = .ok (.iconst 0, 1) := by decide +kernel
theorem dX12_findFewest_36 : decode cX12_findFewest 36 = .ok (.istore_n 2, 1) := by decide +kernel
theorem dX12_findFewest_37 : decode cX12_findFewest 37 = .ok (.iload_n 2, 1) := by decide +kernel
theorem dX12_findFewest_38 : decode cX12_findFewest 38 = .ok (.bipush 49, 2) := by decide +kernel
theorem dX12_findFewest_40 : decode cX12_findFewest 40 = .ok (.if_icmp .ge 107, 3) := by decide +kernel
theorem dX12_findFewest_43 : decode cX12_findFewest 43 = .ok (.iconst 0, 1) := by decide +kernel
theorem dX12_findFewest_44 : decode cX12_findFewest 44 = .ok (.istore_n 3, 1) := by decide +kernel
theorem dX12_findFewest_45 : decode cX12_findFewest 45 = .ok (.iload_n 3, 1) := by decide +kernel
theorem dX12_findFewest_46 : decode cX12_findFewest 46 = .ok (.bipush 49, 2) := by decide +kernel
theorem dX12_findFewest_48 : decode cX12_findFewest 48 = .ok (.if_icmp .ge 93, 3) := by decide +kernel
theorem dX12_findFewest_51 : decode cX12_findFewest 51 = .ok (.iconst 0, 1) := by decide +kernel
theorem dX12_findFewest_52 : decode cX12_findFewest 52 = .ok (.istore 4, 2) := by decide +kernel
theorem dX12_findFewest_54 : decode cX12_findFewest 54 = .ok (.iload 4, 2) := by decide +kernel
theorem dX12_findFewest_56 : decode cX12_findFewest 56 = .ok (.aload_n 0, 1) := by decide +kernel
theorem dX12_findFewest_57 : decode cX12_findFewest 57 = .ok (.getfield 103, 3) := by decide +kernel
theorem dX12_findFewest_60 : decode cX12_findFewest 60 = .ok (.if_icmp .ge 75, 3) := by decide +kernel
theorem dX12_findFewest_63 : decode cX12_findFewest 63 = .ok (.iload_n 3, 1) := by decide +kernel
theorem dX12_findFewest_64 : decode cX12_findFewest 64 = .ok (.bipush 7, 2) := by decide +kernel
theorem dX12_findFewest_66 : decode cX12_findFewest 66 = .ok (.irem, 1) := by decide +kernel
theorem dX12_findFewest_67 : decode cX12_findFewest 67 = .ok (.aload_n 0, 1) := by decide +kernel
theorem dX12_findFewest_68 : decode cX12_findFewest 68 = .ok (.getfield 100, 3) := by decide +kernel
theorem dX12_findFewest_71 : decode cX12_findFewest 71 = .ok (.if_icmp .ge 64, 3) := by decide +kernel
theorem dX12_findFewest_74 : decode cX12_findFewest 74 = .ok (.iload_n 3, 1) := by decide +kernel
theorem dX12_findFewest_75 : decode cX12_findFewest 75 = .ok (.bipush 7, 2) := by decide +kernel
theorem dX12_findFewest_77 : decode cX12_findFewest 77 = .ok (.idiv, 1) := by decide +kernel
theorem dX12_findFewest_78 : decode cX12_findFewest 78 = .ok (.aload_n 0, 1) := by decide +kernel
theorem dX12_findFewest_79 : decode cX12_findFewest 79 = .ok (.getfield 100, 3) := by decide +kernel
theorem dX12_findFewest_82 : decode cX12_findFewest 82 = .ok (.if_icmp .ge 53, 3) := by decide +kernel
theorem dX12_findFewest_85 : decode cX12_findFewest 85 = .ok (.aload_n 0, 1) := by decide +kernel
theorem dX12_findFewest_86 : decode cX12_findFewest 86 = .ok (.getfield 51, 3) := by decide +kernel
theorem dX12_findFewest_89 : decode cX12_findFewest 89 = .ok (.aload_n 0, 1) := by decide +kernel
theorem dX12_findFewest_90 : decode cX12_findFewest 90 = .ok (.iload_n 3, 1) := by decide +kernel
theorem dX12_findFewest_91 : decode cX12_findFewest 91 = .ok (.iload 4, 2) := by decide +kernel
theorem dX12_findFewest_93 : decode cX12_findFewest 93 = .ok (.invokevirtual 233, 3) := by decide +kernel
theorem dX12_findFewest_96 : decode cX12_findFewest 96 = .ok (.iaload, 1) := by decide +kernel
theorem dX12_findFewest_97 : decode cX12_findFewest 97 = .ok (.iconst 1, 1) := by decide +kernel
theorem dX12_findFewest_98 : decode cX12_findFewest 98 = .ok (.iadd, 1) := by decide +kernel
theorem dX12_findFewest_99 : decode cX12_findFewest 99 = .ok (.istore 5, 2) := by decide +kernel
theorem dX12_findFewest_101 : decode cX12_findFewest 101 = .ok (.aload_n 0, 1) := by decide +kernel
theorem dX12_findFewest_102 : decode cX12_findFewest 102 = .ok (.getfield 51, 3) := by decide +kernel
theorem dX12_findFewest_105 : decode cX12_findFewest 105 = .ok (.iload_n 3, 1) := by decide +kernel
theorem dX12_findFewest_106 : decode cX12_findFewest 106 = .ok (.iload 5, 2) := by decide +kernel
theorem dX12_findFewest_108 : decode cX12_findFewest 108 = .ok (.aload_n 0, 1) := by decide +kernel
theorem dX12_findFewest_109 : decode cX12_findFewest 109 = .ok (.getfield 51, 3) := by decide +kernel
theorem dX12_findFewest_112 : decode cX12_findFewest 112 = .ok (.iload_n 3, 1) := by decide +kernel
theorem dX12_findFewest_113 : decode cX12_findFewest 113 = .ok (.iaload, 1) := by decide +kernel
theorem dX12_findFewest_114 : decode cX12_findFewest 114 = .ok (.if_icmp .ge 8, 3) := by decide +kernel
theorem dX12_findFewest_117 : decode cX12_findFewest 117 = .ok (.iload 5, 2) := by decide +kernel
theorem dX12_findFewest_119 : decode cX12_findFewest 119 = .ok (.goto 9, 3) := by decide +kernel
theorem dX12_findFewest_122 : decode cX12_findFewest 122 = .ok (.aload_n 0, 1) := by decide +kernel
theorem dX12_findFewest_123 : decode cX12_findFewest 123 = .ok (.getfield 51, 3) := by decide +kernel
theorem dX12_findFewest_126 : decode cX12_findFewest 126 = .ok (.iload_n 3, 1) := by decide +kernel
theorem dX12_findFewest_127 : decode cX12_findFewest 127 = .ok (.iaload, 1) := by decide +kernel
theorem dX12_findFewest_128 : decode cX12_findFewest 128 = .ok (.iastore, 1) := by decide +kernel
theorem dX12_findFewest_129 : decode cX12_findFewest 129 = .ok (.iinc 4 1, 3) := by decide +kernel
theorem dX12_findFewest_132 : decode cX12_findFewest 132 = .ok (.goto (-78), 3) := by decide +kernel
theorem dX12_findFewest_135 : decode cX12_findFewest 135 = .ok (.iinc 3 1, 3) := by decide +kernel
theorem dX12_findFewest_138 : decode cX12_findFewest 138 = .ok (.goto (-93), 3) := by decide +kernel
theorem dX12_findFewest_141 : decode cX12_findFewest 141 = .ok (.iinc 2 1, 3) := by decide +kernel
theorem dX12_findFewest_144 : decode cX12_findFewest 144 = .ok (.goto (-107), 3) := by decide +kernel
theorem dX12_findFewest_147 : decode cX12_findFewest 147 = .ok (.return_, 1) := by decide +kernel
set_option maxRecDepth 20000 in
theorem ggX12_raise_X12_isSeat : GoodIn wsX12_raise wsX12_isSeat := goodIn_r _ [9, 10, 11, 12, 8, 13, 41, 42, 43, 44, 45, 46, 47, 48, 49, 50, 51, 52, 53, 54, 55, 56, 57, 58, 59, 60, 61, 62, 63, 64, 65, 66, 67, 68, 69, 70, 71, 72, 73, 74, 75, 76, 77] rfl (by decide +kernel)
set_option maxRecDepth 20000 in
theorem gX12_raise_X12_isSeat : GoodIn wsX12_raise (wsV RX12 203 RX12 yX12_isSeat wsX12_isSeat) := goodIn_app (goodIn_of _ (by decide +kernel)) ggX12_raise_X12_isSeat
set_option maxRecDepth 20000 in
theorem ggX12_raise_X12_in : GoodIn wsX12_raise wsX12_in := goodIn_r _ [13] rfl (by decide +kernel)
set_option maxRecDepth 20000 in
theorem gX12_raise_X12_in : GoodIn wsX12_raise (va_wsS RX12 115 yX12_in wsX12_in) := goodIn_app (goodIn_of _ (by decide +kernel)) ggX12_raise_X12_in
set_option maxRecDepth 20000 in
theorem ggX12_raise_X12_findFewest : GoodIn wsX12_raise wsX12_findFewest := goodIn_r _ [17, 4, 18, 3, 10, 19, 20, 21, 8, 22, 23, 24, 25, 26, 27, 28, 29, 30, 31, 32, 33, 34, 35, 36, 41, 42, 43, 44, 45, 46, 47, 48, 49, 50, 51, 52, 53, 54, 55, 56, 57, 58, 59, 60, 61, 62, 63, 64, 65, 66, 67, 68, 69, 70, 71, 72, 73, 74, 75, 76, 77] rfl (by decide +kernel)
set_option maxRecDepth 20000 in
theorem gX12_raise_X12_findFewest : GoodIn wsX12_raise (wsV RX12 272 RX12 yX12_findFewest wsX12_findFewest) := goodIn_app (goodIn_of _ (by decide +kernel)) ggX12_raise_X12_findFewest
set_option maxRecDepth 20000 in
theorem ggX12_raise_X12_stateNow : GoodIn wsX12_raise wsX12_stateNow := goodIn_r _ [40, 33, 41, 42, 43, 44, 45, 46, 47, 48, 49, 50, 51, 52, 53, 54, 55, 56, 57, 58, 59, 60, 61, 62, 63, 64, 65, 66, 67, 68, 69, 70, 71, 72, 73, 74, 75, 76, 77] rfl (by decide +kernel)
set_option maxRecDepth 20000 in
theorem gX12_raise_X12_stateNow : GoodIn wsX12_raise (wsV RX12 268 RX12 yX12_stateNow wsX12_stateNow) := goodIn_app (goodIn_of _ (by decide +kernel)) ggX12_raise_X12_stateNow
set_option maxRecDepth 20000 in
theorem ggX12_raise_X12_then : GoodIn wsX12_raise wsX12_then := goodIn_r _ [22, 23, 24, 25, 26, 8, 27, 28, 29, 30, 31, 32, 10, 33, 34, 35, 36, 41, 42, 43, 44, 45, 46, 47, 48, 49, 50, 51, 52, 53, 54, 55, 56, 57, 58, 59, 60, 61, 62, 63, 64, 65, 66, 67, 68, 69, 70, 71, 72, 73, 74, 75, 76, 77] rfl (by decide +kernel)
set_option maxRecDepth 20000 in
theorem gX12_raise_X12_then : GoodIn wsX12_raise (wsV RX12 233 RX12 yX12_then wsX12_then) := goodIn_app (goodIn_of _ (by decide +kernel)) ggX12_raise_X12_then
theorem dX12_raise_0 : decode cX12_raise 0 = .ok (.aload_n 0, 1) := by decide +kernel
theorem dX12_raise_1 : decode cX12_raise 1 = .ok (.iload_n 1, 1) := by decide +kernel
theorem dX12_raise_2 : decode cX12_raise 2 = .ok (.invokevirtual 203, 3) := by decide +kernel
theorem dX12_raise_5 : decode cX12_raise 5 = .ok (.ifCond .eq 21, 3) := by decide +kernel
theorem dX12_raise_8 : decode cX12_raise 8 = .ok (.iload_n 2, 1) := by decide +kernel
theorem dX12_raise_9 : decode cX12_raise 9 = .ok (.ifCond .eq 19, 3) := by decide +kernel
theorem dX12_raise_12 : decode cX12_raise 12 = .ok (.iload_n 2, 1) := by decide +kernel
theorem dX12_raise_13 : decode cX12_raise 13 = .ok (.i2l, 1) := by decide +kernel
theorem dX12_raise_14 : decode cX12_raise 14 = .ok (.ldc2_w 236, 3) := by decide +kernel
theorem dX12_raise_17 : decode cX12_raise 17 = .ok (.ldc2_w 263, 3) := by decide +kernel
theorem dX12_raise_20 : decode cX12_raise 20 = .ok (.invokestatic 115, 3) := by decide +kernel
theorem dX12_raise_23 : decode cX12_raise 23 = .ok (.ifCond .ne 5, 3) := by decide +kernel
theorem dX12_raise_26 : decode cX12_raise 26 = .ok (.iconst (-1), 1) := by decide +kernel
theorem dX12_raise_27 : decode cX12_raise 27 = .ok (.ireturn, 1) := by decide +kernel
theorem dX12_raise_28 : decode cX12_raise 28 = .ok (.aload_n 0, 1) := by decide +kernel
theorem dX12_raise_29 : decode cX12_raise 29 = .ok (.getfield 103, 3) := by decide +kernel
theorem dX12_raise_32 : decode cX12_raise 32 = .ok (.ifCond .ne 6, 3) := by decide +kernel
theorem dX12_raise_35 : decode cX12_raise 35 = .ok (.bipush (-2), 2) := by decide +kernel
theorem dX12_raise_37 : decode cX12_raise 37 = .ok (.ireturn, 1) := by decide +kernel
theorem dX12_raise_38 : decode cX12_raise 38 = .ok (.aload_n 0, 1) := by decide +kernel
theorem dX12_raise_39 : decode cX12_raise 39 = .ok (.iload_n 1, 1) := by decide +kernel
theorem dX12_raise_40 : decode cX12_raise 40 = .ok (.invokevirtual 272, 3) := by decide +kernel
theorem dX12_raise_43 : decode cX12_raise 43 = .ok (.aload_n 0, 1) := by decide +kernel
theorem dX12_raise_44 : decode cX12_raise 44 = .ok (.invokevirtual 268, 3) := by decide +kernel
theorem dX12_raise_47 : decode cX12_raise 47 = .ok (.istore_n 3, 1) := by decide +kernel
theorem dX12_raise_48 : decode cX12_raise 48 = .ok (.aload_n 0, 1) := by decide +kernel
theorem dX12_raise_49 : decode cX12_raise 49 = .ok (.getfield 51, 3) := by decide +kernel
theorem dX12_raise_52 : decode cX12_raise 52 = .ok (.iload_n 3, 1) := by decide +kernel
theorem dX12_raise_53 : decode cX12_raise 53 = .ok (.iaload, 1) := by decide +kernel
theorem dX12_raise_54 : decode cX12_raise 54 = .ok (.istore 4, 2) := by decide +kernel
theorem dX12_raise_56 : decode cX12_raise 56 = .ok (.iload 4, 2) := by decide +kernel
theorem dX12_raise_58 : decode cX12_raise 58 = .ok (.bipush 10, 2) := by decide +kernel
theorem dX12_raise_60 : decode cX12_raise 60 = .ok (.if_icmp .le 6, 3) := by decide +kernel
theorem dX12_raise_63 : decode cX12_raise 63 = .ok (.bipush (-4), 2) := by decide +kernel
theorem dX12_raise_65 : decode cX12_raise 65 = .ok (.ireturn, 1) := by decide +kernel
theorem dX12_raise_66 : decode cX12_raise 66 = .ok (.iload_n 2, 1) := by decide +kernel
theorem dX12_raise_67 : decode cX12_raise 67 = .ok (.ifCond .ne 6, 3) := by decide +kernel
theorem dX12_raise_70 : decode cX12_raise 70 = .ok (.iload 4, 2) := by decide +kernel
theorem dX12_raise_72 : decode cX12_raise 72 = .ok (.ireturn, 1) := by decide +kernel
theorem dX12_raise_73 : decode cX12_raise 73 = .ok (.iload_n 2, 1) := by decide +kernel
theorem dX12_raise_74 : decode cX12_raise 74 = .ok (.bipush 10, 2) := by decide +kernel
theorem dX12_raise_76 : decode cX12_raise 76 = .ok (.isub, 1) := by decide +kernel
theorem dX12_raise_77 : decode cX12_raise 77 = .ok (.iload 4, 2) := by decide +kernel
theorem dX12_raise_79 : decode cX12_raise 79 = .ok (.if_icmp .lt 6, 3) := by decide +kernel
theorem dX12_raise_82 : decode cX12_raise 82 = .ok (.bipush (-4), 2) := by decide +kernel
theorem dX12_raise_84 : decode cX12_raise 84 = .ok (.ireturn, 1) := by decide +kernel
theorem dX12_raise_85 : decode cX12_raise 85 = .ok (.bipush (-4), 2) := by decide +kernel
theorem dX12_raise_87 : decode cX12_raise 87 = .ok (.istore 5, 2) := by decide +kernel
theorem dX12_raise_89 : decode cX12_raise 89 = .ok (.iconst 0, 1) := by decide +kernel
theorem dX12_raise_90 : decode cX12_raise 90 = .ok (.istore 6, 2) := by decide +kernel
theorem dX12_raise_92 : decode cX12_raise 92 = .ok (.iload 6, 2) := by decide +kernel
theorem dX12_raise_94 : decode cX12_raise 94 = .ok (.iload_n 2, 1) := by decide +kernel
theorem dX12_raise_95 : decode cX12_raise 95 = .ok (.bipush 10, 2) := by decide +kernel
theorem dX12_raise_97 : decode cX12_raise 97 = .ok (.isub, 1) := by decide +kernel
theorem dX12_raise_98 : decode cX12_raise 98 = .ok (.if_icmp .gt 72, 3) := by decide +kernel
theorem dX12_raise_101 : decode cX12_raise 101 = .ok (.bipush (-4), 2) := by decide +kernel
theorem dX12_raise_103 : decode cX12_raise 103 = .ok (.istore 5, 2) := by decide +kernel
theorem dX12_raise_105 : decode cX12_raise 105 = .ok (.aload_n 0, 1) := by decide +kernel
theorem dX12_raise_106 : decode cX12_raise 106 = .ok (.getfield 103, 3) := by decide +kernel
theorem dX12_raise_109 : decode cX12_raise 109 = .ok (.iconst 1, 1) := by decide +kernel
theorem dX12_raise_110 : decode cX12_raise 110 = .ok (.isub, 1) := by decide +kernel
theorem dX12_raise_111 : decode cX12_raise 111 = .ok (.istore 7, 2) := by decide +kernel
theorem dX12_raise_113 : decode cX12_raise 113 = .ok (.iload 7, 2) := by decide +kernel
theorem dX12_raise_115 : decode cX12_raise 115 = .ok (.ifCond .lt 41, 3) := by decide +kernel
theorem dX12_raise_118 : decode cX12_raise 118 = .ok (.aload_n 0, 1) := by decide +kernel
theorem dX12_raise_119 : decode cX12_raise 119 = .ok (.getfield 51, 3) := by decide +kernel
theorem dX12_raise_122 : decode cX12_raise 122 = .ok (.aload_n 0, 1) := by decide +kernel
theorem dX12_raise_123 : decode cX12_raise 123 = .ok (.iload_n 3, 1) := by decide +kernel
theorem dX12_raise_124 : decode cX12_raise 124 = .ok (.iload 7, 2) := by decide +kernel
theorem dX12_raise_126 : decode cX12_raise 126 = .ok (.invokevirtual 233, 3) := by decide +kernel
theorem dX12_raise_129 : decode cX12_raise 129 = .ok (.iaload, 1) := by decide +kernel
theorem dX12_raise_130 : decode cX12_raise 130 = .ok (.iconst 1, 1) := by decide +kernel
theorem dX12_raise_131 : decode cX12_raise 131 = .ok (.iadd, 1) := by decide +kernel
theorem dX12_raise_132 : decode cX12_raise 132 = .ok (.aload_n 0, 1) := by decide +kernel
theorem dX12_raise_133 : decode cX12_raise 133 = .ok (.getfield 51, 3) := by decide +kernel
theorem dX12_raise_136 : decode cX12_raise 136 = .ok (.iload_n 3, 1) := by decide +kernel
theorem dX12_raise_137 : decode cX12_raise 137 = .ok (.iaload, 1) := by decide +kernel
theorem dX12_raise_138 : decode cX12_raise 138 = .ok (.if_icmp .ne 8, 3) := by decide +kernel
theorem dX12_raise_141 : decode cX12_raise 141 = .ok (.iload 7, 2) := by decide +kernel
theorem dX12_raise_143 : decode cX12_raise 143 = .ok (.goto 5, 3) := by decide +kernel
theorem dX12_raise_146 : decode cX12_raise 146 = .ok (.iload 5, 2) := by decide +kernel
theorem dX12_raise_148 : decode cX12_raise 148 = .ok (.istore 5, 2) := by decide +kernel
theorem dX12_raise_150 : decode cX12_raise 150 = .ok (.iinc 7 (-1), 3) := by decide +kernel
theorem dX12_raise_153 : decode cX12_raise 153 = .ok (.goto (-40), 3) := by decide +kernel
theorem dX12_raise_156 : decode cX12_raise 156 = .ok (.aload_n 0, 1) := by decide +kernel
theorem dX12_raise_157 : decode cX12_raise 157 = .ok (.iload_n 3, 1) := by decide +kernel
theorem dX12_raise_158 : decode cX12_raise 158 = .ok (.iload 5, 2) := by decide +kernel
theorem dX12_raise_160 : decode cX12_raise 160 = .ok (.invokevirtual 233, 3) := by decide +kernel
theorem dX12_raise_163 : decode cX12_raise 163 = .ok (.istore_n 3, 1) := by decide +kernel
theorem dX12_raise_164 : decode cX12_raise 164 = .ok (.iinc 6 1, 3) := by decide +kernel
theorem dX12_raise_167 : decode cX12_raise 167 = .ok (.goto (-75), 3) := by decide +kernel
theorem dX12_raise_170 : decode cX12_raise 170 = .ok (.iload 5, 2) := by decide +kernel
theorem dX12_raise_172 : decode cX12_raise 172 = .ok (.ireturn, 1) := by decide +kernel
set_option maxRecDepth 20000 in
theorem ggX12_findBowls_X12_findPlaces : GoodIn wsX12_findBowls wsX12_findPlaces := goodIn_r _ [9, 1, 3, 4, 10, 11, 8, 12, 18, 19, 20, 21, 22, 23, 24, 25, 26, 27, 28, 29, 30, 31, 32, 33, 34, 35, 36, 37, 38, 39, 40, 41, 42, 43, 44, 45, 46, 47, 48, 49, 50, 51, 52, 53, 54] rfl (by decide +kernel)
set_option maxRecDepth 20000 in
theorem gX12_findBowls_X12_findPlaces : GoodIn wsX12_findBowls (wsV RX12 216 RX12 yX12_findPlaces wsX12_findPlaces) := goodIn_app (goodIn_of _ (by decide +kernel)) ggX12_findBowls_X12_findPlaces
set_option maxRecDepth 20000 in
theorem ggX12_findBowls_X12_cameFrom : GoodIn wsX12_findBowls wsX12_cameFrom := goodIn_r _ [16, 17, 18, 19, 20, 21, 22, 23, 24, 25, 26, 27, 28, 29, 30, 31, 32, 33, 34, 35, 36, 37, 38, 39, 40, 41, 42, 43, 44, 45, 46, 47, 48, 49, 50, 51, 52, 53, 54] rfl (by decide +kernel)
set_option maxRecDepth 20000 in
theorem gX12_findBowls_X12_cameFrom : GoodIn wsX12_findBowls (wsV RX12 219 RX12 yX12_cameFrom wsX12_cameFrom) := goodIn_app (goodIn_of _ (by decide +kernel)) ggX12_findBowls_X12_cameFrom
theorem dX12_findBowls_0 : decode cX12_findBowls 0 = .ok (.aload_n 0, 1) := by decide +kernel
theorem dX12_findBowls_1 : decode cX12_findBowls 1 = .ok (.iload_n 1, 1) := by decide +kernel
theorem dX12_findBowls_2 : decode cX12_findBowls 2 = .ok (.invokevirtual 216, 3) := by decide +kernel
theorem dX12_findBowls_5 : decode cX12_findBowls 5 = .ok (.iconst 0, 1) := by decide +kernel
theorem dX12_findBowls_6 : decode cX12_findBowls 6 = .ok (.istore_n 3, 1) := by decide +kernel
theorem dX12_findBowls_7 : decode cX12_findBowls 7 = .ok (.iload_n 3, 1) := by decide +kernel
theorem dX12_findBowls_8 : decode cX12_findBowls 8 = .ok (.aload_n 0, 1) := by decide +kernel
theorem dX12_findBowls_9 : decode cX12_findBowls 9 = .ok (.getfield 100, 3) := by decide +kernel
theorem dX12_findBowls_12 : decode cX12_findBowls 12 = .ok (.if_icmp .ge 31, 3) := by decide +kernel
theorem dX12_findBowls_15 : decode cX12_findBowls 15 = .ok (.aload_n 0, 1) := by decide +kernel
theorem dX12_findBowls_16 : decode cX12_findBowls 16 = .ok (.getfield 54, 3) := by decide +kernel
theorem dX12_findBowls_19 : decode cX12_findBowls 19 = .ok (.iload_n 3, 1) := by decide +kernel
theorem dX12_findBowls_20 : decode cX12_findBowls 20 = .ok (.aload_n 0, 1) := by decide +kernel
theorem dX12_findBowls_21 : decode cX12_findBowls 21 = .ok (.getfield 7, 3) := by decide +kernel
theorem dX12_findBowls_24 : decode cX12_findBowls 24 = .ok (.aload_n 0, 1) := by decide +kernel
theorem dX12_findBowls_25 : decode cX12_findBowls 25 = .ok (.iload_n 2, 1) := by decide +kernel
theorem dX12_findBowls_26 : decode cX12_findBowls 26 = .ok (.aload_n 0, 1) := by decide +kernel
theorem dX12_findBowls_27 : decode cX12_findBowls 27 = .ok (.getfield 35, 3) := by decide +kernel
theorem dX12_findBowls_30 : decode cX12_findBowls 30 = .ok (.iload_n 3, 1) := by decide +kernel
theorem dX12_findBowls_31 : decode cX12_findBowls 31 = .ok (.iaload, 1) := by decide +kernel
theorem dX12_findBowls_32 : decode cX12_findBowls 32 = .ok (.invokevirtual 219, 3) := by decide +kernel
theorem dX12_findBowls_35 : decode cX12_findBowls 35 = .ok (.iaload, 1) := by decide +kernel
theorem dX12_findBowls_36 : decode cX12_findBowls 36 = .ok (.iastore, 1) := by decide +kernel
theorem dX12_findBowls_37 : decode cX12_findBowls 37 = .ok (.iinc 3 1, 3) := by decide +kernel
theorem dX12_findBowls_40 : decode cX12_findBowls 40 = .ok (.goto (-33), 3) := by decide +kernel
theorem dX12_findBowls_43 : decode cX12_findBowls 43 = .ok (.return_, 1) := by decide +kernel
theorem dX12_spoonsOf_0 : decode cX12_spoonsOf 0 = .ok (.iconst 0, 1) := by decide +kernel
theorem dX12_spoonsOf_1 : decode cX12_spoonsOf 1 = .ok (.istore_n 2, 1) := by decide +kernel
theorem dX12_spoonsOf_2 : decode cX12_spoonsOf 2 = .ok (.iconst 0, 1) := by decide +kernel
theorem dX12_spoonsOf_3 : decode cX12_spoonsOf 3 = .ok (.istore_n 3, 1) := by decide +kernel
theorem dX12_spoonsOf_4 : decode cX12_spoonsOf 4 = .ok (.iload_n 3, 1) := by decide +kernel
theorem dX12_spoonsOf_5 : decode cX12_spoonsOf 5 = .ok (.aload_n 0, 1) := by decide +kernel
theorem dX12_spoonsOf_6 : decode cX12_spoonsOf 6 = .ok (.getfield 100, 3) := by decide +kernel
theorem dX12_spoonsOf_9 : decode cX12_spoonsOf 9 = .ok (.if_icmp .ge 34, 3) := by decide +kernel
theorem dX12_spoonsOf_12 : decode cX12_spoonsOf 12 = .ok (.iload_n 2, 1) := by decide +kernel
theorem dX12_spoonsOf_13 : decode cX12_spoonsOf 13 = .ok (.iload_n 1, 1) := by decide +kernel
theorem dX12_spoonsOf_14 : decode cX12_spoonsOf 14 = .ok (.iload_n 3, 1) := by decide +kernel
theorem dX12_spoonsOf_15 : decode cX12_spoonsOf 15 = .ok (.ishr, 1) := by decide +kernel
theorem dX12_spoonsOf_16 : decode cX12_spoonsOf 16 = .ok (.iconst 1, 1) := by decide +kernel
theorem dX12_spoonsOf_17 : decode cX12_spoonsOf 17 = .ok (.iand, 1) := by decide +kernel
theorem dX12_spoonsOf_18 : decode cX12_spoonsOf 18 = .ok (.iconst 1, 1) := by decide +kernel
theorem dX12_spoonsOf_19 : decode cX12_spoonsOf 19 = .ok (.if_icmp .ne 15, 3) := by decide +kernel
theorem dX12_spoonsOf_22 : decode cX12_spoonsOf 22 = .ok (.aload_n 0, 1) := by decide +kernel
theorem dX12_spoonsOf_23 : decode cX12_spoonsOf 23 = .ok (.getfield 7, 3) := by decide +kernel
theorem dX12_spoonsOf_26 : decode cX12_spoonsOf 26 = .ok (.bipush 16, 2) := by decide +kernel
theorem dX12_spoonsOf_28 : decode cX12_spoonsOf 28 = .ok (.iload_n 3, 1) := by decide +kernel
theorem dX12_spoonsOf_29 : decode cX12_spoonsOf 29 = .ok (.iadd, 1) := by decide +kernel
theorem dX12_spoonsOf_30 : decode cX12_spoonsOf 30 = .ok (.iaload, 1) := by decide +kernel
theorem dX12_spoonsOf_31 : decode cX12_spoonsOf 31 = .ok (.goto 4, 3) := by decide +kernel
theorem dX12_spoonsOf_34 : decode cX12_spoonsOf 34 = .ok (.iconst 0, 1) := by decide +kernel
theorem dX12_spoonsOf_35 : decode cX12_spoonsOf 35 = .ok (.iadd, 1) := by decide +kernel
theorem dX12_spoonsOf_36 : decode cX12_spoonsOf 36 = .ok (.istore_n 2, 1) := by decide +kernel
theorem dX12_spoonsOf_37 : decode cX12_spoonsOf 37 = .ok (.iinc 3 1, 3) := by decide +kernel
theorem dX12_spoonsOf_40 : decode cX12_spoonsOf 40 = .ok (.goto (-36), 3) := by decide +kernel
theorem dX12_spoonsOf_43 : decode cX12_spoonsOf 43 = .ok (.iload_n 2, 1) := by decide +kernel
theorem dX12_spoonsOf_44 : decode cX12_spoonsOf 44 = .ok (.ireturn, 1) := by decide +kernel
set_option maxRecDepth 20000 in
theorem ggX12_coupBy_X12_findBowls : GoodIn wsX12_coupBy wsX12_findBowls := goodIn_r _ [8, 1, 3, 9, 10, 11, 12, 13, 7, 14, 15, 16, 17, 18, 19, 20, 21, 22, 27, 28, 29, 30, 31, 32, 33, 34, 35, 36, 37, 38, 39, 40, 41, 42, 43, 44, 45, 46, 47, 48, 49, 50, 51, 52, 53, 54, 55, 56, 57, 58, 59, 60, 61, 62, 63] rfl (by decide +kernel)
set_option maxRecDepth 20000 in
theorem gX12_coupBy_X12_findBowls : GoodIn wsX12_coupBy (wsV RX12 275 RX12 yX12_findBowls wsX12_findBowls) := goodIn_app (goodIn_of _ (by decide +kernel)) ggX12_coupBy_X12_findBowls
set_option maxRecDepth 20000 in
theorem ggX12_coupBy_X12_flag : GoodIn wsX12_coupBy wsX12_flag := goodIn_r _ [17] rfl (by decide +kernel)
set_option maxRecDepth 20000 in
theorem gX12_coupBy_X12_flag : GoodIn wsX12_coupBy (va_wsS RX12 212 yX12_flag wsX12_flag) := goodIn_app (goodIn_of _ (by decide +kernel)) ggX12_coupBy_X12_flag
set_option maxRecDepth 20000 in
theorem ggX12_coupBy_X12_spoonsOf : GoodIn wsX12_coupBy wsX12_spoonsOf := goodIn_r _ [26, 1, 9, 27, 28, 29, 30, 31, 32, 33, 34, 35, 36, 37, 38, 39, 40, 41, 42, 43, 44, 45, 46, 47, 48, 49, 50, 51, 52, 53, 54, 55, 56, 57, 58, 59, 60, 61, 62, 63] rfl (by decide +kernel)
set_option maxRecDepth 20000 in
theorem gX12_coupBy_X12_spoonsOf : GoodIn wsX12_coupBy (wsV RX12 279 RX12 yX12_spoonsOf wsX12_spoonsOf) := goodIn_app (goodIn_of _ (by decide +kernel)) ggX12_coupBy_X12_spoonsOf
theorem dX12_coupBy_0 : decode cX12_coupBy 0 = .ok (.aload_n 0, 1) := by decide +kernel
theorem dX12_coupBy_1 : decode cX12_coupBy 1 = .ok (.iload_n 1, 1) := by decide +kernel
theorem dX12_coupBy_2 : decode cX12_coupBy 2 = .ok (.iload_n 3, 1) := by decide +kernel
theorem dX12_coupBy_3 : decode cX12_coupBy 3 = .ok (.invokevirtual 275, 3) := by decide +kernel
theorem dX12_coupBy_6 : decode cX12_coupBy 6 = .ok (.iconst 0, 1) := by decide +kernel
theorem dX12_coupBy_7 : decode cX12_coupBy 7 = .ok (.istore 4, 2) := by decide +kernel
theorem dX12_coupBy_9 : decode cX12_coupBy 9 = .ok (.iload 4, 2) := by decide +kernel
theorem dX12_coupBy_11 : decode cX12_coupBy 11 = .ok (.aload_n 0, 1) := by decide +kernel
theorem dX12_coupBy_12 : decode cX12_coupBy 12 = .ok (.getfield 100, 3) := by decide +kernel
theorem dX12_coupBy_15 : decode cX12_coupBy 15 = .ok (.if_icmp .ge 23, 3) := by decide +kernel
theorem dX12_coupBy_18 : decode cX12_coupBy 18 = .ok (.aload_n 0, 1) := by decide +kernel
theorem dX12_coupBy_19 : decode cX12_coupBy 19 = .ok (.getfield 57, 3) := by decide +kernel
theorem dX12_coupBy_22 : decode cX12_coupBy 22 = .ok (.iload 4, 2) := by decide +kernel
theorem dX12_coupBy_24 : decode cX12_coupBy 24 = .ok (.aload_n 0, 1) := by decide +kernel
theorem dX12_coupBy_25 : decode cX12_coupBy 25 = .ok (.getfield 54, 3) := by decide +kernel
theorem dX12_coupBy_28 : decode cX12_coupBy 28 = .ok (.iload 4, 2) := by decide +kernel
theorem dX12_coupBy_30 : decode cX12_coupBy 30 = .ok (.iaload, 1) := by decide +kernel
theorem dX12_coupBy_31 : decode cX12_coupBy 31 = .ok (.iastore, 1) := by decide +kernel
theorem dX12_coupBy_32 : decode cX12_coupBy 32 = .ok (.iinc 4 1, 3) := by decide +kernel
theorem dX12_coupBy_35 : decode cX12_coupBy 35 = .ok (.goto (-26), 3) := by decide +kernel
theorem dX12_coupBy_38 : decode cX12_coupBy 38 = .ok (.aload_n 0, 1) := by decide +kernel
theorem dX12_coupBy_39 : decode cX12_coupBy 39 = .ok (.iload_n 2, 1) := by decide +kernel
theorem dX12_coupBy_40 : decode cX12_coupBy 40 = .ok (.iload_n 3, 1) := by decide +kernel
theorem dX12_coupBy_41 : decode cX12_coupBy 41 = .ok (.invokevirtual 275, 3) := by decide +kernel
theorem dX12_coupBy_44 : decode cX12_coupBy 44 = .ok (.iconst 0, 1) := by decide +kernel
theorem dX12_coupBy_45 : decode cX12_coupBy 45 = .ok (.istore 4, 2) := by decide +kernel
theorem dX12_coupBy_47 : decode cX12_coupBy 47 = .ok (.iconst 0, 1) := by decide +kernel
theorem dX12_coupBy_48 : decode cX12_coupBy 48 = .ok (.istore 5, 2) := by decide +kernel
theorem dX12_coupBy_50 : decode cX12_coupBy 50 = .ok (.iload 5, 2) := by decide +kernel
theorem dX12_coupBy_52 : decode cX12_coupBy 52 = .ok (.aload_n 0, 1) := by decide +kernel
theorem dX12_coupBy_53 : decode cX12_coupBy 53 = .ok (.getfield 100, 3) := by decide +kernel
theorem dX12_coupBy_56 : decode cX12_coupBy 56 = .ok (.if_icmp .ge 42, 3) := by decide +kernel
theorem dX12_coupBy_59 : decode cX12_coupBy 59 = .ok (.iload 4, 2) := by decide +kernel
theorem dX12_coupBy_61 : decode cX12_coupBy 61 = .ok (.aload_n 0, 1) := by decide +kernel
theorem dX12_coupBy_62 : decode cX12_coupBy 62 = .ok (.getfield 54, 3) := by decide +kernel
theorem dX12_coupBy_65 : decode cX12_coupBy 65 = .ok (.iload 5, 2) := by decide +kernel
theorem dX12_coupBy_67 : decode cX12_coupBy 67 = .ok (.iaload, 1) := by decide +kernel
theorem dX12_coupBy_68 : decode cX12_coupBy 68 = .ok (.aload_n 0, 1) := by decide +kernel
theorem dX12_coupBy_69 : decode cX12_coupBy 69 = .ok (.getfield 57, 3) := by decide +kernel
theorem dX12_coupBy_72 : decode cX12_coupBy 72 = .ok (.iload 5, 2) := by decide +kernel
theorem dX12_coupBy_74 : decode cX12_coupBy 74 = .ok (.iaload, 1) := by decide +kernel
theorem dX12_coupBy_75 : decode cX12_coupBy 75 = .ok (.if_icmp .le 7, 3) := by decide +kernel
theorem dX12_coupBy_78 : decode cX12_coupBy 78 = .ok (.iconst 1, 1) := by decide +kernel
theorem dX12_coupBy_79 : decode cX12_coupBy 79 = .ok (.goto 4, 3) := by decide +kernel
theorem dX12_coupBy_82 : decode cX12_coupBy 82 = .ok (.iconst 0, 1) := by decide +kernel
theorem dX12_coupBy_83 : decode cX12_coupBy 83 = .ok (.invokestatic 212, 3) := by decide +kernel
theorem dX12_coupBy_86 : decode cX12_coupBy 86 = .ok (.iload 5, 2) := by decide +kernel
theorem dX12_coupBy_88 : decode cX12_coupBy 88 = .ok (.ishl, 1) := by decide +kernel
theorem dX12_coupBy_89 : decode cX12_coupBy 89 = .ok (.ior, 1) := by decide +kernel
theorem dX12_coupBy_90 : decode cX12_coupBy 90 = .ok (.istore 4, 2) := by decide +kernel
theorem dX12_coupBy_92 : decode cX12_coupBy 92 = .ok (.iinc 5 1, 3) := by decide +kernel
theorem dX12_coupBy_95 : decode cX12_coupBy 95 = .ok (.goto (-45), 3) := by decide +kernel
theorem dX12_coupBy_98 : decode cX12_coupBy 98 = .ok (.aload_n 0, 1) := by decide +kernel
theorem dX12_coupBy_99 : decode cX12_coupBy 99 = .ok (.iconst 1, 1) := by decide +kernel
theorem dX12_coupBy_100 : decode cX12_coupBy 100 = .ok (.aload_n 0, 1) := by decide +kernel
theorem dX12_coupBy_101 : decode cX12_coupBy 101 = .ok (.getfield 100, 3) := by decide +kernel
theorem dX12_coupBy_104 : decode cX12_coupBy 104 = .ok (.ishl, 1) := by decide +kernel
theorem dX12_coupBy_105 : decode cX12_coupBy 105 = .ok (.iconst 1, 1) := by decide +kernel
theorem dX12_coupBy_106 : decode cX12_coupBy 106 = .ok (.isub, 1) := by decide +kernel
theorem dX12_coupBy_107 : decode cX12_coupBy 107 = .ok (.invokevirtual 279, 3) := by decide +kernel
theorem dX12_coupBy_110 : decode cX12_coupBy 110 = .ok (.istore 5, 2) := by decide +kernel
theorem dX12_coupBy_112 : decode cX12_coupBy 112 = .ok (.iconst 1, 1) := by decide +kernel
theorem dX12_coupBy_113 : decode cX12_coupBy 113 = .ok (.istore 6, 2) := by decide +kernel
theorem dX12_coupBy_115 : decode cX12_coupBy 115 = .ok (.iload 6, 2) := by decide +kernel
theorem dX12_coupBy_117 : decode cX12_coupBy 117 = .ok (.iconst 1, 1) := by decide +kernel
theorem dX12_coupBy_118 : decode cX12_coupBy 118 = .ok (.aload_n 0, 1) := by decide +kernel
theorem dX12_coupBy_119 : decode cX12_coupBy 119 = .ok (.getfield 100, 3) := by decide +kernel
theorem dX12_coupBy_122 : decode cX12_coupBy 122 = .ok (.ishl, 1) := by decide +kernel
theorem dX12_coupBy_123 : decode cX12_coupBy 123 = .ok (.if_icmp .ge 45, 3) := by decide +kernel
theorem dX12_coupBy_126 : decode cX12_coupBy 126 = .ok (.iload 6, 2) := by decide +kernel
theorem dX12_coupBy_128 : decode cX12_coupBy 128 = .ok (.iload 4, 2) := by decide +kernel
theorem dX12_coupBy_130 : decode cX12_coupBy 130 = .ok (.iconst (-1), 1) := by decide +kernel
theorem dX12_coupBy_131 : decode cX12_coupBy 131 = .ok (.ixor, 1) := by decide +kernel
theorem dX12_coupBy_132 : decode cX12_coupBy 132 = .ok (.iand, 1) := by decide +kernel
theorem dX12_coupBy_133 : decode cX12_coupBy 133 = .ok (.ifCond .ne 29, 3) := by decide +kernel
theorem dX12_coupBy_136 : decode cX12_coupBy 136 = .ok (.iload 6, 2) := by decide +kernel
theorem dX12_coupBy_138 : decode cX12_coupBy 138 = .ok (.iload_n 2, 1) := by decide +kernel
theorem dX12_coupBy_139 : decode cX12_coupBy 139 = .ok (.ishr, 1) := by decide +kernel
theorem dX12_coupBy_140 : decode cX12_coupBy 140 = .ok (.iconst 1, 1) := by decide +kernel
theorem dX12_coupBy_141 : decode cX12_coupBy 141 = .ok (.iand, 1) := by decide +kernel
theorem dX12_coupBy_142 : decode cX12_coupBy 142 = .ok (.iconst 1, 1) := by decide +kernel
theorem dX12_coupBy_143 : decode cX12_coupBy 143 = .ok (.if_icmp .ne 19, 3) := by decide +kernel
theorem dX12_coupBy_146 : decode cX12_coupBy 146 = .ok (.iconst 2, 1) := by decide +kernel
theorem dX12_coupBy_147 : decode cX12_coupBy 147 = .ok (.aload_n 0, 1) := by decide +kernel
theorem dX12_coupBy_148 : decode cX12_coupBy 148 = .ok (.iload 6, 2) := by decide +kernel
theorem dX12_coupBy_150 : decode cX12_coupBy 150 = .ok (.invokevirtual 279, 3) := by decide +kernel
theorem dX12_coupBy_153 : decode cX12_coupBy 153 = .ok (.imul, 1) := by decide +kernel
theorem dX12_coupBy_154 : decode cX12_coupBy 154 = .ok (.iload 5, 2) := by decide +kernel
theorem dX12_coupBy_156 : decode cX12_coupBy 156 = .ok (.if_icmp .le 6, 3) := by decide +kernel
theorem dX12_coupBy_159 : decode cX12_coupBy 159 = .ok (.iload 6, 2) := by decide +kernel
theorem dX12_coupBy_161 : decode cX12_coupBy 161 = .ok (.ireturn, 1) := by decide +kernel
theorem dX12_coupBy_162 : decode cX12_coupBy 162 = .ok (.iinc 6 1, 3) := by decide +kernel
theorem dX12_coupBy_165 : decode cX12_coupBy 165 = .ok (.goto (-50), 3) := by decide +kernel
theorem dX12_coupBy_168 : decode cX12_coupBy 168 = .ok (.bipush (-4), 2) := by decide +kernel
theorem dX12_coupBy_170 : decode cX12_coupBy 170 = .ok (.ireturn, 1) := by decide +kernel
set_option maxRecDepth 20000 in
theorem ggX12_leaderBy_X12_coupBy : GoodIn wsX12_leaderBy wsX12_coupBy := goodIn_r _ [6, 1, 7, 8, 9, 10, 11, 5, 12, 13, 14, 15, 16, 17, 18, 19, 20, 21, 22, 23, 24, 25, 26, 27, 28, 29, 30, 31, 32, 33, 34, 35, 36, 37, 38, 39, 40, 41, 42, 43, 44, 45, 46, 47, 48, 49, 50, 51, 52, 53, 54, 55, 56, 57, 58, 59, 60, 61, 62, 63, 64, 65, 66, 67] rfl (by decide +kernel)
set_option maxRecDepth 20000 in
theorem gX12_leaderBy_X12_coupBy : GoodIn wsX12_leaderBy (wsV RX12 282 RX12 yX12_coupBy wsX12_coupBy) := goodIn_app (goodIn_of _ (by decide +kernel)) ggX12_leaderBy_X12_coupBy
theorem dX12_leaderBy_0 : decode cX12_leaderBy 0 = .ok (.iconst 0, 1) := by decide +kernel
theorem dX12_leaderBy_1 : decode cX12_leaderBy 1 = .ok (.istore_n 3, 1) := by decide +kernel
theorem dX12_leaderBy_2 : decode cX12_leaderBy 2 = .ok (.iload_n 3, 1) := by decide +kernel
theorem dX12_leaderBy_3 : decode cX12_leaderBy 3 = .ok (.aload_n 0, 1) := by decide +kernel
theorem dX12_leaderBy_4 : decode cX12_leaderBy 4 = .ok (.getfield 100, 3) := by decide +kernel
theorem dX12_leaderBy_7 : decode cX12_leaderBy 7 = .ok (.if_icmp .ge 28, 3) := by decide +kernel
theorem dX12_leaderBy_10 : decode cX12_leaderBy 10 = .ok (.iload_n 3, 1) := by decide +kernel
theorem dX12_leaderBy_11 : decode cX12_leaderBy 11 = .ok (.iload_n 1, 1) := by decide +kernel
theorem dX12_leaderBy_12 : decode cX12_leaderBy 12 = .ok (.if_icmp .eq 17, 3) := by decide +kernel
theorem dX12_leaderBy_15 : decode cX12_leaderBy 15 = .ok (.aload_n 0, 1) := by decide +kernel
theorem dX12_leaderBy_16 : decode cX12_leaderBy 16 = .ok (.iload_n 1, 1) := by decide +kernel
theorem dX12_leaderBy_17 : decode cX12_leaderBy 17 = .ok (.iload_n 3, 1) := by decide +kernel
theorem dX12_leaderBy_18 : decode cX12_leaderBy 18 = .ok (.iload_n 2, 1) := by decide +kernel
theorem dX12_leaderBy_19 : decode cX12_leaderBy 19 = .ok (.invokevirtual 282, 3) := by decide +kernel
theorem dX12_leaderBy_22 : decode cX12_leaderBy 22 = .ok (.bipush (-4), 2) := by decide +kernel
theorem dX12_leaderBy_24 : decode cX12_leaderBy 24 = .ok (.if_icmp .eq 5, 3) := by decide +kernel
theorem dX12_leaderBy_27 : decode cX12_leaderBy 27 = .ok (.iload_n 3, 1) := by decide +kernel
theorem dX12_leaderBy_28 : decode cX12_leaderBy 28 = .ok (.ireturn, 1) := by decide +kernel
theorem dX12_leaderBy_29 : decode cX12_leaderBy 29 = .ok (.iinc 3 1, 3) := by decide +kernel
theorem dX12_leaderBy_32 : decode cX12_leaderBy 32 = .ok (.goto (-30), 3) := by decide +kernel
theorem dX12_leaderBy_35 : decode cX12_leaderBy 35 = .ok (.bipush (-4), 2) := by decide +kernel
theorem dX12_leaderBy_37 : decode cX12_leaderBy 37 = .ok (.ireturn, 1) := by decide +kernel
set_option maxRecDepth 20000 in
theorem ggX12_coup_X12_isSeat : GoodIn wsX12_coup wsX12_isSeat := goodIn_r _ [5, 6, 7, 8, 4, 9, 50, 51, 52, 53, 54, 55, 56, 57, 58, 59, 60, 61, 62, 63, 64, 65, 66, 67, 68, 69, 70, 71, 72, 73, 74, 75, 76, 77, 78, 79, 80, 81, 82, 83, 84, 85, 86] rfl (by decide +kernel)
set_option maxRecDepth 20000 in
theorem gX12_coup_X12_isSeat : GoodIn wsX12_coup (wsV RX12 203 RX12 yX12_isSeat wsX12_isSeat) := goodIn_app (goodIn_of _ (by decide +kernel)) ggX12_coup_X12_isSeat
set_option maxRecDepth 20000 in
theorem ggX12_coup_X12_isStir : GoodIn wsX12_coup wsX12_isStir := goodIn_r _ [13, 14, 7, 8, 4, 9, 50, 51, 52, 53, 54, 55, 56, 57, 58, 59, 60, 61, 62, 63, 64, 65, 66, 67, 68, 69, 70, 71, 72, 73, 74, 75, 76, 77, 78, 79, 80, 81, 82, 83, 84, 85, 86] rfl (by decide +kernel)
set_option maxRecDepth 20000 in
theorem gX12_coup_X12_isStir : GoodIn wsX12_coup (wsV RX12 207 RX12 yX12_isStir wsX12_isStir) := goodIn_app (goodIn_of _ (by decide +kernel)) ggX12_coup_X12_isStir
set_option maxRecDepth 20000 in
theorem ggX12_coup_X12_isTold : GoodIn wsX12_coup wsX12_isTold := goodIn_r _ [17, 7, 8, 4, 9] rfl (by decide +kernel)
set_option maxRecDepth 20000 in
theorem gX12_coup_X12_isTold : GoodIn wsX12_coup (va_wsS RX12 238 yX12_isTold wsX12_isTold) := goodIn_app (goodIn_of _ (by decide +kernel)) ggX12_coup_X12_isTold
set_option maxRecDepth 20000 in
theorem ggX12_coup_X12_leaderBy : GoodIn wsX12_coup wsX12_leaderBy := goodIn_r _ [21, 6, 22, 23, 24, 4, 25, 26, 27, 28, 29, 30, 31, 32, 33, 34, 35, 36, 37, 38, 39, 40, 41, 42, 43, 44, 45, 46, 47, 48, 49, 50, 51, 52, 53, 54, 55, 56, 57, 58, 59, 60, 61, 62, 63, 64, 65, 66, 67, 68, 69, 70, 71, 72, 73, 74, 75, 76, 77, 78, 79, 80, 81, 82, 83, 84, 85, 86] rfl (by decide +kernel)
set_option maxRecDepth 20000 in
theorem gX12_coup_X12_leaderBy : GoodIn wsX12_coup (wsV RX12 285 RX12 yX12_leaderBy wsX12_leaderBy) := goodIn_app (goodIn_of _ (by decide +kernel)) ggX12_coup_X12_leaderBy
set_option maxRecDepth 20000 in
theorem ggX12_coup_X12_coupBy : GoodIn wsX12_coup wsX12_coupBy := goodIn_r _ [25, 6, 26, 27, 28, 29, 30, 4, 31, 32, 33, 34, 35, 36, 37, 38, 39, 40, 41, 42, 43, 44, 45, 46, 47, 48, 49, 50, 51, 52, 53, 54, 55, 56, 57, 58, 59, 60, 61, 62, 63, 64, 65, 66, 67, 68, 69, 70, 71, 72, 73, 74, 75, 76, 77, 78, 79, 80, 81, 82, 83, 84, 85, 86] rfl (by decide +kernel)
set_option maxRecDepth 20000 in
theorem gX12_coup_X12_coupBy : GoodIn wsX12_coup (wsV RX12 282 RX12 yX12_coupBy wsX12_coupBy) := goodIn_app (goodIn_of _ (by decide +kernel)) ggX12_coup_X12_coupBy
theorem dX12_coup_0 : decode cX12_coup 0 = .ok (.aload_n 0, 1) := by decide +kernel
theorem dX12_coup_1 : decode cX12_coup 1 = .ok (.iload_n 1, 1) := by decide +kernel
theorem dX12_coup_2 : decode cX12_coup 2 = .ok (.invokevirtual 203, 3) := by decide +kernel
theorem dX12_coup_5 : decode cX12_coup 5 = .ok (.ifCond .eq 18, 3) := by decide +kernel
theorem dX12_coup_8 : decode cX12_coup 8 = .ok (.aload_n 0, 1) := by decide +kernel
theorem dX12_coup_9 : decode cX12_coup 9 = .ok (.iload_n 2, 1) := by decide +kernel
theorem dX12_coup_10 : decode cX12_coup 10 = .ok (.invokevirtual 207, 3) := by decide +kernel
theorem dX12_coup_13 : decode cX12_coup 13 = .ok (.ifCond .eq 10, 3) := by decide +kernel
theorem dX12_coup_16 : decode cX12_coup 16 = .ok (.iload_n 3, 1) := by decide +kernel
theorem dX12_coup_17 : decode cX12_coup 17 = .ok (.invokestatic 238, 3) := by decide +kernel
theorem dX12_coup_20 : decode cX12_coup 20 = .ok (.ifCond .ne 5, 3) := by decide +kernel
theorem dX12_coup_23 : decode cX12_coup 23 = .ok (.iconst (-1), 1) := by decide +kernel
theorem dX12_coup_24 : decode cX12_coup 24 = .ok (.ireturn, 1) := by decide +kernel
theorem dX12_coup_25 : decode cX12_coup 25 = .ok (.aload_n 0, 1) := by decide +kernel
theorem dX12_coup_26 : decode cX12_coup 26 = .ok (.iload_n 1, 1) := by decide +kernel
theorem dX12_coup_27 : decode cX12_coup 27 = .ok (.iload_n 2, 1) := by decide +kernel
theorem dX12_coup_28 : decode cX12_coup 28 = .ok (.invokevirtual 285, 3) := by decide +kernel
theorem dX12_coup_31 : decode cX12_coup 31 = .ok (.istore 4, 2) := by decide +kernel
theorem dX12_coup_33 : decode cX12_coup 33 = .ok (.iload 4, 2) := by decide +kernel
theorem dX12_coup_35 : decode cX12_coup 35 = .ok (.bipush (-4), 2) := by decide +kernel
theorem dX12_coup_37 : decode cX12_coup 37 = .ok (.if_icmp .ne 8, 3) := by decide +kernel
theorem dX12_coup_40 : decode cX12_coup 40 = .ok (.bipush (-4), 2) := by decide +kernel
theorem dX12_coup_42 : decode cX12_coup 42 = .ok (.goto 20, 3) := by decide +kernel
theorem dX12_coup_45 : decode cX12_coup 45 = .ok (.iload_n 3, 1) := by decide +kernel
theorem dX12_coup_46 : decode cX12_coup 46 = .ok (.ifCond .ne 8, 3) := by decide +kernel
theorem dX12_coup_49 : decode cX12_coup 49 = .ok (.iload 4, 2) := by decide +kernel
theorem dX12_coup_51 : decode cX12_coup 51 = .ok (.goto 11, 3) := by decide +kernel
theorem dX12_coup_54 : decode cX12_coup 54 = .ok (.aload_n 0, 1) := by decide +kernel
theorem dX12_coup_55 : decode cX12_coup 55 = .ok (.iload_n 1, 1) := by decide +kernel
theorem dX12_coup_56 : decode cX12_coup 56 = .ok (.iload 4, 2) := by decide +kernel
theorem dX12_coup_58 : decode cX12_coup 58 = .ok (.iload_n 2, 1) := by decide +kernel
theorem dX12_coup_59 : decode cX12_coup 59 = .ok (.invokevirtual 282, 3) := by decide +kernel
theorem dX12_coup_62 : decode cX12_coup 62 = .ok (.ireturn, 1) := by decide +kernel
set_option maxRecDepth 20000 in
theorem ggX12_firm_X12_isStir : GoodIn wsX12_firm wsX12_isStir := goodIn_r _ [6, 7, 8, 9, 5, 10, 43, 44, 45, 46, 47, 48, 49, 50, 51, 52, 53, 54, 55, 56, 57, 58, 59, 60, 61, 62, 63, 64, 65, 66, 67, 68, 69, 70, 71, 72, 73, 74, 75, 76, 77, 78, 79] rfl (by decide +kernel)
set_option maxRecDepth 20000 in
theorem gX12_firm_X12_isStir : GoodIn wsX12_firm (wsV RX12 207 RX12 yX12_isStir wsX12_isStir) := goodIn_app (goodIn_of _ (by decide +kernel)) ggX12_firm_X12_isStir
set_option maxRecDepth 20000 in
theorem ggX12_firm_X12_leaderBy : GoodIn wsX12_firm wsX12_leaderBy := goodIn_r _ [14, 1, 15, 16, 17, 5, 18, 19, 20, 21, 22, 23, 24, 25, 26, 27, 28, 29, 30, 31, 32, 33, 34, 35, 36, 37, 38, 39, 40, 41, 42, 43, 44, 45, 46, 47, 48, 49, 50, 51, 52, 53, 54, 55, 56, 57, 58, 59, 60, 61, 62, 63, 64, 65, 66, 67, 68, 69, 70, 71, 72, 73, 74, 75, 76, 77, 78, 79] rfl (by decide +kernel)
set_option maxRecDepth 20000 in
theorem gX12_firm_X12_leaderBy : GoodIn wsX12_firm (wsV RX12 285 RX12 yX12_leaderBy wsX12_leaderBy) := goodIn_app (goodIn_of _ (by decide +kernel)) ggX12_firm_X12_leaderBy
set_option maxRecDepth 20000 in
theorem ggX12_firm_X12_flag : GoodIn wsX12_firm wsX12_flag := goodIn_r _ [33] rfl (by decide +kernel)
set_option maxRecDepth 20000 in
theorem gX12_firm_X12_flag : GoodIn wsX12_firm (va_wsS RX12 212 yX12_flag wsX12_flag) := goodIn_app (goodIn_of _ (by decide +kernel)) ggX12_firm_X12_flag
theorem dX12_firm_0 : decode cX12_firm 0 = .ok (.aload_n 0, 1) := by decide +kernel
theorem dX12_firm_1 : decode cX12_firm 1 = .ok (.iload_n 1, 1) := by decide +kernel
theorem dX12_firm_2 : decode cX12_firm 2 = .ok (.invokevirtual 207, 3) := by decide +kernel
theorem dX12_firm_5 : decode cX12_firm 5 = .ok (.ifCond .ne 5, 3) := by decide +kernel
theorem dX12_firm_8 : decode cX12_firm 8 = .ok (.iconst (-1), 1) := by decide +kernel
theorem dX12_firm_9 : decode cX12_firm 9 = .ok (.ireturn, 1) := by decide +kernel
theorem dX12_firm_10 : decode cX12_firm 10 = .ok (.iconst 0, 1) := by decide +kernel
theorem dX12_firm_11 : decode cX12_firm 11 = .ok (.istore_n 2, 1) := by decide +kernel
theorem dX12_firm_12 : decode cX12_firm 12 = .ok (.iconst 0, 1) := by decide +kernel
theorem dX12_firm_13 : decode cX12_firm 13 = .ok (.istore_n 3, 1) := by decide +kernel
theorem dX12_firm_14 : decode cX12_firm 14 = .ok (.iload_n 3, 1) := by decide +kernel
theorem dX12_firm_15 : decode cX12_firm 15 = .ok (.aload_n 0, 1) := by decide +kernel
theorem dX12_firm_16 : decode cX12_firm 16 = .ok (.getfield 100, 3) := by decide +kernel
theorem dX12_firm_19 : decode cX12_firm 19 = .ok (.if_icmp .ge 33, 3) := by decide +kernel
theorem dX12_firm_22 : decode cX12_firm 22 = .ok (.iload_n 2, 1) := by decide +kernel
theorem dX12_firm_23 : decode cX12_firm 23 = .ok (.aload_n 0, 1) := by decide +kernel
theorem dX12_firm_24 : decode cX12_firm 24 = .ok (.iload_n 3, 1) := by decide +kernel
theorem dX12_firm_25 : decode cX12_firm 25 = .ok (.iload_n 1, 1) := by decide +kernel
theorem dX12_firm_26 : decode cX12_firm 26 = .ok (.invokevirtual 285, 3) := by decide +kernel
theorem dX12_firm_29 : decode cX12_firm 29 = .ok (.bipush (-4), 2) := by decide +kernel
theorem dX12_firm_31 : decode cX12_firm 31 = .ok (.if_icmp .ne 7, 3) := by decide +kernel
theorem dX12_firm_34 : decode cX12_firm 34 = .ok (.iconst 1, 1) := by decide +kernel
theorem dX12_firm_35 : decode cX12_firm 35 = .ok (.goto 4, 3) := by decide +kernel
theorem dX12_firm_38 : decode cX12_firm 38 = .ok (.iconst 0, 1) := by decide +kernel
theorem dX12_firm_39 : decode cX12_firm 39 = .ok (.invokestatic 212, 3) := by decide +kernel
theorem dX12_firm_42 : decode cX12_firm 42 = .ok (.iload_n 3, 1) := by decide +kernel
theorem dX12_firm_43 : decode cX12_firm 43 = .ok (.ishl, 1) := by decide +kernel
theorem dX12_firm_44 : decode cX12_firm 44 = .ok (.ior, 1) := by decide +kernel
theorem dX12_firm_45 : decode cX12_firm 45 = .ok (.istore_n 2, 1) := by decide +kernel
theorem dX12_firm_46 : decode cX12_firm 46 = .ok (.iinc 3 1, 3) := by decide +kernel
theorem dX12_firm_49 : decode cX12_firm 49 = .ok (.goto (-35), 3) := by decide +kernel
theorem dX12_firm_52 : decode cX12_firm 52 = .ok (.iload_n 2, 1) := by decide +kernel
theorem dX12_firm_53 : decode cX12_firm 53 = .ok (.ireturn, 1) := by decide +kernel
set_option maxRecDepth 20000 in
theorem ggX12_see_X12_isSeat : GoodIn wsX12_see wsX12_isSeat := goodIn_r _ [6, 7, 8, 9, 5, 10, 11, 12, 13, 14, 15, 16, 17, 18, 19, 20, 21, 22, 23, 24, 25, 26, 27, 28, 29, 30, 31, 32, 33, 34, 35, 36, 37, 38, 39, 40, 41, 42, 43, 44, 45, 46, 47] rfl (by decide +kernel)
set_option maxRecDepth 20000 in
theorem gX12_see_X12_isSeat : GoodIn wsX12_see (wsV RX12 203 RX12 yX12_isSeat wsX12_isSeat) := goodIn_app (goodIn_of _ (by decide +kernel)) ggX12_see_X12_isSeat
theorem dX12_see_0 : decode cX12_see 0 = .ok (.aload_n 0, 1) := by decide +kernel
theorem dX12_see_1 : decode cX12_see 1 = .ok (.iload_n 1, 1) := by decide +kernel
theorem dX12_see_2 : decode cX12_see 2 = .ok (.invokevirtual 203, 3) := by decide +kernel
theorem dX12_see_5 : decode cX12_see 5 = .ok (.ifCond .ne 5, 3) := by decide +kernel
theorem dX12_see_8 : decode cX12_see 8 = .ok (.iconst (-1), 1) := by decide +kernel
theorem dX12_see_9 : decode cX12_see 9 = .ok (.ireturn, 1) := by decide +kernel
theorem dX12_see_10 : decode cX12_see 10 = .ok (.aload_n 0, 1) := by decide +kernel
theorem dX12_see_11 : decode cX12_see 11 = .ok (.getfield 7, 3) := by decide +kernel
theorem dX12_see_14 : decode cX12_see 14 = .ok (.bipush 31, 2) := by decide +kernel
theorem dX12_see_16 : decode cX12_see 16 = .ok (.iaload, 1) := by decide +kernel
theorem dX12_see_17 : decode cX12_see 17 = .ok (.bipush 6, 2) := by decide +kernel
theorem dX12_see_19 : decode cX12_see 19 = .ok (.if_icmp .ne 6, 3) := by decide +kernel
theorem dX12_see_22 : decode cX12_see 22 = .ok (.bipush (-3), 2) := by decide +kernel
theorem dX12_see_24 : decode cX12_see 24 = .ok (.ireturn, 1) := by decide +kernel
theorem dX12_see_25 : decode cX12_see 25 = .ok (.aload_n 0, 1) := by decide +kernel
theorem dX12_see_26 : decode cX12_see 26 = .ok (.getfield 7, 3) := by decide +kernel
theorem dX12_see_29 : decode cX12_see 29 = .ok (.bipush 32, 2) := by decide +kernel
theorem dX12_see_31 : decode cX12_see 31 = .ok (.aload_n 0, 1) := by decide +kernel
theorem dX12_see_32 : decode cX12_see 32 = .ok (.getfield 7, 3) := by decide +kernel
theorem dX12_see_35 : decode cX12_see 35 = .ok (.bipush 31, 2) := by decide +kernel
theorem dX12_see_37 : decode cX12_see 37 = .ok (.iaload, 1) := by decide +kernel
theorem dX12_see_38 : decode cX12_see 38 = .ok (.iadd, 1) := by decide +kernel
theorem dX12_see_39 : decode cX12_see 39 = .ok (.iload_n 1, 1) := by decide +kernel
theorem dX12_see_40 : decode cX12_see 40 = .ok (.iastore, 1) := by decide +kernel
theorem dX12_see_41 : decode cX12_see 41 = .ok (.aload_n 0, 1) := by decide +kernel
theorem dX12_see_42 : decode cX12_see 42 = .ok (.getfield 7, 3) := by decide +kernel
theorem dX12_see_45 : decode cX12_see 45 = .ok (.bipush 31, 2) := by decide +kernel
theorem dX12_see_47 : decode cX12_see 47 = .ok (.dup2, 1) := by decide +kernel
theorem dX12_see_48 : decode cX12_see 48 = .ok (.iaload, 1) := by decide +kernel
theorem dX12_see_49 : decode cX12_see 49 = .ok (.iconst 1, 1) := by decide +kernel
theorem dX12_see_50 : decode cX12_see 50 = .ok (.iadd, 1) := by decide +kernel
theorem dX12_see_51 : decode cX12_see 51 = .ok (.iastore, 1) := by decide +kernel
theorem dX12_see_52 : decode cX12_see 52 = .ok (.aload_n 0, 1) := by decide +kernel
theorem dX12_see_53 : decode cX12_see 53 = .ok (.getfield 7, 3) := by decide +kernel
theorem dX12_see_56 : decode cX12_see 56 = .ok (.bipush 31, 2) := by decide +kernel
theorem dX12_see_58 : decode cX12_see 58 = .ok (.iaload, 1) := by decide +kernel
theorem dX12_see_59 : decode cX12_see 59 = .ok (.ireturn, 1) := by decide +kernel
set_option maxRecDepth 20000 in
theorem ggX12_forget_X12_in : GoodIn wsX12_forget wsX12_in := goodIn_r _ [5] rfl (by decide +kernel)
set_option maxRecDepth 20000 in
theorem gX12_forget_X12_in : GoodIn wsX12_forget (va_wsS RX12 115 yX12_in wsX12_in) := goodIn_app (goodIn_of _ (by decide +kernel)) ggX12_forget_X12_in
theorem dX12_forget_0 : decode cX12_forget 0 = .ok (.iload_n 1, 1) := by decide +kernel
theorem dX12_forget_1 : decode cX12_forget 1 = .ok (.i2l, 1) := by decide +kernel
theorem dX12_forget_2 : decode cX12_forget 2 = .ok (.lconst 0, 1) := by decide +kernel
theorem dX12_forget_3 : decode cX12_forget 3 = .ok (.aload_n 0, 1) := by decide +kernel
theorem dX12_forget_4 : decode cX12_forget 4 = .ok (.getfield 7, 3) := by decide +kernel
theorem dX12_forget_7 : decode cX12_forget 7 = .ok (.bipush 31, 2) := by decide +kernel
theorem dX12_forget_9 : decode cX12_forget 9 = .ok (.iaload, 1) := by decide +kernel
theorem dX12_forget_10 : decode cX12_forget 10 = .ok (.i2l, 1) := by decide +kernel
theorem dX12_forget_11 : decode cX12_forget 11 = .ok (.invokestatic 115, 3) := by decide +kernel
theorem dX12_forget_14 : decode cX12_forget 14 = .ok (.ifCond .ne 5, 3) := by decide +kernel
theorem dX12_forget_17 : decode cX12_forget 17 = .ok (.iconst (-1), 1) := by decide +kernel
theorem dX12_forget_18 : decode cX12_forget 18 = .ok (.ireturn, 1) := by decide +kernel
theorem dX12_forget_19 : decode cX12_forget 19 = .ok (.aload_n 0, 1) := by decide +kernel
theorem dX12_forget_20 : decode cX12_forget 20 = .ok (.getfield 7, 3) := by decide +kernel
theorem dX12_forget_23 : decode cX12_forget 23 = .ok (.bipush 31, 2) := by decide +kernel
theorem dX12_forget_25 : decode cX12_forget 25 = .ok (.iaload, 1) := by decide +kernel
theorem dX12_forget_26 : decode cX12_forget 26 = .ok (.istore_n 2, 1) := by decide +kernel
theorem dX12_forget_27 : decode cX12_forget 27 = .ok (.aload_n 0, 1) := by decide +kernel
theorem dX12_forget_28 : decode cX12_forget 28 = .ok (.getfield 7, 3) := by decide +kernel
theorem dX12_forget_31 : decode cX12_forget 31 = .ok (.bipush 31, 2) := by decide +kernel
theorem dX12_forget_33 : decode cX12_forget 33 = .ok (.iload_n 1, 1) := by decide +kernel
theorem dX12_forget_34 : decode cX12_forget 34 = .ok (.iastore, 1) := by decide +kernel
theorem dX12_forget_35 : decode cX12_forget 35 = .ok (.iload_n 2, 1) := by decide +kernel
theorem dX12_forget_36 : decode cX12_forget 36 = .ok (.ireturn, 1) := by decide +kernel
set_option maxRecDepth 20000 in
theorem ggX12_findHistories_X12_then : GoodIn wsX12_findHistories wsX12_then := goodIn_r _ [9, 10, 11, 12, 13, 8, 14, 15, 16, 17, 18, 19, 4, 1, 20, 21, 22, 23, 24, 25, 26, 27, 28, 29, 30, 31, 32, 33, 34, 35, 36, 37, 38, 39, 40, 41, 42, 43, 44, 45, 46, 47, 48, 49, 50, 51, 52, 53, 54, 55, 56, 57, 58, 59] rfl (by decide +kernel)
set_option maxRecDepth 20000 in
theorem gX12_findHistories_X12_then : GoodIn wsX12_findHistories (wsV RX12 233 RX12 yX12_then wsX12_then) := goodIn_app (goodIn_of _ (by decide +kernel)) ggX12_findHistories_X12_then
theorem dX12_findHistories_0 : decode cX12_findHistories 0 = .ok (.aload_n 0, 1) := by decide +kernel
theorem dX12_findHistories_1 : decode cX12_findHistories 1 = .ok (.getfield 7, 3) := by decide +kernel
theorem dX12_findHistories_4 : decode cX12_findHistories 4 = .ok (.bipush 31, 2) := by decide +kernel
theorem dX12_findHistories_6 : decode cX12_findHistories 6 = .ok (.iaload, 1) := by decide +kernel
theorem dX12_findHistories_7 : decode cX12_findHistories 7 = .ok (.istore_n 1, 1) := by decide +kernel
theorem dX12_findHistories_8 : decode cX12_findHistories 8 = .ok (.iconst 0, 1) := by decide +kernel
theorem dX12_findHistories_9 : decode cX12_findHistories 9 = .ok (.istore_n 2, 1) := by decide +kernel
theorem dX12_findHistories_10 : decode cX12_findHistories 10 = .ok (.iload_n 2, 1) := by decide +kernel
theorem dX12_findHistories_11 : decode cX12_findHistories 11 = .ok (.bipush 49, 2) := by decide +kernel
theorem dX12_findHistories_13 : decode cX12_findHistories 13 = .ok (.if_icmp .ge 21, 3) := by decide +kernel
theorem dX12_findHistories_16 : decode cX12_findHistories 16 = .ok (.aload_n 0, 1) := by decide +kernel
theorem dX12_findHistories_17 : decode cX12_findHistories 17 = .ok (.getfield 60, 3) := by decide +kernel
theorem dX12_findHistories_20 : decode cX12_findHistories 20 = .ok (.bipush 49, 2) := by decide +kernel
theorem dX12_findHistories_22 : decode cX12_findHistories 22 = .ok (.iload_n 1, 1) := by decide +kernel
theorem dX12_findHistories_23 : decode cX12_findHistories 23 = .ok (.imul, 1) := by decide +kernel
theorem dX12_findHistories_24 : decode cX12_findHistories 24 = .ok (.iload_n 2, 1) := by decide +kernel
theorem dX12_findHistories_25 : decode cX12_findHistories 25 = .ok (.iadd, 1) := by decide +kernel
theorem dX12_findHistories_26 : decode cX12_findHistories 26 = .ok (.iconst 1, 1) := by decide +kernel
theorem dX12_findHistories_27 : decode cX12_findHistories 27 = .ok (.iastore, 1) := by decide +kernel
theorem dX12_findHistories_28 : decode cX12_findHistories 28 = .ok (.iinc 2 1, 3) := by decide +kernel
theorem dX12_findHistories_31 : decode cX12_findHistories 31 = .ok (.goto (-21), 3) := by decide +kernel
theorem dX12_findHistories_34 : decode cX12_findHistories 34 = .ok (.iload_n 1, 1) := by decide +kernel
theorem dX12_findHistories_35 : decode cX12_findHistories 35 = .ok (.iconst 1, 1) := by decide +kernel
theorem dX12_findHistories_36 : decode cX12_findHistories 36 = .ok (.isub, 1) := by decide +kernel
theorem dX12_findHistories_37 : decode cX12_findHistories 37 = .ok (.istore_n 2, 1) := by decide +kernel
theorem dX12_findHistories_38 : decode cX12_findHistories 38 = .ok (.iload_n 2, 1) := by decide +kernel
theorem dX12_findHistories_39 : decode cX12_findHistories 39 = .ok (.ifCond .lt 134, 3) := by decide +kernel
theorem dX12_findHistories_42 : decode cX12_findHistories 42 = .ok (.iconst 0, 1) := by decide +kernel
theorem dX12_findHistories_43 : decode cX12_findHistories 43 = .ok (.istore_n 3, 1) := by decide +kernel
theorem dX12_findHistories_44 : decode cX12_findHistories 44 = .ok (.iload_n 3, 1) := by decide +kernel
theorem dX12_findHistories_45 : decode cX12_findHistories 45 = .ok (.bipush 49, 2) := by decide +kernel
theorem dX12_findHistories_47 : decode cX12_findHistories 47 = .ok (.if_icmp .ge 120, 3) := by decide +kernel
theorem dX12_findHistories_50 : decode cX12_findHistories 50 = .ok (.aload_n 0, 1) := by decide +kernel
theorem dX12_findHistories_51 : decode cX12_findHistories 51 = .ok (.getfield 60, 3) := by decide +kernel
theorem dX12_findHistories_54 : decode cX12_findHistories 54 = .ok (.bipush 49, 2) := by decide +kernel
theorem dX12_findHistories_56 : decode cX12_findHistories 56 = .ok (.iload_n 2, 1) := by decide +kernel
theorem dX12_findHistories_57 : decode cX12_findHistories 57 = .ok (.imul, 1) := by decide +kernel
theorem dX12_findHistories_58 : decode cX12_findHistories 58 = .ok (.iload_n 3, 1) := by decide +kernel
theorem dX12_findHistories_59 : decode cX12_findHistories 59 = .ok (.iadd, 1) := by decide +kernel
theorem dX12_findHistories_60 : decode cX12_findHistories 60 = .ok (.iconst 0, 1) := by decide +kernel
theorem dX12_findHistories_61 : decode cX12_findHistories 61 = .ok (.iastore, 1) := by decide +kernel
theorem dX12_findHistories_62 : decode cX12_findHistories 62 = .ok (.iconst 0, 1) := by decide +kernel
theorem dX12_findHistories_63 : decode cX12_findHistories 63 = .ok (.istore 4, 2) := by decide +kernel
theorem dX12_findHistories_65 : decode cX12_findHistories 65 = .ok (.iload 4, 2) := by decide +kernel
theorem dX12_findHistories_67 : decode cX12_findHistories 67 = .ok (.aload_n 0, 1) := by decide +kernel
theorem dX12_findHistories_68 : decode cX12_findHistories 68 = .ok (.getfield 103, 3) := by decide +kernel
theorem dX12_findHistories_71 : decode cX12_findHistories 71 = .ok (.if_icmp .ge 90, 3) := by decide +kernel
theorem dX12_findHistories_74 : decode cX12_findHistories 74 = .ok (.iload_n 3, 1) := by decide +kernel
theorem dX12_findHistories_75 : decode cX12_findHistories 75 = .ok (.bipush 7, 2) := by decide +kernel
theorem dX12_findHistories_77 : decode cX12_findHistories 77 = .ok (.irem, 1) := by decide +kernel
theorem dX12_findHistories_78 : decode cX12_findHistories 78 = .ok (.aload_n 0, 1) := by decide +kernel
theorem dX12_findHistories_79 : decode cX12_findHistories 79 = .ok (.getfield 100, 3) := by decide +kernel
theorem dX12_findHistories_82 : decode cX12_findHistories 82 = .ok (.if_icmp .ge 79, 3) := by decide +kernel
theorem dX12_findHistories_85 : decode cX12_findHistories 85 = .ok (.iload_n 3, 1) := by decide +kernel
theorem dX12_findHistories_86 : decode cX12_findHistories 86 = .ok (.bipush 7, 2) := by decide +kernel
theorem dX12_findHistories_88 : decode cX12_findHistories 88 = .ok (.idiv, 1) := by decide +kernel
theorem dX12_findHistories_89 : decode cX12_findHistories 89 = .ok (.aload_n 0, 1) := by decide +kernel
theorem dX12_findHistories_90 : decode cX12_findHistories 90 = .ok (.getfield 100, 3) := by decide +kernel
theorem dX12_findHistories_93 : decode cX12_findHistories 93 = .ok (.if_icmp .ge 68, 3) := by decide +kernel
theorem dX12_findHistories_96 : decode cX12_findHistories 96 = .ok (.aload_n 0, 1) := by decide +kernel
theorem dX12_findHistories_97 : decode cX12_findHistories 97 = .ok (.iload_n 3, 1) := by decide +kernel
theorem dX12_findHistories_98 : decode cX12_findHistories 98 = .ok (.iload 4, 2) := by decide +kernel
theorem dX12_findHistories_100 : decode cX12_findHistories 100 = .ok (.invokevirtual 233, 3) := by decide +kernel
theorem dX12_findHistories_103 : decode cX12_findHistories 103 = .ok (.istore 5, 2) := by decide +kernel
theorem dX12_findHistories_105 : decode cX12_findHistories 105 = .ok (.aload_n 0, 1) := by decide +kernel
theorem dX12_findHistories_106 : decode cX12_findHistories 106 = .ok (.getfield 60, 3) := by decide +kernel
theorem dX12_findHistories_109 : decode cX12_findHistories 109 = .ok (.bipush 49, 2) := by decide +kernel
theorem dX12_findHistories_111 : decode cX12_findHistories 111 = .ok (.iload_n 2, 1) := by decide +kernel
theorem dX12_findHistories_112 : decode cX12_findHistories 112 = .ok (.imul, 1) := by decide +kernel
theorem dX12_findHistories_113 : decode cX12_findHistories 113 = .ok (.iload_n 3, 1) := by decide +kernel
theorem dX12_findHistories_114 : decode cX12_findHistories 114 = .ok (.iadd, 1) := by decide +kernel
theorem dX12_findHistories_115 : decode cX12_findHistories 115 = .ok (.dup2, 1) := by decide +kernel
theorem dX12_findHistories_116 : decode cX12_findHistories 116 = .ok (.iaload, 1) := by decide +kernel
theorem dX12_findHistories_117 : decode cX12_findHistories 117 = .ok (.iload 5, 2) := by decide +kernel
theorem dX12_findHistories_119 : decode cX12_findHistories 119 = .ok (.bipush 7, 2) := by decide +kernel
theorem dX12_findHistories_121 : decode cX12_findHistories 121 = .ok (.irem, 1) := by decide +kernel
theorem dX12_findHistories_122 : decode cX12_findHistories 122 = .ok (.aload_n 0, 1) := by decide +kernel
theorem dX12_findHistories_123 : decode cX12_findHistories 123 = .ok (.getfield 7, 3) := by decide +kernel
theorem dX12_findHistories_126 : decode cX12_findHistories 126 = .ok (.bipush 32, 2) := by decide +kernel
theorem dX12_findHistories_128 : decode cX12_findHistories 128 = .ok (.iload_n 2, 1) := by decide +kernel
theorem dX12_findHistories_129 : decode cX12_findHistories 129 = .ok (.iadd, 1) := by decide +kernel
theorem dX12_findHistories_130 : decode cX12_findHistories 130 = .ok (.iaload, 1) := by decide +kernel
theorem dX12_findHistories_131 : decode cX12_findHistories 131 = .ok (.if_icmp .ne 21, 3) := by decide +kernel
theorem dX12_findHistories_134 : decode cX12_findHistories 134 = .ok (.aload_n 0, 1) := by decide +kernel
theorem dX12_findHistories_135 : decode cX12_findHistories 135 = .ok (.getfield 60, 3) := by decide +kernel
theorem dX12_findHistories_138 : decode cX12_findHistories 138 = .ok (.bipush 49, 2) := by decide +kernel
theorem dX12_findHistories_140 : decode cX12_findHistories 140 = .ok (.iload_n 2, 1) := by decide +kernel
theorem dX12_findHistories_141 : decode cX12_findHistories 141 = .ok (.imul, 1) := by decide +kernel
theorem dX12_findHistories_142 : decode cX12_findHistories 142 = .ok (.bipush 49, 2) := by decide +kernel
theorem dX12_findHistories_144 : decode cX12_findHistories 144 = .ok (.iadd, 1) := by decide +kernel
theorem dX12_findHistories_145 : decode cX12_findHistories 145 = .ok (.iload 5, 2) := by decide +kernel
theorem dX12_findHistories_147 : decode cX12_findHistories 147 = .ok (.iadd, 1) := by decide +kernel
theorem dX12_findHistories_148 : decode cX12_findHistories 148 = .ok (.iaload, 1) := by decide +kernel
theorem dX12_findHistories_149 : decode cX12_findHistories 149 = .ok (.goto 4, 3) := by decide +kernel
theorem dX12_findHistories_152 : decode cX12_findHistories 152 = .ok (.iconst 0, 1) := by decide +kernel
theorem dX12_findHistories_153 : decode cX12_findHistories 153 = .ok (.iadd, 1) := by decide +kernel
theorem dX12_findHistories_154 : decode cX12_findHistories 154 = .ok (.iastore, 1) := by decide +kernel
theorem dX12_findHistories_155 : decode cX12_findHistories 155 = .ok (.iinc 4 1, 3) := by decide +kernel
theorem dX12_findHistories_158 : decode cX12_findHistories 158 = .ok (.goto (-93), 3) := by decide +kernel
theorem dX12_findHistories_161 : decode cX12_findHistories 161 = .ok (.iinc 3 1, 3) := by decide +kernel
theorem dX12_findHistories_164 : decode cX12_findHistories 164 = .ok (.goto (-120), 3) := by decide +kernel
theorem dX12_findHistories_167 : decode cX12_findHistories 167 = .ok (.iinc 2 (-1), 3) := by decide +kernel
theorem dX12_findHistories_170 : decode cX12_findHistories 170 = .ok (.goto (-132), 3) := by decide +kernel
theorem dX12_findHistories_173 : decode cX12_findHistories 173 = .ok (.return_, 1) := by decide +kernel
set_option maxRecDepth 20000 in
theorem ggX12_canGo_X12_then : GoodIn wsX12_canGo wsX12_then := goodIn_r _ [7, 8, 9, 10, 11, 6, 12, 13, 14, 15, 16, 17, 18, 1, 19, 20, 21, 22, 23, 24, 25, 26, 27, 28, 29, 30, 31, 32, 33, 34, 35, 36, 37, 38, 39, 40, 41, 42, 43, 44, 45, 46, 47, 48, 49, 50, 51, 52, 53, 54, 55, 56, 57, 58] rfl (by decide +kernel)
set_option maxRecDepth 20000 in
theorem gX12_canGo_X12_then : GoodIn wsX12_canGo (wsV RX12 233 RX12 yX12_then wsX12_then) := goodIn_app (goodIn_of _ (by decide +kernel)) ggX12_canGo_X12_then
theorem dX12_canGo_0 : decode cX12_canGo 0 = .ok (.aload_n 0, 1) := by decide +kernel
theorem dX12_canGo_1 : decode cX12_canGo 1 = .ok (.iload_n 2, 1) := by decide +kernel
theorem dX12_canGo_2 : decode cX12_canGo 2 = .ok (.iload_n 3, 1) := by decide +kernel
theorem dX12_canGo_3 : decode cX12_canGo 3 = .ok (.invokevirtual 233, 3) := by decide +kernel
theorem dX12_canGo_6 : decode cX12_canGo 6 = .ok (.istore 4, 2) := by decide +kernel
theorem dX12_canGo_8 : decode cX12_canGo 8 = .ok (.iload 4, 2) := by decide +kernel
theorem dX12_canGo_10 : decode cX12_canGo 10 = .ok (.bipush 7, 2) := by decide +kernel
theorem dX12_canGo_12 : decode cX12_canGo 12 = .ok (.irem, 1) := by decide +kernel
theorem dX12_canGo_13 : decode cX12_canGo 13 = .ok (.aload_n 0, 1) := by decide +kernel
theorem dX12_canGo_14 : decode cX12_canGo 14 = .ok (.getfield 7, 3) := by decide +kernel
theorem dX12_canGo_17 : decode cX12_canGo 17 = .ok (.bipush 32, 2) := by decide +kernel
theorem dX12_canGo_19 : decode cX12_canGo 19 = .ok (.iload_n 1, 1) := by decide +kernel
theorem dX12_canGo_20 : decode cX12_canGo 20 = .ok (.iadd, 1) := by decide +kernel
theorem dX12_canGo_21 : decode cX12_canGo 21 = .ok (.iaload, 1) := by decide +kernel
theorem dX12_canGo_22 : decode cX12_canGo 22 = .ok (.if_icmp .ne 25, 3) := by decide +kernel
theorem dX12_canGo_25 : decode cX12_canGo 25 = .ok (.aload_n 0, 1) := by decide +kernel
theorem dX12_canGo_26 : decode cX12_canGo 26 = .ok (.getfield 60, 3) := by decide +kernel
theorem dX12_canGo_29 : decode cX12_canGo 29 = .ok (.bipush 49, 2) := by decide +kernel
theorem dX12_canGo_31 : decode cX12_canGo 31 = .ok (.iload_n 1, 1) := by decide +kernel
theorem dX12_canGo_32 : decode cX12_canGo 32 = .ok (.imul, 1) := by decide +kernel
theorem dX12_canGo_33 : decode cX12_canGo 33 = .ok (.bipush 49, 2) := by decide +kernel
theorem dX12_canGo_35 : decode cX12_canGo 35 = .ok (.iadd, 1) := by decide +kernel
theorem dX12_canGo_36 : decode cX12_canGo 36 = .ok (.iload 4, 2) := by decide +kernel
theorem dX12_canGo_38 : decode cX12_canGo 38 = .ok (.iadd, 1) := by decide +kernel
theorem dX12_canGo_39 : decode cX12_canGo 39 = .ok (.iaload, 1) := by decide +kernel
theorem dX12_canGo_40 : decode cX12_canGo 40 = .ok (.ifCond .le 7, 3) := by decide +kernel
theorem dX12_canGo_43 : decode cX12_canGo 43 = .ok (.iconst 1, 1) := by decide +kernel
