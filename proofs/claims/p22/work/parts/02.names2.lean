theorem dX6_addStir_12 : decode cX6_addStir 12 = .ok (.aload_n 0, 1) := by decide +kernel
theorem dX6_addStir_13 : decode cX6_addStir 13 = .ok (.getfield 15, 3) := by decide +kernel
theorem dX6_addStir_16 : decode cX6_addStir 16 = .ok (.iload_n 1, 1) := by decide +kernel
theorem dX6_addStir_17 : decode cX6_addStir 17 = .ok (.iastore, 1) := by decide +kernel
theorem dX6_addStir_18 : decode cX6_addStir 18 = .ok (.aload_n 0, 1) := by decide +kernel
theorem dX6_addStir_19 : decode cX6_addStir 19 = .ok (.getfield 25, 3) := by decide +kernel
theorem dX6_addStir_22 : decode cX6_addStir 22 = .ok (.aload_n 0, 1) := by decide +kernel
theorem dX6_addStir_23 : decode cX6_addStir 23 = .ok (.getfield 15, 3) := by decide +kernel
theorem dX6_addStir_26 : decode cX6_addStir 26 = .ok (.iload_n 2, 1) := by decide +kernel
theorem dX6_addStir_27 : decode cX6_addStir 27 = .ok (.iastore, 1) := by decide +kernel
theorem dX6_addStir_28 : decode cX6_addStir 28 = .ok (.aload_n 0, 1) := by decide +kernel
theorem dX6_addStir_29 : decode cX6_addStir 29 = .ok (.getfield 28, 3) := by decide +kernel
theorem dX6_addStir_32 : decode cX6_addStir 32 = .ok (.aload_n 0, 1) := by decide +kernel
theorem dX6_addStir_33 : decode cX6_addStir 33 = .ok (.getfield 15, 3) := by decide +kernel
theorem dX6_addStir_36 : decode cX6_addStir 36 = .ok (.iload_n 3, 1) := by decide +kernel
theorem dX6_addStir_37 : decode cX6_addStir 37 = .ok (.iastore, 1) := by decide +kernel
theorem dX6_addStir_38 : decode cX6_addStir 38 = .ok (.aload_n 0, 1) := by decide +kernel
theorem dX6_addStir_39 : decode cX6_addStir 39 = .ok (.dup, 1) := by decide +kernel
theorem dX6_addStir_40 : decode cX6_addStir 40 = .ok (.getfield 15, 3) := by decide +kernel
theorem dX6_addStir_43 : decode cX6_addStir 43 = .ok (.iconst 1, 1) := by decide +kernel
theorem dX6_addStir_44 : decode cX6_addStir 44 = .ok (.iadd, 1) := by decide +kernel
theorem dX6_addStir_45 : decode cX6_addStir 45 = .ok (.putfield 15, 3) := by decide +kernel
theorem dX6_addStir_48 : decode cX6_addStir 48 = .ok (.return_, 1) := by decide +kernel
set_option maxRecDepth 20000 in
theorem ggX6_workOutStirs_X6_workOut : GoodIn wsX6_workOutStirs wsX6_workOut := goodIn_r _ [8, 9, 10, 2, 11, 12, 13, 14, 7, 15, 16, 17, 18, 19, 20, 21, 22, 23, 24, 25, 26, 27, 28] rfl (by decide +kernel)
set_option maxRecDepth 20000 in
theorem gX6_workOutStirs_X6_workOut : GoodIn wsX6_workOutStirs (wsV RX6 46 RX6 yX6_workOut wsX6_workOut) := goodIn_app (goodIn_of _ (by decide +kernel)) ggX6_workOutStirs_X6_workOut
theorem dX6_workOutStirs_0 : decode cX6_workOutStirs 0 = .ok (.iconst 0, 1) := by decide +kernel
theorem dX6_workOutStirs_1 : decode cX6_workOutStirs 1 = .ok (.istore_n 1, 1) := by decide +kernel
theorem dX6_workOutStirs_2 : decode cX6_workOutStirs 2 = .ok (.iload_n 1, 1) := by decide +kernel
theorem dX6_workOutStirs_3 : decode cX6_workOutStirs 3 = .ok (.aload_n 0, 1) := by decide +kernel
theorem dX6_workOutStirs_4 : decode cX6_workOutStirs 4 = .ok (.getfield 15, 3) := by decide +kernel
theorem dX6_workOutStirs_7 : decode cX6_workOutStirs 7 = .ok (.if_icmp .ge 42, 3) := by decide +kernel
theorem dX6_workOutStirs_10 : decode cX6_workOutStirs 10 = .ok (.iconst 0, 1) := by decide +kernel
theorem dX6_workOutStirs_11 : decode cX6_workOutStirs 11 = .ok (.istore_n 2, 1) := by decide +kernel
theorem dX6_workOutStirs_12 : decode cX6_workOutStirs 12 = .ok (.iload_n 2, 1) := by decide +kernel
theorem dX6_workOutStirs_13 : decode cX6_workOutStirs 13 = .ok (.aload_n 0, 1) := by decide +kernel
theorem dX6_workOutStirs_14 : decode cX6_workOutStirs 14 = .ok (.getfield 9, 3) := by decide +kernel
theorem dX6_workOutStirs_17 : decode cX6_workOutStirs 17 = .ok (.if_icmp .ge 26, 3) := by decide +kernel
theorem dX6_workOutStirs_20 : decode cX6_workOutStirs 20 = .ok (.aload_n 0, 1) := by decide +kernel
theorem dX6_workOutStirs_21 : decode cX6_workOutStirs 21 = .ok (.getfield 31, 3) := by decide +kernel
theorem dX6_workOutStirs_24 : decode cX6_workOutStirs 24 = .ok (.iload_n 1, 1) := by decide +kernel
theorem dX6_workOutStirs_25 : decode cX6_workOutStirs 25 = .ok (.bipush 7, 2) := by decide +kernel
theorem dX6_workOutStirs_27 : decode cX6_workOutStirs 27 = .ok (.imul, 1) := by decide +kernel
theorem dX6_workOutStirs_28 : decode cX6_workOutStirs 28 = .ok (.iload_n 2, 1) := by decide +kernel
theorem dX6_workOutStirs_29 : decode cX6_workOutStirs 29 = .ok (.iadd, 1) := by decide +kernel
theorem dX6_workOutStirs_30 : decode cX6_workOutStirs 30 = .ok (.aload_n 0, 1) := by decide +kernel
theorem dX6_workOutStirs_31 : decode cX6_workOutStirs 31 = .ok (.iload_n 1, 1) := by decide +kernel
theorem dX6_workOutStirs_32 : decode cX6_workOutStirs 32 = .ok (.iload_n 2, 1) := by decide +kernel
theorem dX6_workOutStirs_33 : decode cX6_workOutStirs 33 = .ok (.invokevirtual 46, 3) := by decide +kernel
theorem dX6_workOutStirs_36 : decode cX6_workOutStirs 36 = .ok (.iastore, 1) := by decide +kernel
theorem dX6_workOutStirs_37 : decode cX6_workOutStirs 37 = .ok (.iinc 2 1, 3) := by decide +kernel
theorem dX6_workOutStirs_40 : decode cX6_workOutStirs 40 = .ok (.goto (-28), 3) := by decide +kernel
theorem dX6_workOutStirs_43 : decode cX6_workOutStirs 43 = .ok (.iinc 1 1, 3) := by decide +kernel
theorem dX6_workOutStirs_46 : decode cX6_workOutStirs 46 = .ok (.goto (-44), 3) := by decide +kernel
theorem dX6_workOutStirs_49 : decode cX6_workOutStirs 49 = .ok (.return_, 1) := by decide +kernel
set_option maxRecDepth 20000 in
theorem ggX6_workOut_X6_inRing : GoodIn wsX6_workOut wsX6_inRing := goodIn_r _ [9, 3, 16, 17, 18, 19, 20, 21, 22] rfl (by decide +kernel)
set_option maxRecDepth 20000 in
theorem gX6_workOut_X6_inRing : GoodIn wsX6_workOut (wsV RX6 50 RX6 yX6_inRing wsX6_inRing) := goodIn_app (goodIn_of _ (by decide +kernel)) ggX6_workOut_X6_inRing
set_option maxRecDepth 20000 in
theorem ggX6_workOut_X6_swapped : GoodIn wsX6_workOut wsX6_swapped := goodIn_r _ [12] rfl (by decide +kernel)
set_option maxRecDepth 20000 in
theorem gX6_workOut_X6_swapped : GoodIn wsX6_workOut (va_wsS RX6 54 yX6_swapped wsX6_swapped) := goodIn_app (goodIn_of _ (by decide +kernel)) ggX6_workOut_X6_swapped
set_option maxRecDepth 20000 in
theorem ggX6_workOut_X6_lifted : GoodIn wsX6_workOut wsX6_lifted := goodIn_r _ [15] rfl (by decide +kernel)
set_option maxRecDepth 20000 in
theorem gX6_workOut_X6_lifted : GoodIn wsX6_workOut (va_wsS RX6 58 yX6_lifted wsX6_lifted) := goodIn_app (goodIn_of _ (by decide +kernel)) ggX6_workOut_X6_lifted
theorem dX6_workOut_0 : decode cX6_workOut 0 = .ok (.aload_n 0, 1) := by decide +kernel
theorem dX6_workOut_1 : decode cX6_workOut 1 = .ok (.getfield 22, 3) := by decide +kernel
theorem dX6_workOut_4 : decode cX6_workOut 4 = .ok (.iload_n 1, 1) := by decide +kernel
theorem dX6_workOut_5 : decode cX6_workOut 5 = .ok (.iaload, 1) := by decide +kernel
theorem dX6_workOut_6 : decode cX6_workOut 6 = .ok (.tableswitch 65 7 9 #[26, 39, 48], 26) := by decide +kernel
theorem dX6_workOut_32 : decode cX6_workOut 32 = .ok (.aload_n 0, 1) := by decide +kernel
theorem dX6_workOut_33 : decode cX6_workOut 33 = .ok (.iload_n 2, 1) := by decide +kernel
theorem dX6_workOut_34 : decode cX6_workOut 34 = .ok (.aload_n 0, 1) := by decide +kernel
theorem dX6_workOut_35 : decode cX6_workOut 35 = .ok (.getfield 25, 3) := by decide +kernel
theorem dX6_workOut_38 : decode cX6_workOut 38 = .ok (.iload_n 1, 1) := by decide +kernel
theorem dX6_workOut_39 : decode cX6_workOut 39 = .ok (.iaload, 1) := by decide +kernel
theorem dX6_workOut_40 : decode cX6_workOut 40 = .ok (.iadd, 1) := by decide +kernel
theorem dX6_workOut_41 : decode cX6_workOut 41 = .ok (.invokevirtual 50, 3) := by decide +kernel
theorem dX6_workOut_44 : decode cX6_workOut 44 = .ok (.ireturn, 1) := by decide +kernel
theorem dX6_workOut_45 : decode cX6_workOut 45 = .ok (.aload_n 0, 1) := by decide +kernel
theorem dX6_workOut_46 : decode cX6_workOut 46 = .ok (.getfield 9, 3) := by decide +kernel
theorem dX6_workOut_49 : decode cX6_workOut 49 = .ok (.iconst 1, 1) := by decide +kernel
theorem dX6_workOut_50 : decode cX6_workOut 50 = .ok (.isub, 1) := by decide +kernel
theorem dX6_workOut_51 : decode cX6_workOut 51 = .ok (.iload_n 2, 1) := by decide +kernel
theorem dX6_workOut_52 : decode cX6_workOut 52 = .ok (.isub, 1) := by decide +kernel
theorem dX6_workOut_53 : decode cX6_workOut 53 = .ok (.ireturn, 1) := by decide +kernel
theorem dX6_workOut_54 : decode cX6_workOut 54 = .ok (.iload_n 2, 1) := by decide +kernel
theorem dX6_workOut_55 : decode cX6_workOut 55 = .ok (.aload_n 0, 1) := by decide +kernel
theorem dX6_workOut_56 : decode cX6_workOut 56 = .ok (.getfield 25, 3) := by decide +kernel
theorem dX6_workOut_59 : decode cX6_workOut 59 = .ok (.iload_n 1, 1) := by decide +kernel
theorem dX6_workOut_60 : decode cX6_workOut 60 = .ok (.iaload, 1) := by decide +kernel
theorem dX6_workOut_61 : decode cX6_workOut 61 = .ok (.aload_n 0, 1) := by decide +kernel
theorem dX6_workOut_62 : decode cX6_workOut 62 = .ok (.getfield 28, 3) := by decide +kernel
theorem dX6_workOut_65 : decode cX6_workOut 65 = .ok (.iload_n 1, 1) := by decide +kernel
theorem dX6_workOut_66 : decode cX6_workOut 66 = .ok (.iaload, 1) := by decide +kernel
theorem dX6_workOut_67 : decode cX6_workOut 67 = .ok (.invokestatic 54, 3) := by decide +kernel
theorem dX6_workOut_70 : decode cX6_workOut 70 = .ok (.ireturn, 1) := by decide +kernel
theorem dX6_workOut_71 : decode cX6_workOut 71 = .ok (.iload_n 2, 1) := by decide +kernel
theorem dX6_workOut_72 : decode cX6_workOut 72 = .ok (.aload_n 0, 1) := by decide +kernel
theorem dX6_workOut_73 : decode cX6_workOut 73 = .ok (.getfield 25, 3) := by decide +kernel
theorem dX6_workOut_76 : decode cX6_workOut 76 = .ok (.iload_n 1, 1) := by decide +kernel
theorem dX6_workOut_77 : decode cX6_workOut 77 = .ok (.iaload, 1) := by decide +kernel
theorem dX6_workOut_78 : decode cX6_workOut 78 = .ok (.invokestatic 58, 3) := by decide +kernel
theorem dX6_workOut_81 : decode cX6_workOut 81 = .ok (.ireturn, 1) := by decide +kernel
theorem dX6_swapped_0 : decode cX6_swapped 0 = .ok (.iload_n 0, 1) := by decide +kernel
theorem dX6_swapped_1 : decode cX6_swapped 1 = .ok (.iload_n 1, 1) := by decide +kernel
theorem dX6_swapped_2 : decode cX6_swapped 2 = .ok (.if_icmp .ne 5, 3) := by decide +kernel
theorem dX6_swapped_5 : decode cX6_swapped 5 = .ok (.iload_n 2, 1) := by decide +kernel
theorem dX6_swapped_6 : decode cX6_swapped 6 = .ok (.ireturn, 1) := by decide +kernel
theorem dX6_swapped_7 : decode cX6_swapped 7 = .ok (.iload_n 0, 1) := by decide +kernel
theorem dX6_swapped_8 : decode cX6_swapped 8 = .ok (.iload_n 2, 1) := by decide +kernel
theorem dX6_swapped_9 : decode cX6_swapped 9 = .ok (.if_icmp .ne 7, 3) := by decide +kernel
theorem dX6_swapped_12 : decode cX6_swapped 12 = .ok (.iload_n 1, 1) := by decide +kernel
theorem dX6_swapped_13 : decode cX6_swapped 13 = .ok (.goto 4, 3) := by decide +kernel
theorem dX6_swapped_16 : decode cX6_swapped 16 = .ok (.iload_n 0, 1) := by decide +kernel
theorem dX6_swapped_17 : decode cX6_swapped 17 = .ok (.ireturn, 1) := by decide +kernel
theorem dX6_lifted_0 : decode cX6_lifted 0 = .ok (.iload_n 0, 1) := by decide +kernel
theorem dX6_lifted_1 : decode cX6_lifted 1 = .ok (.iload_n 1, 1) := by decide +kernel
theorem dX6_lifted_2 : decode cX6_lifted 2 = .ok (.if_icmp .ne 5, 3) := by decide +kernel
theorem dX6_lifted_5 : decode cX6_lifted 5 = .ok (.iconst 0, 1) := by decide +kernel
theorem dX6_lifted_6 : decode cX6_lifted 6 = .ok (.ireturn, 1) := by decide +kernel
theorem dX6_lifted_7 : decode cX6_lifted 7 = .ok (.iload_n 0, 1) := by decide +kernel
theorem dX6_lifted_8 : decode cX6_lifted 8 = .ok (.iload_n 1, 1) := by decide +kernel
theorem dX6_lifted_9 : decode cX6_lifted 9 = .ok (.if_icmp .ge 9, 3) := by decide +kernel
theorem dX6_lifted_12 : decode cX6_lifted 12 = .ok (.iload_n 0, 1) := by decide +kernel
theorem dX6_lifted_13 : decode cX6_lifted 13 = .ok (.iconst 1, 1) := by decide +kernel
theorem dX6_lifted_14 : decode cX6_lifted 14 = .ok (.iadd, 1) := by decide +kernel
theorem dX6_lifted_15 : decode cX6_lifted 15 = .ok (.goto 4, 3) := by decide +kernel
theorem dX6_lifted_18 : decode cX6_lifted 18 = .ok (.iload_n 0, 1) := by decide +kernel
theorem dX6_lifted_19 : decode cX6_lifted 19 = .ok (.ireturn, 1) := by decide +kernel
theorem dX6_inRing_0 : decode cX6_inRing 0 = .ok (.iload_n 1, 1) := by decide +kernel
theorem dX6_inRing_1 : decode cX6_inRing 1 = .ok (.istore_n 2, 1) := by decide +kernel
theorem dX6_inRing_2 : decode cX6_inRing 2 = .ok (.iconst 0, 1) := by decide +kernel
theorem dX6_inRing_3 : decode cX6_inRing 3 = .ok (.istore_n 3, 1) := by decide +kernel
theorem dX6_inRing_4 : decode cX6_inRing 4 = .ok (.iload_n 3, 1) := by decide +kernel
theorem dX6_inRing_5 : decode cX6_inRing 5 = .ok (.bipush 7, 2) := by decide +kernel
theorem dX6_inRing_7 : decode cX6_inRing 7 = .ok (.if_icmp .ge 24, 3) := by decide +kernel
theorem dX6_inRing_10 : decode cX6_inRing 10 = .ok (.iload_n 2, 1) := by decide +kernel
theorem dX6_inRing_11 : decode cX6_inRing 11 = .ok (.aload_n 0, 1) := by decide +kernel
theorem dX6_inRing_12 : decode cX6_inRing 12 = .ok (.getfield 9, 3) := by decide +kernel
theorem dX6_inRing_15 : decode cX6_inRing 15 = .ok (.if_icmp .lt 16, 3) := by decide +kernel
theorem dX6_inRing_18 : decode cX6_inRing 18 = .ok (.iload_n 2, 1) := by decide +kernel
theorem dX6_inRing_19 : decode cX6_inRing 19 = .ok (.aload_n 0, 1) := by decide +kernel
theorem dX6_inRing_20 : decode cX6_inRing 20 = .ok (.getfield 9, 3) := by decide +kernel
theorem dX6_inRing_23 : decode cX6_inRing 23 = .ok (.isub, 1) := by decide +kernel
theorem dX6_inRing_24 : decode cX6_inRing 24 = .ok (.istore_n 2, 1) := by decide +kernel
theorem dX6_inRing_25 : decode cX6_inRing 25 = .ok (.iinc 3 1, 3) := by decide +kernel
theorem dX6_inRing_28 : decode cX6_inRing 28 = .ok (.goto (-24), 3) := by decide +kernel
theorem dX6_inRing_31 : decode cX6_inRing 31 = .ok (.iload_n 2, 1) := by decide +kernel
theorem dX6_inRing_32 : decode cX6_inRing 32 = .ok (.ireturn, 1) := by decide +kernel
theorem dX6_placeAfter_0 : decode cX6_placeAfter 0 = .ok (.aload_n 0, 1) := by decide +kernel
theorem dX6_placeAfter_1 : decode cX6_placeAfter 1 = .ok (.getfield 31, 3) := by decide +kernel
theorem dX6_placeAfter_4 : decode cX6_placeAfter 4 = .ok (.iload_n 1, 1) := by decide +kernel
theorem dX6_placeAfter_5 : decode cX6_placeAfter 5 = .ok (.bipush 7, 2) := by decide +kernel
theorem dX6_placeAfter_7 : decode cX6_placeAfter 7 = .ok (.imul, 1) := by decide +kernel
theorem dX6_placeAfter_8 : decode cX6_placeAfter 8 = .ok (.iload_n 2, 1) := by decide +kernel
theorem dX6_placeAfter_9 : decode cX6_placeAfter 9 = .ok (.iadd, 1) := by decide +kernel
theorem dX6_placeAfter_10 : decode cX6_placeAfter 10 = .ok (.iaload, 1) := by decide +kernel
theorem dX6_placeAfter_11 : decode cX6_placeAfter 11 = .ok (.ireturn, 1) := by decide +kernel
set_option maxRecDepth 20000 in
theorem ggX6_stirInto_X6_placeAfter : GoodIn wsX6_stirInto wsX6_placeAfter := goodIn_r _ [6, 7, 8, 9, 10, 11, 12, 13, 14] rfl (by decide +kernel)
set_option maxRecDepth 20000 in
theorem gX6_stirInto_X6_placeAfter : GoodIn wsX6_stirInto (wsV RX6 61 RX6 yX6_placeAfter wsX6_placeAfter) := goodIn_app (goodIn_of _ (by decide +kernel)) ggX6_stirInto_X6_placeAfter
theorem dX6_stirInto_0 : decode cX6_stirInto 0 = .ok (.iconst 0, 1) := by decide +kernel
theorem dX6_stirInto_1 : decode cX6_stirInto 1 = .ok (.istore 4, 2) := by decide +kernel
theorem dX6_stirInto_3 : decode cX6_stirInto 3 = .ok (.iload 4, 2) := by decide +kernel
theorem dX6_stirInto_5 : decode cX6_stirInto 5 = .ok (.aload_n 0, 1) := by decide +kernel
theorem dX6_stirInto_6 : decode cX6_stirInto 6 = .ok (.getfield 9, 3) := by decide +kernel
theorem dX6_stirInto_9 : decode cX6_stirInto 9 = .ok (.if_icmp .ge 22, 3) := by decide +kernel
theorem dX6_stirInto_12 : decode cX6_stirInto 12 = .ok (.aload_n 3, 1) := by decide +kernel
theorem dX6_stirInto_13 : decode cX6_stirInto 13 = .ok (.aload_n 0, 1) := by decide +kernel
theorem dX6_stirInto_14 : decode cX6_stirInto 14 = .ok (.iload_n 1, 1) := by decide +kernel
theorem dX6_stirInto_15 : decode cX6_stirInto 15 = .ok (.iload 4, 2) := by decide +kernel
theorem dX6_stirInto_17 : decode cX6_stirInto 17 = .ok (.invokevirtual 61, 3) := by decide +kernel
theorem dX6_stirInto_20 : decode cX6_stirInto 20 = .ok (.aload_n 2, 1) := by decide +kernel
theorem dX6_stirInto_21 : decode cX6_stirInto 21 = .ok (.iload 4, 2) := by decide +kernel
theorem dX6_stirInto_23 : decode cX6_stirInto 23 = .ok (.iaload, 1) := by decide +kernel
theorem dX6_stirInto_24 : decode cX6_stirInto 24 = .ok (.iastore, 1) := by decide +kernel
theorem dX6_stirInto_25 : decode cX6_stirInto 25 = .ok (.iinc 4 1, 3) := by decide +kernel
theorem dX6_stirInto_28 : decode cX6_stirInto 28 = .ok (.goto (-25), 3) := by decide +kernel
theorem dX6_stirInto_31 : decode cX6_stirInto 31 = .ok (.return_, 1) := by decide +kernel
theorem dX7_init_0 : decode cX7_init 0 = .ok (.aload_n 0, 1) := by decide +kernel
theorem dX7_init_1 : decode cX7_init 1 = .ok (.invokespecial 3, 3) := by decide +kernel
theorem dX7_init_4 : decode cX7_init 4 = .ok (.aload_n 0, 1) := by decide +kernel
theorem dX7_init_5 : decode cX7_init 5 = .ok (.bipush (-4), 2) := by decide +kernel
theorem dX7_init_7 : decode cX7_init 7 = .ok (.putfield 9, 3) := by decide +kernel
theorem dX7_init_10 : decode cX7_init 10 = .ok (.aload_n 0, 1) := by decide +kernel
theorem dX7_init_11 : decode cX7_init 11 = .ok (.iconst 0, 1) := by decide +kernel
theorem dX7_init_12 : decode cX7_init 12 = .ok (.putfield 15, 3) := by decide +kernel
theorem dX7_init_15 : decode cX7_init 15 = .ok (.aload_n 0, 1) := by decide +kernel
theorem dX7_init_16 : decode cX7_init 16 = .ok (.bipush 40, 2) := by decide +kernel
theorem dX7_init_18 : decode cX7_init 18 = .ok (.newarray .int, 2) := by decide +kernel
theorem dX7_init_20 : decode cX7_init 20 = .ok (.putfield 18, 3) := by decide +kernel
theorem dX7_init_23 : decode cX7_init 23 = .ok (.return_, 1) := by decide +kernel
theorem dX7_isNothing_0 : decode cX7_isNothing 0 = .ok (.aload_n 0, 1) := by decide +kernel
theorem dX7_isNothing_1 : decode cX7_isNothing 1 = .ok (.getfield 9, 3) := by decide +kernel
theorem dX7_isNothing_4 : decode cX7_isNothing 4 = .ok (.bipush (-4), 2) := by decide +kernel
theorem dX7_isNothing_6 : decode cX7_isNothing 6 = .ok (.if_icmp .ne 7, 3) := by decide +kernel
theorem dX7_isNothing_9 : decode cX7_isNothing 9 = .ok (.iconst 1, 1) := by decide +kernel
theorem dX7_isNothing_10 : decode cX7_isNothing 10 = .ok (.goto 4, 3) := by decide +kernel
theorem dX7_isNothing_13 : decode cX7_isNothing 13 = .ok (.iconst 0, 1) := by decide +kernel
theorem dX7_isNothing_14 : decode cX7_isNothing 14 = .ok (.ireturn, 1) := by decide +kernel
set_option maxRecDepth 20000 in
theorem ggX7_renew_J7_fill_53178 : GoodIn wsX7_renew wsJ7_fill_53178 := goodIn_r _ [7] rfl (by decide +kernel)
set_option maxRecDepth 20000 in
theorem gX7_renew_J7_fill_53178 : GoodIn wsX7_renew (va_wsS RX7 22 yJ7_fill_53178 wsJ7_fill_53178) := goodIn_app (goodIn_of _ (by decide +kernel)) ggX7_renew_J7_fill_53178
theorem dX7_renew_0 : decode cX7_renew 0 = .ok (.aload_n 0, 1) := by decide +kernel
theorem dX7_renew_1 : decode cX7_renew 1 = .ok (.iload_n 1, 1) := by decide +kernel
theorem dX7_renew_2 : decode cX7_renew 2 = .ok (.putfield 9, 3) := by decide +kernel
theorem dX7_renew_5 : decode cX7_renew 5 = .ok (.aload_n 0, 1) := by decide +kernel
theorem dX7_renew_6 : decode cX7_renew 6 = .ok (.iload_n 2, 1) := by decide +kernel
theorem dX7_renew_7 : decode cX7_renew 7 = .ok (.putfield 15, 3) := by decide +kernel
theorem dX7_renew_10 : decode cX7_renew 10 = .ok (.aload_n 0, 1) := by decide +kernel
theorem dX7_renew_11 : decode cX7_renew 11 = .ok (.getfield 18, 3) := by decide +kernel
theorem dX7_renew_14 : decode cX7_renew 14 = .ok (.iconst 0, 1) := by decide +kernel
theorem dX7_renew_15 : decode cX7_renew 15 = .ok (.invokestatic 22, 3) := by decide +kernel
theorem dX7_renew_18 : decode cX7_renew 18 = .ok (.return_, 1) := by decide +kernel
set_option maxRecDepth 20000 in
theorem ggX7_faultAt_X7_isNothing : GoodIn wsX7_faultAt wsX7_isNothing := goodIn_r _ [7, 1, 8, 9, 10] rfl (by decide +kernel)
set_option maxRecDepth 20000 in
theorem gX7_faultAt_X7_isNothing : GoodIn wsX7_faultAt (wsV RX7 28 RX7 yX7_isNothing wsX7_isNothing) := goodIn_app (goodIn_of _ (by decide +kernel)) ggX7_faultAt_X7_isNothing
theorem dX7_faultAt_0 : decode cX7_faultAt 0 = .ok (.aload_n 0, 1) := by decide +kernel
theorem dX7_faultAt_1 : decode cX7_faultAt 1 = .ok (.invokevirtual 28, 3) := by decide +kernel
theorem dX7_faultAt_4 : decode cX7_faultAt 4 = .ok (.ifCond .eq 5, 3) := by decide +kernel
theorem dX7_faultAt_7 : decode cX7_faultAt 7 = .ok (.iconst 1, 1) := by decide +kernel
theorem dX7_faultAt_8 : decode cX7_faultAt 8 = .ok (.ireturn, 1) := by decide +kernel
theorem dX7_faultAt_9 : decode cX7_faultAt 9 = .ok (.iload_n 1, 1) := by decide +kernel
theorem dX7_faultAt_10 : decode cX7_faultAt 10 = .ok (.aload_n 0, 1) := by decide +kernel
theorem dX7_faultAt_11 : decode cX7_faultAt 11 = .ok (.getfield 9, 3) := by decide +kernel
theorem dX7_faultAt_14 : decode cX7_faultAt 14 = .ok (.if_icmp .eq 5, 3) := by decide +kernel
theorem dX7_faultAt_17 : decode cX7_faultAt 17 = .ok (.iconst 3, 1) := by decide +kernel
theorem dX7_faultAt_18 : decode cX7_faultAt 18 = .ok (.ireturn, 1) := by decide +kernel
theorem dX7_faultAt_19 : decode cX7_faultAt 19 = .ok (.iload_n 2, 1) := by decide +kernel
theorem dX7_faultAt_20 : decode cX7_faultAt 20 = .ok (.ifCond .lt 11, 3) := by decide +kernel
theorem dX7_faultAt_23 : decode cX7_faultAt 23 = .ok (.iload_n 2, 1) := by decide +kernel
theorem dX7_faultAt_24 : decode cX7_faultAt 24 = .ok (.aload_n 0, 1) := by decide +kernel
theorem dX7_faultAt_25 : decode cX7_faultAt 25 = .ok (.getfield 15, 3) := by decide +kernel
theorem dX7_faultAt_28 : decode cX7_faultAt 28 = .ok (.if_icmp .lt 7, 3) := by decide +kernel
theorem dX7_faultAt_31 : decode cX7_faultAt 31 = .ok (.iconst 2, 1) := by decide +kernel
theorem dX7_faultAt_32 : decode cX7_faultAt 32 = .ok (.goto 4, 3) := by decide +kernel
theorem dX7_faultAt_35 : decode cX7_faultAt 35 = .ok (.iconst 0, 1) := by decide +kernel
theorem dX7_faultAt_36 : decode cX7_faultAt 36 = .ok (.ireturn, 1) := by decide +kernel
theorem dX7_put_0 : decode cX7_put 0 = .ok (.aload_n 0, 1) := by decide +kernel
theorem dX7_put_1 : decode cX7_put 1 = .ok (.getfield 9, 3) := by decide +kernel
theorem dX7_put_4 : decode cX7_put 4 = .ok (.lookupswitch 50 #[(0, 28), (1, 39)], 28) := by decide +kernel
theorem dX7_put_32 : decode cX7_put 32 = .ok (.aload_n 0, 1) := by decide +kernel
theorem dX7_put_33 : decode cX7_put 33 = .ok (.getfield 18, 3) := by decide +kernel
theorem dX7_put_36 : decode cX7_put 36 = .ok (.iload_n 1, 1) := by decide +kernel
theorem dX7_put_37 : decode cX7_put 37 = .ok (.iload_n 2, 1) := by decide +kernel
theorem dX7_put_38 : decode cX7_put 38 = .ok (.i2b, 1) := by decide +kernel
theorem dX7_put_39 : decode cX7_put 39 = .ok (.iastore, 1) := by decide +kernel
theorem dX7_put_40 : decode cX7_put 40 = .ok (.goto 21, 3) := by decide +kernel
theorem dX7_put_43 : decode cX7_put 43 = .ok (.aload_n 0, 1) := by decide +kernel
theorem dX7_put_44 : decode cX7_put 44 = .ok (.getfield 18, 3) := by decide +kernel
theorem dX7_put_47 : decode cX7_put 47 = .ok (.iload_n 1, 1) := by decide +kernel
theorem dX7_put_48 : decode cX7_put 48 = .ok (.iload_n 2, 1) := by decide +kernel
theorem dX7_put_49 : decode cX7_put 49 = .ok (.i2s, 1) := by decide +kernel
theorem dX7_put_50 : decode cX7_put 50 = .ok (.iastore, 1) := by decide +kernel
theorem dX7_put_51 : decode cX7_put 51 = .ok (.goto 10, 3) := by decide +kernel
theorem dX7_put_54 : decode cX7_put 54 = .ok (.aload_n 0, 1) := by decide +kernel
theorem dX7_put_55 : decode cX7_put 55 = .ok (.getfield 18, 3) := by decide +kernel
theorem dX7_put_58 : decode cX7_put 58 = .ok (.iload_n 1, 1) := by decide +kernel
theorem dX7_put_59 : decode cX7_put 59 = .ok (.iload_n 2, 1) := by decide +kernel
theorem dX7_put_60 : decode cX7_put 60 = .ok (.iastore, 1) := by decide +kernel
theorem dX7_put_61 : decode cX7_put 61 = .ok (.return_, 1) := by decide +kernel
set_option maxRecDepth 20000 in
theorem ggX8_init_J7_fill_53178 : GoodIn wsX8_init wsJ7_fill_53178 := goodIn_r _ [17] rfl (by decide +kernel)
set_option maxRecDepth 20000 in
theorem gX8_init_J7_fill_53178 : GoodIn wsX8_init (va_wsS RX8 40 yJ7_fill_53178 wsJ7_fill_53178) := goodIn_app (goodIn_of _ (by decide +kernel)) ggX8_init_J7_fill_53178
theorem dX8_init_0 : decode cX8_init 0 = .ok (.aload_n 0, 1) := by decide +kernel
theorem dX8_init_1 : decode cX8_init 1 = .ok (.invokespecial 3, 3) := by decide +kernel
theorem dX8_init_4 : decode cX8_init 4 = .ok (.aload_n 0, 1) := by decide +kernel
theorem dX8_init_5 : decode cX8_init 5 = .ok (.bipush 7, 2) := by decide +kernel
theorem dX8_init_7 : decode cX8_init 7 = .ok (.newarray .int, 2) := by decide +kernel
theorem dX8_init_9 : decode cX8_init 9 = .ok (.putfield 9, 3) := by decide +kernel
theorem dX8_init_12 : decode cX8_init 12 = .ok (.aload_n 0, 1) := by decide +kernel
theorem dX8_init_13 : decode cX8_init 13 = .ok (.bipush 7, 2) := by decide +kernel
theorem dX8_init_15 : decode cX8_init 15 = .ok (.newarray .int, 2) := by decide +kernel
theorem dX8_init_17 : decode cX8_init 17 = .ok (.putfield 15, 3) := by decide +kernel
theorem dX8_init_20 : decode cX8_init 20 = .ok (.aload_n 0, 1) := by decide +kernel
theorem dX8_init_21 : decode cX8_init 21 = .ok (.bipush 7, 2) := by decide +kernel
theorem dX8_init_23 : decode cX8_init 23 = .ok (.newarray .int, 2) := by decide +kernel
theorem dX8_init_25 : decode cX8_init 25 = .ok (.putfield 18, 3) := by decide +kernel
theorem dX8_init_28 : decode cX8_init 28 = .ok (.aload_n 0, 1) := by decide +kernel
theorem dX8_init_29 : decode cX8_init 29 = .ok (.bipush 7, 2) := by decide +kernel
theorem dX8_init_31 : decode cX8_init 31 = .ok (.newarray .int, 2) := by decide +kernel
theorem dX8_init_33 : decode cX8_init 33 = .ok (.putfield 21, 3) := by decide +kernel
theorem dX8_init_36 : decode cX8_init 36 = .ok (.aload_n 0, 1) := by decide +kernel
theorem dX8_init_37 : decode cX8_init 37 = .ok (.bipush 6, 2) := by decide +kernel
theorem dX8_init_39 : decode cX8_init 39 = .ok (.newarray .int, 2) := by decide +kernel
theorem dX8_init_41 : decode cX8_init 41 = .ok (.putfield 24, 3) := by decide +kernel
theorem dX8_init_44 : decode cX8_init 44 = .ok (.aload_n 0, 1) := by decide +kernel
theorem dX8_init_45 : decode cX8_init 45 = .ok (.iconst 0, 1) := by decide +kernel
theorem dX8_init_46 : decode cX8_init 46 = .ok (.putfield 27, 3) := by decide +kernel
theorem dX8_init_49 : decode cX8_init 49 = .ok (.aload_n 0, 1) := by decide +kernel
theorem dX8_init_50 : decode cX8_init 50 = .ok (.iconst 0, 1) := by decide +kernel
theorem dX8_init_51 : decode cX8_init 51 = .ok (.putfield 31, 3) := by decide +kernel
theorem dX8_init_54 : decode cX8_init 54 = .ok (.aload_n 0, 1) := by decide +kernel
theorem dX8_init_55 : decode cX8_init 55 = .ok (.iconst 0, 1) := by decide +kernel
theorem dX8_init_56 : decode cX8_init 56 = .ok (.putfield 34, 3) := by decide +kernel
theorem dX8_init_59 : decode cX8_init 59 = .ok (.aload_n 0, 1) := by decide +kernel
theorem dX8_init_60 : decode cX8_init 60 = .ok (.iconst 0, 1) := by decide +kernel
theorem dX8_init_61 : decode cX8_init 61 = .ok (.putfield 37, 3) := by decide +kernel
theorem dX8_init_64 : decode cX8_init 64 = .ok (.aload_n 0, 1) := by decide +kernel
theorem dX8_init_65 : decode cX8_init 65 = .ok (.getfield 18, 3) := by decide +kernel
theorem dX8_init_68 : decode cX8_init 68 = .ok (.iconst 1, 1) := by decide +kernel
theorem dX8_init_69 : decode cX8_init 69 = .ok (.invokestatic 40, 3) := by decide +kernel
theorem dX8_init_72 : decode cX8_init 72 = .ok (.return_, 1) := by decide +kernel
set_option maxRecDepth 20000 in
theorem ggX8_reset_J7_fill_53178 : GoodIn wsX8_reset wsJ7_fill_53178 := goodIn_r _ [12] rfl (by decide +kernel)
set_option maxRecDepth 20000 in
theorem gX8_reset_J7_fill_53178 : GoodIn wsX8_reset (va_wsS RX8 40 yJ7_fill_53178 wsJ7_fill_53178) := goodIn_app (goodIn_of _ (by decide +kernel)) ggX8_reset_J7_fill_53178
theorem dX8_reset_0 : decode cX8_reset 0 = .ok (.aload_n 0, 1) := by decide +kernel
theorem dX8_reset_1 : decode cX8_reset 1 = .ok (.getfield 9, 3) := by decide +kernel
theorem dX8_reset_4 : decode cX8_reset 4 = .ok (.iconst 0, 1) := by decide +kernel
theorem dX8_reset_5 : decode cX8_reset 5 = .ok (.invokestatic 40, 3) := by decide +kernel
theorem dX8_reset_8 : decode cX8_reset 8 = .ok (.aload_n 0, 1) := by decide +kernel
theorem dX8_reset_9 : decode cX8_reset 9 = .ok (.getfield 15, 3) := by decide +kernel
theorem dX8_reset_12 : decode cX8_reset 12 = .ok (.iconst 0, 1) := by decide +kernel
theorem dX8_reset_13 : decode cX8_reset 13 = .ok (.invokestatic 40, 3) := by decide +kernel
theorem dX8_reset_16 : decode cX8_reset 16 = .ok (.aload_n 0, 1) := by decide +kernel
theorem dX8_reset_17 : decode cX8_reset 17 = .ok (.getfield 18, 3) := by decide +kernel
theorem dX8_reset_20 : decode cX8_reset 20 = .ok (.iconst 1, 1) := by decide +kernel
theorem dX8_reset_21 : decode cX8_reset 21 = .ok (.invokestatic 40, 3) := by decide +kernel
theorem dX8_reset_24 : decode cX8_reset 24 = .ok (.aload_n 0, 1) := by decide +kernel
theorem dX8_reset_25 : decode cX8_reset 25 = .ok (.getfield 21, 3) := by decide +kernel
theorem dX8_reset_28 : decode cX8_reset 28 = .ok (.iconst 0, 1) := by decide +kernel
theorem dX8_reset_29 : decode cX8_reset 29 = .ok (.invokestatic 40, 3) := by decide +kernel
theorem dX8_reset_32 : decode cX8_reset 32 = .ok (.aload_n 0, 1) := by decide +kernel
theorem dX8_reset_33 : decode cX8_reset 33 = .ok (.iconst 0, 1) := by decide +kernel
theorem dX8_reset_34 : decode cX8_reset 34 = .ok (.putfield 27, 3) := by decide +kernel
theorem dX8_reset_37 : decode cX8_reset 37 = .ok (.aload_n 0, 1) := by decide +kernel
theorem dX8_reset_38 : decode cX8_reset 38 = .ok (.iconst 0, 1) := by decide +kernel
theorem dX8_reset_39 : decode cX8_reset 39 = .ok (.putfield 31, 3) := by decide +kernel
theorem dX8_reset_42 : decode cX8_reset 42 = .ok (.aload_n 0, 1) := by decide +kernel
theorem dX8_reset_43 : decode cX8_reset 43 = .ok (.iconst 0, 1) := by decide +kernel
theorem dX8_reset_44 : decode cX8_reset 44 = .ok (.putfield 34, 3) := by decide +kernel
theorem dX8_reset_47 : decode cX8_reset 47 = .ok (.aload_n 0, 1) := by decide +kernel
theorem dX8_reset_48 : decode cX8_reset 48 = .ok (.iconst 0, 1) := by decide +kernel
theorem dX8_reset_49 : decode cX8_reset 49 = .ok (.putfield 37, 3) := by decide +kernel
theorem dX8_reset_52 : decode cX8_reset 52 = .ok (.return_, 1) := by decide +kernel
theorem dX8_copy_0 : decode cX8_copy 0 = .ok (.aload_n 1, 1) := by decide +kernel
theorem dX8_copy_1 : decode cX8_copy 1 = .ok (.getfield 9, 3) := by decide +kernel
theorem dX8_copy_4 : decode cX8_copy 4 = .ok (.iconst 0, 1) := by decide +kernel
theorem dX8_copy_5 : decode cX8_copy 5 = .ok (.aload_n 0, 1) := by decide +kernel
theorem dX8_copy_6 : decode cX8_copy 6 = .ok (.getfield 9, 3) := by decide +kernel
theorem dX8_copy_9 : decode cX8_copy 9 = .ok (.iconst 0, 1) := by decide +kernel
theorem dX8_copy_10 : decode cX8_copy 10 = .ok (.bipush 7, 2) := by decide +kernel
theorem dX8_copy_12 : decode cX8_copy 12 = .ok (.invokestatic 46, 3) := by decide +kernel
theorem dX8_copy_15 : decode cX8_copy 15 = .ok (.aload_n 1, 1) := by decide +kernel
theorem dX8_copy_16 : decode cX8_copy 16 = .ok (.getfield 15, 3) := by decide +kernel
theorem dX8_copy_19 : decode cX8_copy 19 = .ok (.iconst 0, 1) := by decide +kernel
theorem dX8_copy_20 : decode cX8_copy 20 = .ok (.aload_n 0, 1) := by decide +kernel
theorem dX8_copy_21 : decode cX8_copy 21 = .ok (.getfield 15, 3) := by decide +kernel
theorem dX8_copy_24 : decode cX8_copy 24 = .ok (.iconst 0, 1) := by decide +kernel
theorem dX8_copy_25 : decode cX8_copy 25 = .ok (.bipush 7, 2) := by decide +kernel
theorem dX8_copy_27 : decode cX8_copy 27 = .ok (.invokestatic 46, 3) := by decide +kernel
theorem dX8_copy_30 : decode cX8_copy 30 = .ok (.aload_n 1, 1) := by decide +kernel
theorem dX8_copy_31 : decode cX8_copy 31 = .ok (.getfield 18, 3) := by decide +kernel
theorem dX8_copy_34 : decode cX8_copy 34 = .ok (.iconst 0, 1) := by decide +kernel
theorem dX8_copy_35 : decode cX8_copy 35 = .ok (.aload_n 0, 1) := by decide +kernel
theorem dX8_copy_36 : decode cX8_copy 36 = .ok (.getfield 18, 3) := by decide +kernel
theorem dX8_copy_39 : decode cX8_copy 39 = .ok (.iconst 0, 1) := by decide +kernel
theorem dX8_copy_40 : decode cX8_copy 40 = .ok (.bipush 7, 2) := by decide +kernel
theorem dX8_copy_42 : decode cX8_copy 42 = .ok (.invokestatic 46, 3) := by decide +kernel
theorem dX8_copy_45 : decode cX8_copy 45 = .ok (.aload_n 1, 1) := by decide +kernel
theorem dX8_copy_46 : decode cX8_copy 46 = .ok (.getfield 21, 3) := by decide +kernel
theorem dX8_copy_49 : decode cX8_copy 49 = .ok (.iconst 0, 1) := by decide +kernel
theorem dX8_copy_50 : decode cX8_copy 50 = .ok (.aload_n 0, 1) := by decide +kernel
theorem dX8_copy_51 : decode cX8_copy 51 = .ok (.getfield 21, 3) := by decide +kernel
theorem dX8_copy_54 : decode cX8_copy 54 = .ok (.iconst 0, 1) := by decide +kernel
theorem dX8_copy_55 : decode cX8_copy 55 = .ok (.bipush 7, 2) := by decide +kernel
theorem dX8_copy_57 : decode cX8_copy 57 = .ok (.invokestatic 46, 3) := by decide +kernel
theorem dX8_copy_60 : decode cX8_copy 60 = .ok (.aload_n 1, 1) := by decide +kernel
theorem dX8_copy_61 : decode cX8_copy 61 = .ok (.getfield 24, 3) := by decide +kernel
theorem dX8_copy_64 : decode cX8_copy 64 = .ok (.iconst 0, 1) := by decide +kernel
theorem dX8_copy_65 : decode cX8_copy 65 = .ok (.aload_n 0, 1) := by decide +kernel
theorem dX8_copy_66 : decode cX8_copy 66 = .ok (.getfield 24, 3) := by decide +kernel
theorem dX8_copy_69 : decode cX8_copy 69 = .ok (.iconst 0, 1) := by decide +kernel
theorem dX8_copy_70 : decode cX8_copy 70 = .ok (.bipush 6, 2) := by decide +kernel
theorem dX8_copy_72 : decode cX8_copy 72 = .ok (.invokestatic 46, 3) := by decide +kernel
theorem dX8_copy_75 : decode cX8_copy 75 = .ok (.aload_n 0, 1) := by decide +kernel
theorem dX8_copy_76 : decode cX8_copy 76 = .ok (.aload_n 1, 1) := by decide +kernel
theorem dX8_copy_77 : decode cX8_copy 77 = .ok (.getfield 27, 3) := by decide +kernel
theorem dX8_copy_80 : decode cX8_copy 80 = .ok (.putfield 27, 3) := by decide +kernel
theorem dX8_copy_83 : decode cX8_copy 83 = .ok (.aload_n 0, 1) := by decide +kernel
theorem dX8_copy_84 : decode cX8_copy 84 = .ok (.aload_n 1, 1) := by decide +kernel
theorem dX8_copy_85 : decode cX8_copy 85 = .ok (.getfield 31, 3) := by decide +kernel
theorem dX8_copy_88 : decode cX8_copy 88 = .ok (.putfield 31, 3) := by decide +kernel
theorem dX8_copy_91 : decode cX8_copy 91 = .ok (.aload_n 0, 1) := by decide +kernel
theorem dX8_copy_92 : decode cX8_copy 92 = .ok (.aload_n 1, 1) := by decide +kernel
theorem dX8_copy_93 : decode cX8_copy 93 = .ok (.getfield 34, 3) := by decide +kernel
theorem dX8_copy_96 : decode cX8_copy 96 = .ok (.putfield 34, 3) := by decide +kernel
theorem dX8_copy_99 : decode cX8_copy 99 = .ok (.aload_n 0, 1) := by decide +kernel
theorem dX8_copy_100 : decode cX8_copy 100 = .ok (.aload_n 1, 1) := by decide +kernel
theorem dX8_copy_101 : decode cX8_copy 101 = .ok (.getfield 37, 3) := by decide +kernel
theorem dX8_copy_104 : decode cX8_copy 104 = .ok (.putfield 37, 3) := by decide +kernel
theorem dX8_copy_107 : decode cX8_copy 107 = .ok (.return_, 1) := by decide +kernel
theorem dX8_isFriend_0 : decode cX8_isFriend 0 = .ok (.aload_n 0, 1) := by decide +kernel
theorem dX8_isFriend_1 : decode cX8_isFriend 1 = .ok (.getfield 15, 3) := by decide +kernel
theorem dX8_isFriend_4 : decode cX8_isFriend 4 = .ok (.iload_n 1, 1) := by decide +kernel
theorem dX8_isFriend_5 : decode cX8_isFriend 5 = .ok (.iaload, 1) := by decide +kernel
theorem dX8_isFriend_6 : decode cX8_isFriend 6 = .ok (.iload_n 2, 1) := by decide +kernel
theorem dX8_isFriend_7 : decode cX8_isFriend 7 = .ok (.ishr, 1) := by decide +kernel
theorem dX8_isFriend_8 : decode cX8_isFriend 8 = .ok (.iconst 1, 1) := by decide +kernel
theorem dX8_isFriend_9 : decode cX8_isFriend 9 = .ok (.iand, 1) := by decide +kernel
theorem dX8_isFriend_10 : decode cX8_isFriend 10 = .ok (.ifCond .eq 7, 3) := by decide +kernel
theorem dX8_isFriend_13 : decode cX8_isFriend 13 = .ok (.iconst 1, 1) := by decide +kernel
theorem dX8_isFriend_14 : decode cX8_isFriend 14 = .ok (.goto 4, 3) := by decide +kernel
theorem dX8_isFriend_17 : decode cX8_isFriend 17 = .ok (.iconst 0, 1) := by decide +kernel
theorem dX8_isFriend_18 : decode cX8_isFriend 18 = .ok (.ireturn, 1) := by decide +kernel
theorem dX8_setFriend_0 : decode cX8_setFriend 0 = .ok (.iload_n 3, 1) := by decide +kernel
theorem dX8_setFriend_1 : decode cX8_setFriend 1 = .ok (.ifCond .eq 18, 3) := by decide +kernel
theorem dX8_setFriend_4 : decode cX8_setFriend 4 = .ok (.aload_n 0, 1) := by decide +kernel
theorem dX8_setFriend_5 : decode cX8_setFriend 5 = .ok (.getfield 15, 3) := by decide +kernel
theorem dX8_setFriend_8 : decode cX8_setFriend 8 = .ok (.iload_n 1, 1) := by decide +kernel
theorem dX8_setFriend_9 : decode cX8_setFriend 9 = .ok (.dup2, 1) := by decide +kernel
theorem dX8_setFriend_10 : decode cX8_setFriend 10 = .ok (.iaload, 1) := by decide +kernel
theorem dX8_setFriend_11 : decode cX8_setFriend 11 = .ok (.iconst 1, 1) := by decide +kernel
theorem dX8_setFriend_12 : decode cX8_setFriend 12 = .ok (.iload_n 2, 1) := by decide +kernel
theorem dX8_setFriend_13 : decode cX8_setFriend 13 = .ok (.ishl, 1) := by decide +kernel
theorem dX8_setFriend_14 : decode cX8_setFriend 14 = .ok (.ior, 1) := by decide +kernel
theorem dX8_setFriend_15 : decode cX8_setFriend 15 = .ok (.iastore, 1) := by decide +kernel
theorem dX8_setFriend_16 : decode cX8_setFriend 16 = .ok (.goto 17, 3) := by decide +kernel
theorem dX8_setFriend_19 : decode cX8_setFriend 19 = .ok (.aload_n 0, 1) := by decide +kernel
theorem dX8_setFriend_20 : decode cX8_setFriend 20 = .ok (.getfield 15, 3) := by decide +kernel
theorem dX8_setFriend_23 : decode cX8_setFriend 23 = .ok (.iload_n 1, 1) := by decide +kernel
theorem dX8_setFriend_24 : decode cX8_setFriend 24 = .ok (.dup2, 1) := by decide +kernel
theorem dX8_setFriend_25 : decode cX8_setFriend 25 = .ok (.iaload, 1) := by decide +kernel
theorem dX8_setFriend_26 : decode cX8_setFriend 26 = .ok (.iconst 1, 1) := by decide +kernel
theorem dX8_setFriend_27 : decode cX8_setFriend 27 = .ok (.iload_n 2, 1) := by decide +kernel
theorem dX8_setFriend_28 : decode cX8_setFriend 28 = .ok (.ishl, 1) := by decide +kernel
theorem dX8_setFriend_29 : decode cX8_setFriend 29 = .ok (.iconst (-1), 1) := by decide +kernel
theorem dX8_setFriend_30 : decode cX8_setFriend 30 = .ok (.ixor, 1) := by decide +kernel
theorem dX8_setFriend_31 : decode cX8_setFriend 31 = .ok (.iand, 1) := by decide +kernel
theorem dX8_setFriend_32 : decode cX8_setFriend 32 = .ok (.iastore, 1) := by decide +kernel
theorem dX8_setFriend_33 : decode cX8_setFriend 33 = .ok (.return_, 1) := by decide +kernel
theorem dX9_init_0 : decode cX9_init 0 = .ok (.aload_n 0, 1) := by decide +kernel
theorem dX9_init_1 : decode cX9_init 1 = .ok (.invokespecial 3, 3) := by decide +kernel
theorem dX9_init_4 : decode cX9_init 4 = .ok (.aload_n 0, 1) := by decide +kernel
theorem dX9_init_5 : decode cX9_init 5 = .ok (.sipush 320, 3) := by decide +kernel
theorem dX9_init_8 : decode cX9_init 8 = .ok (.newarray .byte, 2) := by decide +kernel
theorem dX9_init_10 : decode cX9_init 10 = .ok (.putfield 9, 3) := by decide +kernel
theorem dX9_init_13 : decode cX9_init 13 = .ok (.aload_n 0, 1) := by decide +kernel
theorem dX9_init_14 : decode cX9_init 14 = .ok (.iconst 0, 1) := by decide +kernel
theorem dX9_init_15 : decode cX9_init 15 = .ok (.putfield 15, 3) := by decide +kernel
theorem dX9_init_18 : decode cX9_init 18 = .ok (.aload_n 0, 1) := by decide +kernel
theorem dX9_init_19 : decode cX9_init 19 = .ok (.iconst 0, 1) := by decide +kernel
theorem dX9_init_20 : decode cX9_init 20 = .ok (.putfield 19, 3) := by decide +kernel
theorem dX9_init_23 : decode cX9_init 23 = .ok (.aload_n 0, 1) := by decide +kernel
theorem dX9_init_24 : decode cX9_init 24 = .ok (.iconst 0, 1) := by decide +kernel
theorem dX9_init_25 : decode cX9_init 25 = .ok (.putfield 22, 3) := by decide +kernel
theorem dX9_init_28 : decode cX9_init 28 = .ok (.aload_n 0, 1) := by decide +kernel
theorem dX9_init_29 : decode cX9_init 29 = .ok (.iconst 0, 1) := by decide +kernel
theorem dX9_init_30 : decode cX9_init 30 = .ok (.putfield 25, 3) := by decide +kernel
theorem dX9_init_33 : decode cX9_init 33 = .ok (.aload_n 0, 1) := by decide +kernel
theorem dX9_init_34 : decode cX9_init 34 = .ok (.iconst 0, 1) := by decide +kernel
theorem dX9_init_35 : decode cX9_init 35 = .ok (.putfield 28, 3) := by decide +kernel
theorem dX9_init_38 : decode cX9_init 38 = .ok (.return_, 1) := by decide +kernel
theorem dX9_append_0 : decode cX9_append 0 = .ok (.aload_n 0, 1) := by decide +kernel
theorem dX9_append_1 : decode cX9_append 1 = .ok (.getfield 15, 3) := by decide +kernel
theorem dX9_append_4 : decode cX9_append 4 = .ok (.bipush 8, 2) := by decide +kernel
theorem dX9_append_6 : decode cX9_append 6 = .ok (.iadd, 1) := by decide +kernel
theorem dX9_append_7 : decode cX9_append 7 = .ok (.sipush 320, 3) := by decide +kernel
theorem dX9_append_10 : decode cX9_append 10 = .ok (.if_icmp .le 5, 3) := by decide +kernel
theorem dX9_append_13 : decode cX9_append 13 = .ok (.iconst 0, 1) := by decide +kernel
theorem dX9_append_14 : decode cX9_append 14 = .ok (.ireturn, 1) := by decide +kernel
theorem dX9_append_15 : decode cX9_append 15 = .ok (.bipush 56, 2) := by decide +kernel
theorem dX9_append_17 : decode cX9_append 17 = .ok (.istore_n 3, 1) := by decide +kernel
theorem dX9_append_18 : decode cX9_append 18 = .ok (.iload_n 3, 1) := by decide +kernel
theorem dX9_append_19 : decode cX9_append 19 = .ok (.ifCond .lt 33, 3) := by decide +kernel
theorem dX9_append_22 : decode cX9_append 22 = .ok (.aload_n 0, 1) := by decide +kernel
theorem dX9_append_23 : decode cX9_append 23 = .ok (.getfield 9, 3) := by decide +kernel
theorem dX9_append_26 : decode cX9_append 26 = .ok (.aload_n 0, 1) := by decide +kernel
theorem dX9_append_27 : decode cX9_append 27 = .ok (.getfield 15, 3) := by decide +kernel
theorem dX9_append_30 : decode cX9_append 30 = .ok (.lload_n 1, 1) := by decide +kernel
theorem dX9_append_31 : decode cX9_append 31 = .ok (.iload_n 3, 1) := by decide +kernel
theorem dX9_append_32 : decode cX9_append 32 = .ok (.lshr, 1) := by decide +kernel
theorem dX9_append_33 : decode cX9_append 33 = .ok (.l2i, 1) := by decide +kernel
theorem dX9_append_34 : decode cX9_append 34 = .ok (.i2b, 1) := by decide +kernel
theorem dX9_append_35 : decode cX9_append 35 = .ok (.bastore, 1) := by decide +kernel
theorem dX9_append_36 : decode cX9_append 36 = .ok (.aload_n 0, 1) := by decide +kernel
theorem dX9_append_37 : decode cX9_append 37 = .ok (.dup, 1) := by decide +kernel
theorem dX9_append_38 : decode cX9_append 38 = .ok (.getfield 15, 3) := by decide +kernel
theorem dX9_append_41 : decode cX9_append 41 = .ok (.iconst 1, 1) := by decide +kernel
theorem dX9_append_42 : decode cX9_append 42 = .ok (.iadd, 1) := by decide +kernel
theorem dX9_append_43 : decode cX9_append 43 = .ok (.putfield 15, 3) := by decide +kernel
theorem dX9_append_46 : decode cX9_append 46 = .ok (.iinc 3 (-8), 3) := by decide +kernel
theorem dX9_append_49 : decode cX9_append 49 = .ok (.goto (-31), 3) := by decide +kernel
theorem dX9_append_52 : decode cX9_append 52 = .ok (.iconst 1, 1) := by decide +kernel
theorem dX9_append_53 : decode cX9_append 53 = .ok (.ireturn, 1) := by decide +kernel
theorem dX9_rewind_0 : decode cX9_rewind 0 = .ok (.aload_n 0, 1) := by decide +kernel
theorem dX9_rewind_1 : decode cX9_rewind 1 = .ok (.iconst 0, 1) := by decide +kernel
theorem dX9_rewind_2 : decode cX9_rewind 2 = .ok (.putfield 19, 3) := by decide +kernel
theorem dX9_rewind_5 : decode cX9_rewind 5 = .ok (.return_, 1) := by decide +kernel
set_option maxRecDepth 20000 in
theorem ggX9_readToken_X9_isLetter : GoodIn wsX9_readToken wsX9_isLetter := goodIn_r _ [9] rfl (by decide +kernel)
set_option maxRecDepth 20000 in
theorem gX9_readToken_X9_isLetter : GoodIn wsX9_readToken (va_wsS RX9 31 yX9_isLetter wsX9_isLetter) := goodIn_app (goodIn_of _ (by decide +kernel)) ggX9_readToken_X9_isLetter
set_option maxRecDepth 20000 in
theorem ggX9_readToken_X9_readName : GoodIn wsX9_readToken wsX9_readName := goodIn_r _ [13, 1, 2, 3, 5, 6, 7, 8, 9, 22, 23, 24, 25, 26, 27] rfl (by decide +kernel)
set_option maxRecDepth 20000 in
theorem gX9_readToken_X9_readName : GoodIn wsX9_readToken (wsV RX9 35 RX9 yX9_readName wsX9_readName) := goodIn_app (goodIn_of _ (by decide +kernel)) ggX9_readToken_X9_readName
set_option maxRecDepth 20000 in
theorem ggX9_readToken_X9_isFigure : GoodIn wsX9_readToken wsX9_isFigure := goodIn_r _ [16] rfl (by decide +kernel)
set_option maxRecDepth 20000 in
theorem gX9_readToken_X9_isFigure : GoodIn wsX9_readToken (va_wsS RX9 38 yX9_isFigure wsX9_isFigure) := goodIn_app (goodIn_of _ (by decide +kernel)) ggX9_readToken_X9_isFigure
set_option maxRecDepth 20000 in
theorem ggX9_readToken_X9_readFigures : GoodIn wsX9_readToken wsX9_readFigures := goodIn_r _ [20, 21, 1, 2, 3, 4, 5, 14, 15, 8, 16, 22, 23, 24, 25, 26, 27] rfl (by decide +kernel)
set_option maxRecDepth 20000 in
theorem gX9_readToken_X9_readFigures : GoodIn wsX9_readToken (wsV RX9 41 RX9 yX9_readFigures wsX9_readFigures) := goodIn_app (goodIn_of _ (by decide +kernel)) ggX9_readToken_X9_readFigures
theorem dX9_readToken_0 : decode cX9_readToken 0 = .ok (.aload_n 0, 1) := by decide +kernel
theorem dX9_readToken_1 : decode cX9_readToken 1 = .ok (.getfield 19, 3) := by decide +kernel
theorem dX9_readToken_4 : decode cX9_readToken 4 = .ok (.aload_n 0, 1) := by decide +kernel
theorem dX9_readToken_5 : decode cX9_readToken 5 = .ok (.getfield 15, 3) := by decide +kernel
theorem dX9_readToken_8 : decode cX9_readToken 8 = .ok (.if_icmp .ge 30, 3) := by decide +kernel
theorem dX9_readToken_11 : decode cX9_readToken 11 = .ok (.aload_n 0, 1) := by decide +kernel
theorem dX9_readToken_12 : decode cX9_readToken 12 = .ok (.getfield 9, 3) := by decide +kernel
theorem dX9_readToken_15 : decode cX9_readToken 15 = .ok (.aload_n 0, 1) := by decide +kernel
theorem dX9_readToken_16 : decode cX9_readToken 16 = .ok (.getfield 19, 3) := by decide +kernel
theorem dX9_readToken_19 : decode cX9_readToken 19 = .ok (.baload, 1) := by decide +kernel
theorem dX9_readToken_20 : decode cX9_readToken 20 = .ok (.bipush 32, 2) := by decide +kernel
theorem dX9_readToken_22 : decode cX9_readToken 22 = .ok (.if_icmp .ne 16, 3) := by decide +kernel
theorem dX9_readToken_25 : decode cX9_readToken 25 = .ok (.aload_n 0, 1) := by decide +kernel
theorem dX9_readToken_26 : decode cX9_readToken 26 = .ok (.dup, 1) := by decide +kernel
theorem dX9_readToken_27 : decode cX9_readToken 27 = .ok (.getfield 19, 3) := by decide +kernel
theorem dX9_readToken_30 : decode cX9_readToken 30 = .ok (.iconst 1, 1) := by decide +kernel
theorem dX9_readToken_31 : decode cX9_readToken 31 = .ok (.iadd, 1) := by decide +kernel
theorem dX9_readToken_32 : decode cX9_readToken 32 = .ok (.putfield 19, 3) := by decide +kernel
theorem dX9_readToken_35 : decode cX9_readToken 35 = .ok (.goto (-35), 3) := by decide +kernel
theorem dX9_readToken_38 : decode cX9_readToken 38 = .ok (.aload_n 0, 1) := by decide +kernel
theorem dX9_readToken_39 : decode cX9_readToken 39 = .ok (.aload_n 0, 1) := by decide +kernel
theorem dX9_readToken_40 : decode cX9_readToken 40 = .ok (.getfield 19, 3) := by decide +kernel
theorem dX9_readToken_43 : decode cX9_readToken 43 = .ok (.putfield 25, 3) := by decide +kernel
theorem dX9_readToken_46 : decode cX9_readToken 46 = .ok (.aload_n 0, 1) := by decide +kernel
theorem dX9_readToken_47 : decode cX9_readToken 47 = .ok (.getfield 19, 3) := by decide +kernel
theorem dX9_readToken_50 : decode cX9_readToken 50 = .ok (.aload_n 0, 1) := by decide +kernel
theorem dX9_readToken_51 : decode cX9_readToken 51 = .ok (.getfield 15, 3) := by decide +kernel
theorem dX9_readToken_54 : decode cX9_readToken 54 = .ok (.if_icmp .lt 11, 3) := by decide +kernel
theorem dX9_readToken_57 : decode cX9_readToken 57 = .ok (.aload_n 0, 1) := by decide +kernel
theorem dX9_readToken_58 : decode cX9_readToken 58 = .ok (.iconst 0, 1) := by decide +kernel
theorem dX9_readToken_59 : decode cX9_readToken 59 = .ok (.putfield 22, 3) := by decide +kernel
theorem dX9_readToken_62 : decode cX9_readToken 62 = .ok (.goto 84, 3) := by decide +kernel
theorem dX9_readToken_65 : decode cX9_readToken 65 = .ok (.aload_n 0, 1) := by decide +kernel
theorem dX9_readToken_66 : decode cX9_readToken 66 = .ok (.getfield 9, 3) := by decide +kernel
theorem dX9_readToken_69 : decode cX9_readToken 69 = .ok (.aload_n 0, 1) := by decide +kernel
theorem dX9_readToken_70 : decode cX9_readToken 70 = .ok (.getfield 19, 3) := by decide +kernel
theorem dX9_readToken_73 : decode cX9_readToken 73 = .ok (.baload, 1) := by decide +kernel
theorem dX9_readToken_74 : decode cX9_readToken 74 = .ok (.invokestatic 31, 3) := by decide +kernel
theorem dX9_readToken_77 : decode cX9_readToken 77 = .ok (.ifCond .eq 10, 3) := by decide +kernel
theorem dX9_readToken_80 : decode cX9_readToken 80 = .ok (.aload_n 0, 1) := by decide +kernel
theorem dX9_readToken_81 : decode cX9_readToken 81 = .ok (.invokevirtual 35, 3) := by decide +kernel
theorem dX9_readToken_84 : decode cX9_readToken 84 = .ok (.goto 62, 3) := by decide +kernel
theorem dX9_readToken_87 : decode cX9_readToken 87 = .ok (.aload_n 0, 1) := by decide +kernel
theorem dX9_readToken_88 : decode cX9_readToken 88 = .ok (.getfield 9, 3) := by decide +kernel
theorem dX9_readToken_91 : decode cX9_readToken 91 = .ok (.aload_n 0, 1) := by decide +kernel
theorem dX9_readToken_92 : decode cX9_readToken 92 = .ok (.getfield 19, 3) := by decide +kernel
theorem dX9_readToken_95 : decode cX9_readToken 95 = .ok (.baload, 1) := by decide +kernel
theorem dX9_readToken_96 : decode cX9_readToken 96 = .ok (.invokestatic 38, 3) := by decide +kernel
theorem dX9_readToken_99 : decode cX9_readToken 99 = .ok (.ifCond .eq 10, 3) := by decide +kernel
theorem dX9_readToken_102 : decode cX9_readToken 102 = .ok (.aload_n 0, 1) := by decide +kernel
theorem dX9_readToken_103 : decode cX9_readToken 103 = .ok (.invokevirtual 41, 3) := by decide +kernel
theorem dX9_readToken_106 : decode cX9_readToken 106 = .ok (.goto 40, 3) := by decide +kernel
theorem dX9_readToken_109 : decode cX9_readToken 109 = .ok (.aload_n 0, 1) := by decide +kernel
theorem dX9_readToken_110 : decode cX9_readToken 110 = .ok (.getfield 9, 3) := by decide +kernel
theorem dX9_readToken_113 : decode cX9_readToken 113 = .ok (.aload_n 0, 1) := by decide +kernel
theorem dX9_readToken_114 : decode cX9_readToken 114 = .ok (.getfield 19, 3) := by decide +kernel
theorem dX9_readToken_117 : decode cX9_readToken 117 = .ok (.baload, 1) := by decide +kernel
theorem dX9_readToken_118 : decode cX9_readToken 118 = .ok (.bipush 59, 2) := by decide +kernel
theorem dX9_readToken_120 : decode cX9_readToken 120 = .ok (.if_icmp .ne 21, 3) := by decide +kernel
theorem dX9_readToken_123 : decode cX9_readToken 123 = .ok (.aload_n 0, 1) := by decide +kernel
theorem dX9_readToken_124 : decode cX9_readToken 124 = .ok (.dup, 1) := by decide +kernel
theorem dX9_readToken_125 : decode cX9_readToken 125 = .ok (.getfield 19, 3) := by decide +kernel
theorem dX9_readToken_128 : decode cX9_readToken 128 = .ok (.iconst 1, 1) := by decide +kernel
theorem dX9_readToken_129 : decode cX9_readToken 129 = .ok (.iadd, 1) := by decide +kernel
theorem dX9_readToken_130 : decode cX9_readToken 130 = .ok (.putfield 19, 3) := by decide +kernel
theorem dX9_readToken_133 : decode cX9_readToken 133 = .ok (.aload_n 0, 1) := by decide +kernel
theorem dX9_readToken_134 : decode cX9_readToken 134 = .ok (.iconst 3, 1) := by decide +kernel
theorem dX9_readToken_135 : decode cX9_readToken 135 = .ok (.putfield 22, 3) := by decide +kernel
theorem dX9_readToken_138 : decode cX9_readToken 138 = .ok (.goto 8, 3) := by decide +kernel
theorem dX9_readToken_141 : decode cX9_readToken 141 = .ok (.aload_n 0, 1) := by decide +kernel
theorem dX9_readToken_142 : decode cX9_readToken 142 = .ok (.iconst 4, 1) := by decide +kernel
theorem dX9_readToken_143 : decode cX9_readToken 143 = .ok (.putfield 22, 3) := by decide +kernel
theorem dX9_readToken_146 : decode cX9_readToken 146 = .ok (.return_, 1) := by decide +kernel
set_option maxRecDepth 20000 in
theorem ggX9_readName_X9_isLetter : GoodIn wsX9_readName wsX9_isLetter := goodIn_r _ [8] rfl (by decide +kernel)
set_option maxRecDepth 20000 in
theorem gX9_readName_X9_isLetter : GoodIn wsX9_readName (va_wsS RX9 31 yX9_isLetter wsX9_isLetter) := goodIn_app (goodIn_of _ (by decide +kernel)) ggX9_readName_X9_isLetter
theorem dX9_readName_0 : decode cX9_readName 0 = .ok (.aload_n 0, 1) := by decide +kernel
theorem dX9_readName_1 : decode cX9_readName 1 = .ok (.getfield 19, 3) := by decide +kernel
theorem dX9_readName_4 : decode cX9_readName 4 = .ok (.aload_n 0, 1) := by decide +kernel
theorem dX9_readName_5 : decode cX9_readName 5 = .ok (.getfield 15, 3) := by decide +kernel
theorem dX9_readName_8 : decode cX9_readName 8 = .ok (.if_icmp .ge 31, 3) := by decide +kernel
theorem dX9_readName_11 : decode cX9_readName 11 = .ok (.aload_n 0, 1) := by decide +kernel
theorem dX9_readName_12 : decode cX9_readName 12 = .ok (.getfield 9, 3) := by decide +kernel
theorem dX9_readName_15 : decode cX9_readName 15 = .ok (.aload_n 0, 1) := by decide +kernel
theorem dX9_readName_16 : decode cX9_readName 16 = .ok (.getfield 19, 3) := by decide +kernel
theorem dX9_readName_19 : decode cX9_readName 19 = .ok (.baload, 1) := by decide +kernel
theorem dX9_readName_20 : decode cX9_readName 20 = .ok (.invokestatic 31, 3) := by decide +kernel
theorem dX9_readName_23 : decode cX9_readName 23 = .ok (.ifCond .eq 16, 3) := by decide +kernel
theorem dX9_readName_26 : decode cX9_readName 26 = .ok (.aload_n 0, 1) := by decide +kernel
theorem dX9_readName_27 : decode cX9_readName 27 = .ok (.dup, 1) := by decide +kernel
theorem dX9_readName_28 : decode cX9_readName 28 = .ok (.getfield 19, 3) := by decide +kernel
theorem dX9_readName_31 : decode cX9_readName 31 = .ok (.iconst 1, 1) := by decide +kernel
theorem dX9_readName_32 : decode cX9_readName 32 = .ok (.iadd, 1) := by decide +kernel
theorem dX9_readName_33 : decode cX9_readName 33 = .ok (.putfield 19, 3) := by decide +kernel
theorem dX9_readName_36 : decode cX9_readName 36 = .ok (.goto (-36), 3) := by decide +kernel
theorem dX9_readName_39 : decode cX9_readName 39 = .ok (.aload_n 0, 1) := by decide +kernel
theorem dX9_readName_40 : decode cX9_readName 40 = .ok (.iconst 1, 1) := by decide +kernel
theorem dX9_readName_41 : decode cX9_readName 41 = .ok (.putfield 22, 3) := by decide +kernel
theorem dX9_readName_44 : decode cX9_readName 44 = .ok (.return_, 1) := by decide +kernel
set_option maxRecDepth 20000 in
theorem ggX9_readFigures_X9_isFigure : GoodIn wsX9_readFigures wsX9_isFigure := goodIn_r _ [10] rfl (by decide +kernel)
set_option maxRecDepth 20000 in
theorem gX9_readFigures_X9_isFigure : GoodIn wsX9_readFigures (va_wsS RX9 38 yX9_isFigure wsX9_isFigure) := goodIn_app (goodIn_of _ (by decide +kernel)) ggX9_readFigures_X9_isFigure
theorem dX9_readFigures_0 : decode cX9_readFigures 0 = .ok (.aload_n 0, 1) := by decide +kernel
theorem dX9_readFigures_1 : decode cX9_readFigures 1 = .ok (.iconst 0, 1) := by decide +kernel
theorem dX9_readFigures_2 : decode cX9_readFigures 2 = .ok (.putfield 28, 3) := by decide +kernel
theorem dX9_readFigures_5 : decode cX9_readFigures 5 = .ok (.aload_n 0, 1) := by decide +kernel
theorem dX9_readFigures_6 : decode cX9_readFigures 6 = .ok (.getfield 19, 3) := by decide +kernel
theorem dX9_readFigures_9 : decode cX9_readFigures 9 = .ok (.aload_n 0, 1) := by decide +kernel
theorem dX9_readFigures_10 : decode cX9_readFigures 10 = .ok (.getfield 15, 3) := by decide +kernel
theorem dX9_readFigures_13 : decode cX9_readFigures 13 = .ok (.if_icmp .ge 55, 3) := by decide +kernel
theorem dX9_readFigures_16 : decode cX9_readFigures 16 = .ok (.aload_n 0, 1) := by decide +kernel
theorem dX9_readFigures_17 : decode cX9_readFigures 17 = .ok (.getfield 9, 3) := by decide +kernel
theorem dX9_readFigures_20 : decode cX9_readFigures 20 = .ok (.aload_n 0, 1) := by decide +kernel
theorem dX9_readFigures_21 : decode cX9_readFigures 21 = .ok (.getfield 19, 3) := by decide +kernel
theorem dX9_readFigures_24 : decode cX9_readFigures 24 = .ok (.baload, 1) := by decide +kernel
theorem dX9_readFigures_25 : decode cX9_readFigures 25 = .ok (.invokestatic 38, 3) := by decide +kernel
theorem dX9_readFigures_28 : decode cX9_readFigures 28 = .ok (.ifCond .eq 40, 3) := by decide +kernel
theorem dX9_readFigures_31 : decode cX9_readFigures 31 = .ok (.aload_n 0, 1) := by decide +kernel
theorem dX9_readFigures_32 : decode cX9_readFigures 32 = .ok (.aload_n 0, 1) := by decide +kernel
theorem dX9_readFigures_33 : decode cX9_readFigures 33 = .ok (.getfield 28, 3) := by decide +kernel
theorem dX9_readFigures_36 : decode cX9_readFigures 36 = .ok (.bipush 10, 2) := by decide +kernel
theorem dX9_readFigures_38 : decode cX9_readFigures 38 = .ok (.imul, 1) := by decide +kernel
theorem dX9_readFigures_39 : decode cX9_readFigures 39 = .ok (.aload_n 0, 1) := by decide +kernel
theorem dX9_readFigures_40 : decode cX9_readFigures 40 = .ok (.getfield 9, 3) := by decide +kernel
theorem dX9_readFigures_43 : decode cX9_readFigures 43 = .ok (.aload_n 0, 1) := by decide +kernel
theorem dX9_readFigures_44 : decode cX9_readFigures 44 = .ok (.getfield 19, 3) := by decide +kernel
theorem dX9_readFigures_47 : decode cX9_readFigures 47 = .ok (.baload, 1) := by decide +kernel
theorem dX9_readFigures_48 : decode cX9_readFigures 48 = .ok (.bipush 48, 2) := by decide +kernel
theorem dX9_readFigures_50 : decode cX9_readFigures 50 = .ok (.isub, 1) := by decide +kernel
theorem dX9_readFigures_51 : decode cX9_readFigures 51 = .ok (.iadd, 1) := by decide +kernel
theorem dX9_readFigures_52 : decode cX9_readFigures 52 = .ok (.putfield 28, 3) := by decide +kernel
theorem dX9_readFigures_55 : decode cX9_readFigures 55 = .ok (.aload_n 0, 1) := by decide +kernel
theorem dX9_readFigures_56 : decode cX9_readFigures 56 = .ok (.dup, 1) := by decide +kernel
theorem dX9_readFigures_57 : decode cX9_readFigures 57 = .ok (.getfield 19, 3) := by decide +kernel
theorem dX9_readFigures_60 : decode cX9_readFigures 60 = .ok (.iconst 1, 1) := by decide +kernel
theorem dX9_readFigures_61 : decode cX9_readFigures 61 = .ok (.iadd, 1) := by decide +kernel
theorem dX9_readFigures_62 : decode cX9_readFigures 62 = .ok (.putfield 19, 3) := by decide +kernel
theorem dX9_readFigures_65 : decode cX9_readFigures 65 = .ok (.goto (-60), 3) := by decide +kernel
theorem dX9_readFigures_68 : decode cX9_readFigures 68 = .ok (.aload_n 0, 1) := by decide +kernel
theorem dX9_readFigures_69 : decode cX9_readFigures 69 = .ok (.aload_n 0, 1) := by decide +kernel
theorem dX9_readFigures_70 : decode cX9_readFigures 70 = .ok (.getfield 19, 3) := by decide +kernel
theorem dX9_readFigures_73 : decode cX9_readFigures 73 = .ok (.aload_n 0, 1) := by decide +kernel
theorem dX9_readFigures_74 : decode cX9_readFigures 74 = .ok (.getfield 25, 3) := by decide +kernel
theorem dX9_readFigures_77 : decode cX9_readFigures 77 = .ok (.isub, 1) := by decide +kernel
theorem dX9_readFigures_78 : decode cX9_readFigures 78 = .ok (.iconst 2, 1) := by decide +kernel
theorem dX9_readFigures_79 : decode cX9_readFigures 79 = .ok (.if_icmp .le 7, 3) := by decide +kernel
theorem dX9_readFigures_82 : decode cX9_readFigures 82 = .ok (.iconst 4, 1) := by decide +kernel
theorem dX9_readFigures_83 : decode cX9_readFigures 83 = .ok (.goto 4, 3) := by decide +kernel
theorem dX9_readFigures_86 : decode cX9_readFigures 86 = .ok (.iconst 2, 1) := by decide +kernel
theorem dX9_readFigures_87 : decode cX9_readFigures 87 = .ok (.putfield 22, 3) := by decide +kernel
theorem dX9_readFigures_90 : decode cX9_readFigures 90 = .ok (.return_, 1) := by decide +kernel
set_option maxRecDepth 20000 in
theorem ggX9_isNamed_J0_length_8abf5 : GoodIn wsX9_isNamed wsJ0_length_8abf5 := goodIn_r _ [8, 9, 10, 11, 12, 7, 13, 14, 15] rfl (by decide +kernel)
set_option maxRecDepth 20000 in
theorem gX9_isNamed_J0_length_8abf5 : GoodIn wsX9_isNamed (wsV RX9 44 RJ0 yJ0_length_8abf5 wsJ0_length_8abf5) := goodIn_app (goodIn_of _ (by decide +kernel)) ggX9_isNamed_J0_length_8abf5
set_option maxRecDepth 20000 in
theorem ggX9_isNamed_J0_charAt_5068e : GoodIn wsX9_isNamed wsJ0_charAt_5068e := goodIn_r _ [19, 9, 20, 21, 22, 7, 23, 14, 15, 24, 25, 26, 27, 28, 29, 30, 31, 32, 33, 34, 35, 36, 37, 38, 39, 40, 41, 42, 43, 44, 45, 46, 47, 48, 49, 50, 51, 52] rfl (by decide +kernel)
set_option maxRecDepth 20000 in
theorem gX9_isNamed_J0_charAt_5068e : GoodIn wsX9_isNamed (wsV RX9 49 RJ0 yJ0_charAt_5068e wsJ0_charAt_5068e) := goodIn_app (goodIn_of _ (by decide +kernel)) ggX9_isNamed_J0_charAt_5068e
theorem dX9_isNamed_0 : decode cX9_isNamed 0 = .ok (.aload_n 0, 1) := by decide +kernel
theorem dX9_isNamed_1 : decode cX9_isNamed 1 = .ok (.getfield 19, 3) := by decide +kernel
theorem dX9_isNamed_4 : decode cX9_isNamed 4 = .ok (.aload_n 0, 1) := by decide +kernel
theorem dX9_isNamed_5 : decode cX9_isNamed 5 = .ok (.getfield 25, 3) := by decide +kernel
theorem dX9_isNamed_8 : decode cX9_isNamed 8 = .ok (.isub, 1) := by decide +kernel
theorem dX9_isNamed_9 : decode cX9_isNamed 9 = .ok (.aload_n 1, 1) := by decide +kernel
theorem dX9_isNamed_10 : decode cX9_isNamed 10 = .ok (.invokevirtual 44, 3) := by decide +kernel
theorem dX9_isNamed_13 : decode cX9_isNamed 13 = .ok (.if_icmp .eq 5, 3) := by decide +kernel
theorem dX9_isNamed_16 : decode cX9_isNamed 16 = .ok (.iconst 0, 1) := by decide +kernel
theorem dX9_isNamed_17 : decode cX9_isNamed 17 = .ok (.ireturn, 1) := by decide +kernel
theorem dX9_isNamed_18 : decode cX9_isNamed 18 = .ok (.iconst 0, 1) := by decide +kernel
theorem dX9_isNamed_19 : decode cX9_isNamed 19 = .ok (.istore_n 2, 1) := by decide +kernel
theorem dX9_isNamed_20 : decode cX9_isNamed 20 = .ok (.iload_n 2, 1) := by decide +kernel
theorem dX9_isNamed_21 : decode cX9_isNamed 21 = .ok (.aload_n 1, 1) := by decide +kernel
theorem dX9_isNamed_22 : decode cX9_isNamed 22 = .ok (.invokevirtual 44, 3) := by decide +kernel
theorem dX9_isNamed_25 : decode cX9_isNamed 25 = .ok (.if_icmp .ge 30, 3) := by decide +kernel
theorem dX9_isNamed_28 : decode cX9_isNamed 28 = .ok (.aload_n 0, 1) := by decide +kernel
theorem dX9_isNamed_29 : decode cX9_isNamed 29 = .ok (.getfield 9, 3) := by decide +kernel
theorem dX9_isNamed_32 : decode cX9_isNamed 32 = .ok (.aload_n 0, 1) := by decide +kernel
theorem dX9_isNamed_33 : decode cX9_isNamed 33 = .ok (.getfield 25, 3) := by decide +kernel
theorem dX9_isNamed_36 : decode cX9_isNamed 36 = .ok (.iload_n 2, 1) := by decide +kernel
theorem dX9_isNamed_37 : decode cX9_isNamed 37 = .ok (.iadd, 1) := by decide +kernel
theorem dX9_isNamed_38 : decode cX9_isNamed 38 = .ok (.baload, 1) := by decide +kernel
theorem dX9_isNamed_39 : decode cX9_isNamed 39 = .ok (.aload_n 1, 1) := by decide +kernel
theorem dX9_isNamed_40 : decode cX9_isNamed 40 = .ok (.iload_n 2, 1) := by decide +kernel
theorem dX9_isNamed_41 : decode cX9_isNamed 41 = .ok (.invokevirtual 49, 3) := by decide +kernel
theorem dX9_isNamed_44 : decode cX9_isNamed 44 = .ok (.if_icmp .eq 5, 3) := by decide +kernel
theorem dX9_isNamed_47 : decode cX9_isNamed 47 = .ok (.iconst 0, 1) := by decide +kernel
theorem dX9_isNamed_48 : decode cX9_isNamed 48 = .ok (.ireturn, 1) := by decide +kernel
theorem dX9_isNamed_49 : decode cX9_isNamed 49 = .ok (.iinc 2 1, 3) := by decide +kernel
theorem dX9_isNamed_52 : decode cX9_isNamed 52 = .ok (.goto (-32), 3) := by decide +kernel
theorem dX9_isNamed_55 : decode cX9_isNamed 55 = .ok (.iconst 1, 1) := by decide +kernel
theorem dX9_isNamed_56 : decode cX9_isNamed 56 = .ok (.ireturn, 1) := by decide +kernel
theorem dX9_isLetter_0 : decode cX9_isLetter 0 = .ok (.iload_n 0, 1) := by decide +kernel
theorem dX9_isLetter_1 : decode cX9_isLetter 1 = .ok (.bipush 97, 2) := by decide +kernel
theorem dX9_isLetter_3 : decode cX9_isLetter 3 = .ok (.if_icmp .lt 13, 3) := by decide +kernel
theorem dX9_isLetter_6 : decode cX9_isLetter 6 = .ok (.iload_n 0, 1) := by decide +kernel
theorem dX9_isLetter_7 : decode cX9_isLetter 7 = .ok (.bipush 122, 2) := by decide +kernel
theorem dX9_isLetter_9 : decode cX9_isLetter 9 = .ok (.if_icmp .gt 7, 3) := by decide +kernel
theorem dX9_isLetter_12 : decode cX9_isLetter 12 = .ok (.iconst 1, 1) := by decide +kernel
theorem dX9_isLetter_13 : decode cX9_isLetter 13 = .ok (.goto 4, 3) := by decide +kernel
theorem dX9_isLetter_16 : decode cX9_isLetter 16 = .ok (.iconst 0, 1) := by decide +kernel
theorem dX9_isLetter_17 : decode cX9_isLetter 17 = .ok (.ireturn, 1) := by decide +kernel
theorem dX9_isFigure_0 : decode cX9_isFigure 0 = .ok (.iload_n 0, 1) := by decide +kernel
theorem dX9_isFigure_1 : decode cX9_isFigure 1 = .ok (.bipush 48, 2) := by decide +kernel
theorem dX9_isFigure_3 : decode cX9_isFigure 3 = .ok (.if_icmp .lt 13, 3) := by decide +kernel
theorem dX9_isFigure_6 : decode cX9_isFigure 6 = .ok (.iload_n 0, 1) := by decide +kernel
theorem dX9_isFigure_7 : decode cX9_isFigure 7 = .ok (.bipush 57, 2) := by decide +kernel
theorem dX9_isFigure_9 : decode cX9_isFigure 9 = .ok (.if_icmp .gt 7, 3) := by decide +kernel
theorem dX9_isFigure_12 : decode cX9_isFigure 12 = .ok (.iconst 1, 1) := by decide +kernel
theorem dX9_isFigure_13 : decode cX9_isFigure 13 = .ok (.goto 4, 3) := by decide +kernel
theorem dX9_isFigure_16 : decode cX9_isFigure 16 = .ok (.iconst 0, 1) := by decide +kernel
theorem dX9_isFigure_17 : decode cX9_isFigure 17 = .ok (.ireturn, 1) := by decide +kernel
set_option maxRecDepth 20000 in
theorem ggX10_init_X6_init : GoodIn wsX10_init wsX6_init := goodIn_r _ [21, 22, 2, 3, 23, 24, 17, 25, 26, 27, 28, 29, 47, 48, 49, 50, 51, 52, 53] rfl (by decide +kernel)
set_option maxRecDepth 20000 in
theorem gX10_init_X6_init_n11 : GoodIn wsX10_init (wsX6_init) := ggX10_init_X6_init
set_option maxRecDepth 20000 in
theorem ggX10_init_X8_init : GoodIn wsX10_init wsX8_init := goodIn_r _ [32, 33, 2, 3, 17, 34, 35, 36, 37, 38, 39, 40, 41, 42, 43, 44, 45, 46, 63, 64, 65, 66, 67, 68, 69, 70, 71] rfl (by decide +kernel)
set_option maxRecDepth 20000 in
theorem gX10_init_X8_init : GoodIn wsX10_init (wsX8_init) := ggX10_init_X8_init
theorem dX10_init_0 : decode cX10_init 0 = .ok (.aload_n 0, 1) := by decide +kernel
theorem dX10_init_1 : decode cX10_init 1 = .ok (.invokespecial 3, 3) := by decide +kernel
theorem dX10_init_4 : decode cX10_init 4 = .ok (.aload_n 0, 1) := by decide +kernel
theorem dX10_init_5 : decode cX10_init 5 = .ok (.new 9, 3) := by decide +kernel
theorem dX10_init_8 : decode cX10_init 8 = .ok (.dup, 1) := by decide +kernel
theorem dX10_init_9 : decode cX10_init 9 = .ok (.invokespecial 11, 3) := by decide +kernel
theorem dX10_init_12 : decode cX10_init 12 = .ok (.putfield 12, 3) := by decide +kernel
theorem dX10_init_15 : decode cX10_init 15 = .ok (.aload_n 0, 1) := by decide +kernel
theorem dX10_init_16 : decode cX10_init 16 = .ok (.new 18, 3) := by decide +kernel
theorem dX10_init_19 : decode cX10_init 19 = .ok (.dup, 1) := by decide +kernel
theorem dX10_init_20 : decode cX10_init 20 = .ok (.invokespecial 20, 3) := by decide +kernel
theorem dX10_init_23 : decode cX10_init 23 = .ok (.putfield 21, 3) := by decide +kernel
theorem dX10_init_26 : decode cX10_init 26 = .ok (.aload_n 0, 1) := by decide +kernel
theorem dX10_init_27 : decode cX10_init 27 = .ok (.iconst 0, 1) := by decide +kernel
theorem dX10_init_28 : decode cX10_init 28 = .ok (.putfield 25, 3) := by decide +kernel
theorem dX10_init_31 : decode cX10_init 31 = .ok (.aload_n 0, 1) := by decide +kernel
theorem dX10_init_32 : decode cX10_init 32 = .ok (.iconst 0, 1) := by decide +kernel
theorem dX10_init_33 : decode cX10_init 33 = .ok (.putfield 29, 3) := by decide +kernel
theorem dX10_init_36 : decode cX10_init 36 = .ok (.aload_n 0, 1) := by decide +kernel
theorem dX10_init_37 : decode cX10_init 37 = .ok (.iconst 0, 1) := by decide +kernel
theorem dX10_init_38 : decode cX10_init 38 = .ok (.putfield 32, 3) := by decide +kernel
theorem dX10_init_41 : decode cX10_init 41 = .ok (.aload_n 0, 1) := by decide +kernel
theorem dX10_init_42 : decode cX10_init 42 = .ok (.iconst 0, 1) := by decide +kernel
theorem dX10_init_43 : decode cX10_init 43 = .ok (.putfield 35, 3) := by decide +kernel
theorem dX10_init_46 : decode cX10_init 46 = .ok (.aload_n 0, 1) := by decide +kernel
theorem dX10_init_47 : decode cX10_init 47 = .ok (.iconst 0, 1) := by decide +kernel
theorem dX10_init_48 : decode cX10_init 48 = .ok (.putfield 38, 3) := by decide +kernel
theorem dX10_init_51 : decode cX10_init 51 = .ok (.aload_n 0, 1) := by decide +kernel
theorem dX10_init_52 : decode cX10_init 52 = .ok (.bipush 7, 2) := by decide +kernel
theorem dX10_init_54 : decode cX10_init 54 = .ok (.newarray .int, 2) := by decide +kernel
theorem dX10_init_56 : decode cX10_init 56 = .ok (.putfield 41, 3) := by decide +kernel
theorem dX10_init_59 : decode cX10_init 59 = .ok (.aload_n 0, 1) := by decide +kernel
theorem dX10_init_60 : decode cX10_init 60 = .ok (.aload_n 1, 1) := by decide +kernel
theorem dX10_init_61 : decode cX10_init 61 = .ok (.putfield 45, 3) := by decide +kernel
theorem dX10_init_64 : decode cX10_init 64 = .ok (.return_, 1) := by decide +kernel
set_option maxRecDepth 20000 in
theorem ggX10_readTape_X10_begin : GoodIn wsX10_readTape wsX10_begin := goodIn_r _ [13, 3, 14, 5, 1, 8, 15, 2, 16, 17, 18, 19, 20, 21, 22, 23, 24, 25, 26, 27, 28, 29, 30, 31, 32, 33, 34, 35, 36, 37, 38, 39, 40, 41, 42, 43, 44, 45, 46, 47, 221, 222, 223, 224, 225, 226, 227, 228, 229, 230, 231, 232, 233, 234, 235, 236, 243, 244, 245, 246, 247, 248, 249, 250, 251, 237, 238, 239, 240, 241, 242] rfl (by decide +kernel)
set_option maxRecDepth 20000 in
theorem gX10_readTape_X10_begin : GoodIn wsX10_readTape (wsV RX10 49 RX10 yX10_begin wsX10_begin) := goodIn_app (goodIn_of _ (by decide +kernel)) ggX10_readTape_X10_begin
set_option maxRecDepth 20000 in
theorem ggX10_readTape_X10_readLine : GoodIn wsX10_readTape wsX10_readLine := goodIn_r _ [51, 5, 52, 53, 15, 54, 55, 56, 57, 58, 59, 60, 45, 61, 47, 62, 63, 64, 65, 66, 67, 68, 69, 70, 71, 72, 73, 74, 75, 76, 77, 78, 79, 80, 81, 82, 83, 12, 84, 85, 86, 87, 88, 89, 90, 91, 92, 93, 94, 95, 96, 97, 98, 99, 100, 101, 102, 103, 104, 105, 106, 107, 108, 109, 110, 111, 112, 113, 114, 115, 116, 117, 118, 119, 120, 121, 122, 123, 124, 125, 126, 127, 128, 129, 130, 131, 132, 133, 134, 135, 136, 137, 138, 139, 140, 141, 142, 143, 144, 3, 145, 146, 147, 148, 149, 1, 7, 150, 151, 152, 153, 8, 4, 14, 154, 155, 156, 157, 158, 159, 160, 161, 162, 163, 164, 165, 166, 167, 168, 169, 170, 2, 171, 172, 173, 31, 174, 34, 175, 176, 177, 178, 179, 180, 181, 19, 182, 22, 183, 184, 185, 186, 187, 188, 189, 190, 191, 192, 193, 194, 195, 196, 197, 198, 199, 200, 201, 221, 222, 223, 224, 225, 226, 227, 228, 229, 237, 238, 239, 240, 241, 242, 230, 231, 232, 233, 234, 235, 236, 243, 244, 245, 246, 247, 248, 249, 250, 251] rfl (by decide +kernel)
set_option maxRecDepth 20000 in
theorem gX10_readTape_X10_readLine : GoodIn wsX10_readTape (wsV RX10 52 RX10 yX10_readLine wsX10_readLine) := goodIn_app (goodIn_of _ (by decide +kernel)) ggX10_readTape_X10_readLine
set_option maxRecDepth 20000 in
theorem ggX10_readTape_X10_refuse : GoodIn wsX10_readTape wsX10_refuse := goodIn_r _ [149, 1, 7, 221, 222, 223, 224, 225, 226, 227, 228, 229] rfl (by decide +kernel)
set_option maxRecDepth 20000 in
theorem gX10_readTape_X10_refuse : GoodIn wsX10_readTape (wsV RX10 64 RX10 yX10_refuse wsX10_refuse) := goodIn_app (goodIn_of _ (by decide +kernel)) ggX10_readTape_X10_refuse
set_option maxRecDepth 20000 in
theorem ggX10_readTape_X6_workOutStirs : GoodIn wsX10_readTape wsX6_workOutStirs := goodIn_r _ [205, 22, 21, 206, 207, 208, 209, 19, 210, 183, 184, 185, 211, 212, 213, 214, 215, 216, 217, 218, 219, 220, 230, 231, 232, 233, 234, 235, 236] rfl (by decide +kernel)
set_option maxRecDepth 20000 in
theorem gX10_readTape_X6_workOutStirs : GoodIn wsX10_readTape (wsV RX10 68 RX6 yX6_workOutStirs wsX6_workOutStirs) := goodIn_app (goodIn_of _ (by decide +kernel)) ggX10_readTape_X6_workOutStirs
theorem dX10_readTape_0 : decode cX10_readTape 0 = .ok (.aload_n 0, 1) := by decide +kernel
theorem dX10_readTape_1 : decode cX10_readTape 1 = .ok (.invokevirtual 49, 3) := by decide +kernel
theorem dX10_readTape_4 : decode cX10_readTape 4 = .ok (.iconst 1, 1) := by decide +kernel
theorem dX10_readTape_5 : decode cX10_readTape 5 = .ok (.istore_n 1, 1) := by decide +kernel
theorem dX10_readTape_6 : decode cX10_readTape 6 = .ok (.iconst 0, 1) := by decide +kernel
theorem dX10_readTape_7 : decode cX10_readTape 7 = .ok (.istore_n 2, 1) := by decide +kernel
theorem dX10_readTape_8 : decode cX10_readTape 8 = .ok (.iload_n 2, 1) := by decide +kernel
theorem dX10_readTape_9 : decode cX10_readTape 9 = .ok (.sipush 320, 3) := by decide +kernel
theorem dX10_readTape_12 : decode cX10_readTape 12 = .ok (.if_icmp .gt 18, 3) := by decide +kernel
theorem dX10_readTape_15 : decode cX10_readTape 15 = .ok (.iload_n 1, 1) := by decide +kernel
theorem dX10_readTape_16 : decode cX10_readTape 16 = .ok (.ifCond .eq 14, 3) := by decide +kernel
theorem dX10_readTape_19 : decode cX10_readTape 19 = .ok (.aload_n 0, 1) := by decide +kernel
theorem dX10_readTape_20 : decode cX10_readTape 20 = .ok (.invokevirtual 52, 3) := by decide +kernel
theorem dX10_readTape_23 : decode cX10_readTape 23 = .ok (.istore_n 1, 1) := by decide +kernel
theorem dX10_readTape_24 : decode cX10_readTape 24 = .ok (.iinc 2 1, 3) := by decide +kernel
theorem dX10_readTape_27 : decode cX10_readTape 27 = .ok (.goto (-19), 3) := by decide +kernel
theorem dX10_readTape_30 : decode cX10_readTape 30 = .ok (.aload_n 0, 1) := by decide +kernel
theorem dX10_readTape_31 : decode cX10_readTape 31 = .ok (.getfield 25, 3) := by decide +kernel
theorem dX10_readTape_34 : decode cX10_readTape 34 = .ok (.ifCond .ne 31, 3) := by decide +kernel
theorem dX10_readTape_37 : decode cX10_readTape 37 = .ok (.aload_n 0, 1) := by decide +kernel
theorem dX10_readTape_38 : decode cX10_readTape 38 = .ok (.getfield 38, 3) := by decide +kernel
theorem dX10_readTape_41 : decode cX10_readTape 41 = .ok (.aload_n 0, 1) := by decide +kernel
theorem dX10_readTape_42 : decode cX10_readTape 42 = .ok (.getfield 12, 3) := by decide +kernel
theorem dX10_readTape_45 : decode cX10_readTape 45 = .ok (.getfield 56, 3) := by decide +kernel
theorem dX10_readTape_48 : decode cX10_readTape 48 = .ok (.if_icmp .lt 17, 3) := by decide +kernel
theorem dX10_readTape_51 : decode cX10_readTape 51 = .ok (.aload_n 0, 1) := by decide +kernel
theorem dX10_readTape_52 : decode cX10_readTape 52 = .ok (.bipush 6, 2) := by decide +kernel
theorem dX10_readTape_54 : decode cX10_readTape 54 = .ok (.aload_n 0, 1) := by decide +kernel
theorem dX10_readTape_55 : decode cX10_readTape 55 = .ok (.getfield 45, 3) := by decide +kernel
theorem dX10_readTape_58 : decode cX10_readTape 58 = .ok (.getfield 59, 3) := by decide +kernel
theorem dX10_readTape_61 : decode cX10_readTape 61 = .ok (.invokevirtual 64, 3) := by decide +kernel
theorem dX10_readTape_64 : decode cX10_readTape 64 = .ok (.pop, 1) := by decide +kernel
theorem dX10_readTape_65 : decode cX10_readTape 65 = .ok (.aload_n 0, 1) := by decide +kernel
theorem dX10_readTape_66 : decode cX10_readTape 66 = .ok (.getfield 25, 3) := by decide +kernel
theorem dX10_readTape_69 : decode cX10_readTape 69 = .ok (.ifCond .eq 11, 3) := by decide +kernel
theorem dX10_readTape_72 : decode cX10_readTape 72 = .ok (.bipush (-10), 2) := by decide +kernel
theorem dX10_readTape_74 : decode cX10_readTape 74 = .ok (.aload_n 0, 1) := by decide +kernel
theorem dX10_readTape_75 : decode cX10_readTape 75 = .ok (.getfield 29, 3) := by decide +kernel
theorem dX10_readTape_78 : decode cX10_readTape 78 = .ok (.isub, 1) := by decide +kernel
theorem dX10_readTape_79 : decode cX10_readTape 79 = .ok (.ireturn, 1) := by decide +kernel
theorem dX10_readTape_80 : decode cX10_readTape 80 = .ok (.aload_n 0, 1) := by decide +kernel
theorem dX10_readTape_81 : decode cX10_readTape 81 = .ok (.getfield 12, 3) := by decide +kernel
theorem dX10_readTape_84 : decode cX10_readTape 84 = .ok (.invokevirtual 68, 3) := by decide +kernel
theorem dX10_readTape_87 : decode cX10_readTape 87 = .ok (.aload_n 0, 1) := by decide +kernel
theorem dX10_readTape_88 : decode cX10_readTape 88 = .ok (.getfield 32, 3) := by decide +kernel
theorem dX10_readTape_91 : decode cX10_readTape 91 = .ok (.ireturn, 1) := by decide +kernel
set_option maxRecDepth 20000 in
theorem ggX10_begin_X6_reset : GoodIn wsX10_begin wsX6_reset := goodIn_r _ [12, 13, 14, 15, 16, 17, 18, 19, 49, 50, 51, 52, 53, 54, 55] rfl (by decide +kernel)
set_option maxRecDepth 20000 in
theorem gX10_begin_X6_reset : GoodIn wsX10_begin (wsV RX10 71 RX6 yX6_reset wsX6_reset) := goodIn_app (goodIn_of _ (by decide +kernel)) ggX10_begin_X6_reset
set_option maxRecDepth 20000 in
theorem ggX10_begin_X8_reset : GoodIn wsX10_begin wsX8_reset := goodIn_r _ [24, 25, 26, 27, 28, 29, 30, 31, 32, 33, 17, 18, 19, 56, 57, 58, 59, 60, 61, 62, 63, 64] rfl (by decide +kernel)
set_option maxRecDepth 20000 in
theorem gX10_begin_X8_reset : GoodIn wsX10_begin (wsV RX10 74 RX8 yX8_reset wsX8_reset) := goodIn_app (goodIn_of _ (by decide +kernel)) ggX10_begin_X8_reset
set_option maxRecDepth 20000 in
theorem ggX10_begin_X9_rewind : GoodIn wsX10_begin wsX9_rewind := goodIn_r _ [38, 39, 65, 66, 67, 68, 69, 70] rfl (by decide +kernel)
set_option maxRecDepth 20000 in
theorem gX10_begin_X9_rewind : GoodIn wsX10_begin (wsV RX10 75 RX9 yX9_rewind wsX9_rewind) := goodIn_app (goodIn_of _ (by decide +kernel)) ggX10_begin_X9_rewind
theorem dX10_begin_0 : decode cX10_begin 0 = .ok (.aload_n 0, 1) := by decide +kernel
theorem dX10_begin_1 : decode cX10_begin 1 = .ok (.getfield 12, 3) := by decide +kernel
theorem dX10_begin_4 : decode cX10_begin 4 = .ok (.invokevirtual 71, 3) := by decide +kernel
theorem dX10_begin_7 : decode cX10_begin 7 = .ok (.aload_n 0, 1) := by decide +kernel
theorem dX10_begin_8 : decode cX10_begin 8 = .ok (.getfield 21, 3) := by decide +kernel
theorem dX10_begin_11 : decode cX10_begin 11 = .ok (.invokevirtual 74, 3) := by decide +kernel
theorem dX10_begin_14 : decode cX10_begin 14 = .ok (.aload_n 0, 1) := by decide +kernel
theorem dX10_begin_15 : decode cX10_begin 15 = .ok (.getfield 45, 3) := by decide +kernel
theorem dX10_begin_18 : decode cX10_begin 18 = .ok (.invokevirtual 75, 3) := by decide +kernel
theorem dX10_begin_21 : decode cX10_begin 21 = .ok (.aload_n 0, 1) := by decide +kernel
theorem dX10_begin_22 : decode cX10_begin 22 = .ok (.iconst 0, 1) := by decide +kernel
theorem dX10_begin_23 : decode cX10_begin 23 = .ok (.putfield 25, 3) := by decide +kernel
theorem dX10_begin_26 : decode cX10_begin 26 = .ok (.aload_n 0, 1) := by decide +kernel
theorem dX10_begin_27 : decode cX10_begin 27 = .ok (.iconst 0, 1) := by decide +kernel
theorem dX10_begin_28 : decode cX10_begin 28 = .ok (.putfield 32, 3) := by decide +kernel
theorem dX10_begin_31 : decode cX10_begin 31 = .ok (.aload_n 0, 1) := by decide +kernel
theorem dX10_begin_32 : decode cX10_begin 32 = .ok (.iconst 0, 1) := by decide +kernel
theorem dX10_begin_33 : decode cX10_begin 33 = .ok (.putfield 35, 3) := by decide +kernel
theorem dX10_begin_36 : decode cX10_begin 36 = .ok (.aload_n 0, 1) := by decide +kernel
theorem dX10_begin_37 : decode cX10_begin 37 = .ok (.iconst 0, 1) := by decide +kernel
theorem dX10_begin_38 : decode cX10_begin 38 = .ok (.putfield 38, 3) := by decide +kernel
theorem dX10_begin_41 : decode cX10_begin 41 = .ok (.return_, 1) := by decide +kernel
theorem dX10_refuse_0 : decode cX10_refuse 0 = .ok (.aload_n 0, 1) := by decide +kernel
theorem dX10_refuse_1 : decode cX10_refuse 1 = .ok (.iload_n 1, 1) := by decide +kernel
theorem dX10_refuse_2 : decode cX10_refuse 2 = .ok (.putfield 25, 3) := by decide +kernel
theorem dX10_refuse_5 : decode cX10_refuse 5 = .ok (.aload_n 0, 1) := by decide +kernel
theorem dX10_refuse_6 : decode cX10_refuse 6 = .ok (.iload_n 2, 1) := by decide +kernel
theorem dX10_refuse_7 : decode cX10_refuse 7 = .ok (.putfield 29, 3) := by decide +kernel
theorem dX10_refuse_10 : decode cX10_refuse 10 = .ok (.iconst 0, 1) := by decide +kernel
theorem dX10_refuse_11 : decode cX10_refuse 11 = .ok (.ireturn, 1) := by decide +kernel
set_option maxRecDepth 20000 in
theorem ggX10_readLine_X9_readToken : GoodIn wsX10_readLine wsX9_readToken := goodIn_r _ [13, 14, 15, 16, 17, 18, 19, 20, 12, 21, 22, 23, 24, 25, 26, 27, 28, 29, 30, 31, 32, 33, 176, 177, 178, 179, 180, 181] rfl (by decide +kernel)
set_option maxRecDepth 20000 in
theorem gX10_readLine_X9_readToken : GoodIn wsX10_readLine (wsV RX10 78 RX9 yX9_readToken wsX9_readToken) := goodIn_app (goodIn_of _ (by decide +kernel)) ggX10_readLine_X9_readToken
set_option maxRecDepth 20000 in
theorem ggX10_readLine_X10_nameRead : GoodIn wsX10_readLine wsX10_nameRead := goodIn_r _ [38, 1, 2, 39, 40, 37, 41, 42, 43, 44, 12, 45, 14, 17, 16, 46, 47, 48, 49, 50, 51, 52, 53, 54, 55, 56, 57, 58, 59, 60, 61, 62, 63, 64, 65, 66, 67, 68, 69, 70, 71, 72, 73, 74, 75, 76, 77, 78, 79, 80, 81, 82, 83, 84, 85, 86, 87, 88, 89, 90, 91, 92, 93, 94, 167, 168, 169, 170, 171, 172, 173, 174, 175, 176, 177, 178, 179, 180, 181] rfl (by decide +kernel)
set_option maxRecDepth 20000 in
theorem gX10_readLine_X10_nameRead : GoodIn wsX10_readLine (wsV RX10 84 RX10 yX10_nameRead wsX10_nameRead) := goodIn_app (goodIn_of _ (by decide +kernel)) ggX10_readLine_X10_nameRead
set_option maxRecDepth 20000 in
theorem ggX10_readLine_X10_faultOfName : GoodIn wsX10_readLine wsX10_faultOfName := goodIn_r _ [98, 1, 2, 4, 99, 100, 167, 168, 169, 170, 171, 172, 173, 174, 175, 176, 177, 178, 179, 180, 181, 182, 183, 184, 185, 186, 187, 188] rfl (by decide +kernel)
set_option maxRecDepth 20000 in
theorem gX10_readLine_X10_faultOfName : GoodIn wsX10_readLine (wsV RX10 88 RX10 yX10_faultOfName wsX10_faultOfName) := goodIn_app (goodIn_of _ (by decide +kernel)) ggX10_readLine_X10_faultOfName
set_option maxRecDepth 20000 in
theorem ggX10_readLine_X10_refuse : GoodIn wsX10_readLine wsX10_refuse := goodIn_r _ [104, 105, 106, 167, 168, 169, 170, 171, 172, 173, 174, 175] rfl (by decide +kernel)
set_option maxRecDepth 20000 in
theorem gX10_readLine_X10_refuse : GoodIn wsX10_readLine (wsV RX10 64 RX10 yX10_refuse wsX10_refuse) := goodIn_app (goodIn_of _ (by decide +kernel)) ggX10_readLine_X10_refuse
set_option maxRecDepth 20000 in
theorem ggX10_readLine_X10_takeLine : GoodIn wsX10_readLine wsX10_takeLine := goodIn_r _ [110, 111, 7, 99, 112, 113, 114, 115, 116, 117, 118, 119, 120, 121, 122, 123, 124, 125, 126, 127, 128, 129, 37, 130, 131, 132, 133, 134, 135, 136, 137, 138, 139, 140, 141, 142, 143, 144, 145, 146, 147, 148, 149, 150, 167, 168, 169, 170, 171, 172, 173, 174, 175, 182, 183, 184, 185, 186, 187, 188, 189, 190, 191, 192, 193, 194, 195, 196, 197] rfl (by decide +kernel)
set_option maxRecDepth 20000 in
theorem gX10_readLine_X10_takeLine : GoodIn wsX10_readLine (wsV RX10 101 RX10 yX10_takeLine wsX10_takeLine) := goodIn_app (goodIn_of _ (by decide +kernel)) ggX10_readLine_X10_takeLine
set_option maxRecDepth 20000 in
theorem ggX10_readLine_X10_faultOfNumber : GoodIn wsX10_readLine wsX10_faultOfNumber := goodIn_r _ [154, 1, 2, 5, 155, 156, 157, 158, 8, 159, 160, 161, 37, 162, 7, 113, 163, 164, 165, 135, 166, 137, 167, 168, 169, 170, 171, 172, 173, 174, 175, 176, 177, 178, 179, 180, 181, 189, 190, 191, 192, 193, 194, 195, 196, 197] rfl (by decide +kernel)
set_option maxRecDepth 20000 in
theorem gX10_readLine_X10_faultOfNumber : GoodIn wsX10_readLine (wsV RX10 105 RX10 yX10_faultOfNumber wsX10_faultOfNumber) := goodIn_app (goodIn_of _ (by decide +kernel)) ggX10_readLine_X10_faultOfNumber
theorem dX10_readLine_0 : decode cX10_readLine 0 = .ok (.aload_n 0, 1) := by decide +kernel
theorem dX10_readLine_1 : decode cX10_readLine 1 = .ok (.getfield 45, 3) := by decide +kernel
theorem dX10_readLine_4 : decode cX10_readLine 4 = .ok (.invokevirtual 78, 3) := by decide +kernel
theorem dX10_readLine_7 : decode cX10_readLine 7 = .ok (.aload_n 0, 1) := by decide +kernel
theorem dX10_readLine_8 : decode cX10_readLine 8 = .ok (.getfield 45, 3) := by decide +kernel
theorem dX10_readLine_11 : decode cX10_readLine 11 = .ok (.getfield 81, 3) := by decide +kernel
theorem dX10_readLine_14 : decode cX10_readLine 14 = .ok (.ifCond .ne 5, 3) := by decide +kernel
theorem dX10_readLine_17 : decode cX10_readLine 17 = .ok (.iconst 0, 1) := by decide +kernel
theorem dX10_readLine_18 : decode cX10_readLine 18 = .ok (.ireturn, 1) := by decide +kernel
theorem dX10_readLine_19 : decode cX10_readLine 19 = .ok (.aload_n 0, 1) := by decide +kernel
theorem dX10_readLine_20 : decode cX10_readLine 20 = .ok (.invokevirtual 84, 3) := by decide +kernel
theorem dX10_readLine_23 : decode cX10_readLine 23 = .ok (.istore_n 1, 1) := by decide +kernel
theorem dX10_readLine_24 : decode cX10_readLine 24 = .ok (.aload_n 0, 1) := by decide +kernel
theorem dX10_readLine_25 : decode cX10_readLine 25 = .ok (.iload_n 1, 1) := by decide +kernel
theorem dX10_readLine_26 : decode cX10_readLine 26 = .ok (.invokevirtual 88, 3) := by decide +kernel
theorem dX10_readLine_29 : decode cX10_readLine 29 = .ok (.istore_n 2, 1) := by decide +kernel
theorem dX10_readLine_30 : decode cX10_readLine 30 = .ok (.iload_n 2, 1) := by decide +kernel
theorem dX10_readLine_31 : decode cX10_readLine 31 = .ok (.ifCond .eq 16, 3) := by decide +kernel
theorem dX10_readLine_34 : decode cX10_readLine 34 = .ok (.aload_n 0, 1) := by decide +kernel
theorem dX10_readLine_35 : decode cX10_readLine 35 = .ok (.iload_n 2, 1) := by decide +kernel
theorem dX10_readLine_36 : decode cX10_readLine 36 = .ok (.aload_n 0, 1) := by decide +kernel
theorem dX10_readLine_37 : decode cX10_readLine 37 = .ok (.getfield 45, 3) := by decide +kernel
theorem dX10_readLine_40 : decode cX10_readLine 40 = .ok (.getfield 92, 3) := by decide +kernel
theorem dX10_readLine_43 : decode cX10_readLine 43 = .ok (.invokevirtual 64, 3) := by decide +kernel
theorem dX10_readLine_46 : decode cX10_readLine 46 = .ok (.ireturn, 1) := by decide +kernel
theorem dX10_readLine_47 : decode cX10_readLine 47 = .ok (.aload_n 0, 1) := by decide +kernel
theorem dX10_readLine_48 : decode cX10_readLine 48 = .ok (.dup, 1) := by decide +kernel
theorem dX10_readLine_49 : decode cX10_readLine 49 = .ok (.getfield 35, 3) := by decide +kernel
theorem dX10_readLine_52 : decode cX10_readLine 52 = .ok (.iconst 1, 1) := by decide +kernel
theorem dX10_readLine_53 : decode cX10_readLine 53 = .ok (.iload_n 1, 1) := by decide +kernel
theorem dX10_readLine_54 : decode cX10_readLine 54 = .ok (.ishl, 1) := by decide +kernel
theorem dX10_readLine_55 : decode cX10_readLine 55 = .ok (.ior, 1) := by decide +kernel
theorem dX10_readLine_56 : decode cX10_readLine 56 = .ok (.putfield 35, 3) := by decide +kernel
theorem dX10_readLine_59 : decode cX10_readLine 59 = .ok (.iconst 0, 1) := by decide +kernel
theorem dX10_readLine_60 : decode cX10_readLine 60 = .ok (.istore_n 3, 1) := by decide +kernel
theorem dX10_readLine_61 : decode cX10_readLine 61 = .ok (.iload_n 3, 1) := by decide +kernel
theorem dX10_readLine_62 : decode cX10_readLine 62 = .ok (.getstatic 95, 3) := by decide +kernel
theorem dX10_readLine_65 : decode cX10_readLine 65 = .ok (.iload_n 1, 1) := by decide +kernel
theorem dX10_readLine_66 : decode cX10_readLine 66 = .ok (.iaload, 1) := by decide +kernel
theorem dX10_readLine_67 : decode cX10_readLine 67 = .ok (.if_icmp .gt 81, 3) := by decide +kernel
theorem dX10_readLine_70 : decode cX10_readLine 70 = .ok (.aload_n 0, 1) := by decide +kernel
theorem dX10_readLine_71 : decode cX10_readLine 71 = .ok (.getfield 45, 3) := by decide +kernel
theorem dX10_readLine_74 : decode cX10_readLine 74 = .ok (.invokevirtual 78, 3) := by decide +kernel
theorem dX10_readLine_77 : decode cX10_readLine 77 = .ok (.aload_n 0, 1) := by decide +kernel
theorem dX10_readLine_78 : decode cX10_readLine 78 = .ok (.getfield 45, 3) := by decide +kernel
theorem dX10_readLine_81 : decode cX10_readLine 81 = .ok (.getfield 81, 3) := by decide +kernel
theorem dX10_readLine_84 : decode cX10_readLine 84 = .ok (.iconst 3, 1) := by decide +kernel
theorem dX10_readLine_85 : decode cX10_readLine 85 = .ok (.if_icmp .ne 20, 3) := by decide +kernel
theorem dX10_readLine_88 : decode cX10_readLine 88 = .ok (.iload_n 3, 1) := by decide +kernel
theorem dX10_readLine_89 : decode cX10_readLine 89 = .ok (.getstatic 98, 3) := by decide +kernel
theorem dX10_readLine_92 : decode cX10_readLine 92 = .ok (.iload_n 1, 1) := by decide +kernel
theorem dX10_readLine_93 : decode cX10_readLine 93 = .ok (.iaload, 1) := by decide +kernel
theorem dX10_readLine_94 : decode cX10_readLine 94 = .ok (.if_icmp .lt 11, 3) := by decide +kernel
theorem dX10_readLine_97 : decode cX10_readLine 97 = .ok (.aload_n 0, 1) := by decide +kernel
theorem dX10_readLine_98 : decode cX10_readLine 98 = .ok (.iload_n 1, 1) := by decide +kernel
theorem dX10_readLine_99 : decode cX10_readLine 99 = .ok (.iload_n 3, 1) := by decide +kernel
theorem dX10_readLine_100 : decode cX10_readLine 100 = .ok (.invokevirtual 101, 3) := by decide +kernel
theorem dX10_readLine_103 : decode cX10_readLine 103 = .ok (.iconst 1, 1) := by decide +kernel
theorem dX10_readLine_104 : decode cX10_readLine 104 = .ok (.ireturn, 1) := by decide +kernel
theorem dX10_readLine_105 : decode cX10_readLine 105 = .ok (.aload_n 0, 1) := by decide +kernel
theorem dX10_readLine_106 : decode cX10_readLine 106 = .ok (.iload_n 1, 1) := by decide +kernel
theorem dX10_readLine_107 : decode cX10_readLine 107 = .ok (.iload_n 3, 1) := by decide +kernel
theorem dX10_readLine_108 : decode cX10_readLine 108 = .ok (.invokevirtual 105, 3) := by decide +kernel
theorem dX10_readLine_111 : decode cX10_readLine 111 = .ok (.istore_n 2, 1) := by decide +kernel
theorem dX10_readLine_112 : decode cX10_readLine 112 = .ok (.iload_n 2, 1) := by decide +kernel
theorem dX10_readLine_113 : decode cX10_readLine 113 = .ok (.ifCond .eq 16, 3) := by decide +kernel
theorem dX10_readLine_116 : decode cX10_readLine 116 = .ok (.aload_n 0, 1) := by decide +kernel
theorem dX10_readLine_117 : decode cX10_readLine 117 = .ok (.iload_n 2, 1) := by decide +kernel
theorem dX10_readLine_118 : decode cX10_readLine 118 = .ok (.aload_n 0, 1) := by decide +kernel
theorem dX10_readLine_119 : decode cX10_readLine 119 = .ok (.getfield 45, 3) := by decide +kernel
theorem dX10_readLine_122 : decode cX10_readLine 122 = .ok (.getfield 92, 3) := by decide +kernel
theorem dX10_readLine_125 : decode cX10_readLine 125 = .ok (.invokevirtual 64, 3) := by decide +kernel
theorem dX10_readLine_128 : decode cX10_readLine 128 = .ok (.ireturn, 1) := by decide +kernel
theorem dX10_readLine_129 : decode cX10_readLine 129 = .ok (.aload_n 0, 1) := by decide +kernel
theorem dX10_readLine_130 : decode cX10_readLine 130 = .ok (.getfield 41, 3) := by decide +kernel
theorem dX10_readLine_133 : decode cX10_readLine 133 = .ok (.iload_n 3, 1) := by decide +kernel
theorem dX10_readLine_134 : decode cX10_readLine 134 = .ok (.aload_n 0, 1) := by decide +kernel
theorem dX10_readLine_135 : decode cX10_readLine 135 = .ok (.getfield 45, 3) := by decide +kernel
theorem dX10_readLine_138 : decode cX10_readLine 138 = .ok (.getfield 109, 3) := by decide +kernel
theorem dX10_readLine_141 : decode cX10_readLine 141 = .ok (.iastore, 1) := by decide +kernel
theorem dX10_readLine_142 : decode cX10_readLine 142 = .ok (.iinc 3 1, 3) := by decide +kernel
theorem dX10_readLine_145 : decode cX10_readLine 145 = .ok (.goto (-84), 3) := by decide +kernel
theorem dX10_readLine_148 : decode cX10_readLine 148 = .ok (.iconst 0, 1) := by decide +kernel
theorem dX10_readLine_149 : decode cX10_readLine 149 = .ok (.ireturn, 1) := by decide +kernel
set_option maxRecDepth 20000 in
theorem ggX10_nameRead_X10_nameOf : GoodIn wsX10_nameRead wsX10_nameOf := goodIn_r _ [6] rfl (by decide +kernel)
set_option maxRecDepth 20000 in
theorem gX10_nameRead_X10_nameOf : GoodIn wsX10_nameRead (va_wsS RX10 112 yX10_nameOf wsX10_nameOf) := goodIn_app (goodIn_of _ (by decide +kernel)) ggX10_nameRead_X10_nameOf
set_option maxRecDepth 20000 in
theorem ggX10_nameRead_X9_isNamed : GoodIn wsX10_nameRead wsX9_isNamed := goodIn_r _ [11, 12, 13, 14, 15, 16, 17, 18, 19, 20, 21, 22, 23, 24, 25, 26, 27, 28, 29, 30, 31, 32, 33, 34, 35, 36, 37, 38, 39, 40, 41, 42, 43, 44, 45, 46, 47, 48, 49, 50, 51, 52, 53, 54, 55, 56, 57, 58, 59, 60, 61, 62, 63, 73, 74, 75, 76, 77, 78] rfl (by decide +kernel)
set_option maxRecDepth 20000 in
theorem gX10_nameRead_X9_isNamed : GoodIn wsX10_nameRead (wsV RX10 116 RX9 yX9_isNamed wsX9_isNamed) := goodIn_app (goodIn_of _ (by decide +kernel)) ggX10_nameRead_X9_isNamed
theorem dX10_nameRead_0 : decode cX10_nameRead 0 = .ok (.iconst 0, 1) := by decide +kernel
theorem dX10_nameRead_1 : decode cX10_nameRead 1 = .ok (.istore_n 1, 1) := by decide +kernel
theorem dX10_nameRead_2 : decode cX10_nameRead 2 = .ok (.iload_n 1, 1) := by decide +kernel
theorem dX10_nameRead_3 : decode cX10_nameRead 3 = .ok (.bipush 11, 2) := by decide +kernel
theorem dX10_nameRead_5 : decode cX10_nameRead 5 = .ok (.if_icmp .ge 36, 3) := by decide +kernel
theorem dX10_nameRead_8 : decode cX10_nameRead 8 = .ok (.aload_n 0, 1) := by decide +kernel
theorem dX10_nameRead_9 : decode cX10_nameRead 9 = .ok (.getfield 45, 3) := by decide +kernel
theorem dX10_nameRead_12 : decode cX10_nameRead 12 = .ok (.getfield 81, 3) := by decide +kernel
theorem dX10_nameRead_15 : decode cX10_nameRead 15 = .ok (.iconst 1, 1) := by decide +kernel
theorem dX10_nameRead_16 : decode cX10_nameRead 16 = .ok (.if_icmp .ne 25, 3) := by decide +kernel
theorem dX10_nameRead_19 : decode cX10_nameRead 19 = .ok (.aload_n 0, 1) := by decide +kernel
theorem dX10_nameRead_20 : decode cX10_nameRead 20 = .ok (.getfield 45, 3) := by decide +kernel
theorem dX10_nameRead_23 : decode cX10_nameRead 23 = .ok (.iload_n 1, 1) := by decide +kernel
theorem dX10_nameRead_24 : decode cX10_nameRead 24 = .ok (.invokestatic 112, 3) := by decide +kernel
theorem dX10_nameRead_27 : decode cX10_nameRead 27 = .ok (.invokevirtual 116, 3) := by decide +kernel
theorem dX10_nameRead_30 : decode cX10_nameRead 30 = .ok (.ifCond .eq 5, 3) := by decide +kernel
theorem dX10_nameRead_33 : decode cX10_nameRead 33 = .ok (.iload_n 1, 1) := by decide +kernel
theorem dX10_nameRead_34 : decode cX10_nameRead 34 = .ok (.ireturn, 1) := by decide +kernel
theorem dX10_nameRead_35 : decode cX10_nameRead 35 = .ok (.iinc 1 1, 3) := by decide +kernel
theorem dX10_nameRead_38 : decode cX10_nameRead 38 = .ok (.goto (-36), 3) := by decide +kernel
theorem dX10_nameRead_41 : decode cX10_nameRead 41 = .ok (.bipush (-4), 2) := by decide +kernel
theorem dX10_nameRead_43 : decode cX10_nameRead 43 = .ok (.ireturn, 1) := by decide +kernel
theorem dX10_nameOf_0 : decode cX10_nameOf 0 = .ok (.iload_n 0, 1) := by decide +kernel
theorem dX10_nameOf_1 : decode cX10_nameOf 1 = .ok (.tableswitch 85 0 9 #[55, 58, 61, 64, 67, 70, 73, 76, 79, 82], 55) := by decide +kernel
theorem dX10_nameOf_56 : decode cX10_nameOf 56 = .ok (.ldc 120, 2) := by decide +kernel
theorem dX10_nameOf_58 : decode cX10_nameOf 58 = .ok (.areturn, 1) := by decide +kernel
theorem dX10_nameOf_59 : decode cX10_nameOf 59 = .ok (.ldc 121, 2) := by decide +kernel
theorem dX10_nameOf_61 : decode cX10_nameOf 61 = .ok (.areturn, 1) := by decide +kernel
theorem dX10_nameOf_62 : decode cX10_nameOf 62 = .ok (.ldc 123, 2) := by decide +kernel
theorem dX10_nameOf_64 : decode cX10_nameOf 64 = .ok (.areturn, 1) := by decide +kernel
theorem dX10_nameOf_65 : decode cX10_nameOf 65 = .ok (.ldc 125, 2) := by decide +kernel
theorem dX10_nameOf_67 : decode cX10_nameOf 67 = .ok (.areturn, 1) := by decide +kernel
theorem dX10_nameOf_68 : decode cX10_nameOf 68 = .ok (.ldc 127, 2) := by decide +kernel
theorem dX10_nameOf_70 : decode cX10_nameOf 70 = .ok (.areturn, 1) := by decide +kernel
theorem dX10_nameOf_71 : decode cX10_nameOf 71 = .ok (.ldc 129, 2) := by decide +kernel
theorem dX10_nameOf_73 : decode cX10_nameOf 73 = .ok (.areturn, 1) := by decide +kernel
theorem dX10_nameOf_74 : decode cX10_nameOf 74 = .ok (.ldc 131, 2) := by decide +kernel
theorem dX10_nameOf_76 : decode cX10_nameOf 76 = .ok (.areturn, 1) := by decide +kernel
theorem dX10_nameOf_77 : decode cX10_nameOf 77 = .ok (.ldc 133, 2) := by decide +kernel
theorem dX10_nameOf_79 : decode cX10_nameOf 79 = .ok (.areturn, 1) := by decide +kernel
theorem dX10_nameOf_80 : decode cX10_nameOf 80 = .ok (.ldc 135, 2) := by decide +kernel
theorem dX10_nameOf_82 : decode cX10_nameOf 82 = .ok (.areturn, 1) := by decide +kernel
theorem dX10_nameOf_83 : decode cX10_nameOf 83 = .ok (.ldc 137, 2) := by decide +kernel
theorem dX10_nameOf_85 : decode cX10_nameOf 85 = .ok (.areturn, 1) := by decide +kernel
theorem dX10_nameOf_86 : decode cX10_nameOf 86 = .ok (.ldc 139, 2) := by decide +kernel
theorem dX10_nameOf_88 : decode cX10_nameOf 88 = .ok (.areturn, 1) := by decide +kernel
theorem dX10_faultOfName_0 : decode cX10_faultOfName 0 = .ok (.aload_n 0, 1) := by decide +kernel
theorem dX10_faultOfName_1 : decode cX10_faultOfName 1 = .ok (.getfield 45, 3) := by decide +kernel
theorem dX10_faultOfName_4 : decode cX10_faultOfName 4 = .ok (.getfield 81, 3) := by decide +kernel
theorem dX10_faultOfName_7 : decode cX10_faultOfName 7 = .ok (.iconst 4, 1) := by decide +kernel
theorem dX10_faultOfName_8 : decode cX10_faultOfName 8 = .ok (.if_icmp .ne 5, 3) := by decide +kernel
theorem dX10_faultOfName_11 : decode cX10_faultOfName 11 = .ok (.iconst 1, 1) := by decide +kernel
theorem dX10_faultOfName_12 : decode cX10_faultOfName 12 = .ok (.ireturn, 1) := by decide +kernel
theorem dX10_faultOfName_13 : decode cX10_faultOfName 13 = .ok (.iload_n 1, 1) := by decide +kernel
theorem dX10_faultOfName_14 : decode cX10_faultOfName 14 = .ok (.bipush (-4), 2) := by decide +kernel
theorem dX10_faultOfName_16 : decode cX10_faultOfName 16 = .ok (.if_icmp .ne 5, 3) := by decide +kernel
theorem dX10_faultOfName_19 : decode cX10_faultOfName 19 = .ok (.iconst 2, 1) := by decide +kernel
theorem dX10_faultOfName_20 : decode cX10_faultOfName 20 = .ok (.ireturn, 1) := by decide +kernel
theorem dX10_faultOfName_21 : decode cX10_faultOfName 21 = .ok (.iload_n 1, 1) := by decide +kernel
theorem dX10_faultOfName_22 : decode cX10_faultOfName 22 = .ok (.iconst 3, 1) := by decide +kernel
theorem dX10_faultOfName_23 : decode cX10_faultOfName 23 = .ok (.if_icmp .gt 16, 3) := by decide +kernel
theorem dX10_faultOfName_26 : decode cX10_faultOfName 26 = .ok (.aload_n 0, 1) := by decide +kernel
theorem dX10_faultOfName_27 : decode cX10_faultOfName 27 = .ok (.getfield 35, 3) := by decide +kernel
theorem dX10_faultOfName_30 : decode cX10_faultOfName 30 = .ok (.iload_n 1, 1) := by decide +kernel
theorem dX10_faultOfName_31 : decode cX10_faultOfName 31 = .ok (.ishr, 1) := by decide +kernel
theorem dX10_faultOfName_32 : decode cX10_faultOfName 32 = .ok (.iconst 1, 1) := by decide +kernel
theorem dX10_faultOfName_33 : decode cX10_faultOfName 33 = .ok (.iand, 1) := by decide +kernel
theorem dX10_faultOfName_34 : decode cX10_faultOfName 34 = .ok (.ifCond .eq 5, 3) := by decide +kernel
theorem dX10_faultOfName_37 : decode cX10_faultOfName 37 = .ok (.iconst 4, 1) := by decide +kernel
theorem dX10_faultOfName_38 : decode cX10_faultOfName 38 = .ok (.ireturn, 1) := by decide +kernel
theorem dX10_faultOfName_39 : decode cX10_faultOfName 39 = .ok (.iload_n 1, 1) := by decide +kernel
theorem dX10_faultOfName_40 : decode cX10_faultOfName 40 = .ok (.bipush 7, 2) := by decide +kernel
theorem dX10_faultOfName_42 : decode cX10_faultOfName 42 = .ok (.if_icmp .lt 18, 3) := by decide +kernel
theorem dX10_faultOfName_45 : decode cX10_faultOfName 45 = .ok (.aload_n 0, 1) := by decide +kernel
theorem dX10_faultOfName_46 : decode cX10_faultOfName 46 = .ok (.getfield 12, 3) := by decide +kernel
theorem dX10_faultOfName_49 : decode cX10_faultOfName 49 = .ok (.getfield 141, 3) := by decide +kernel
theorem dX10_faultOfName_52 : decode cX10_faultOfName 52 = .ok (.iconst 5, 1) := by decide +kernel
theorem dX10_faultOfName_53 : decode cX10_faultOfName 53 = .ok (.if_icmp .lt 7, 3) := by decide +kernel
theorem dX10_faultOfName_56 : decode cX10_faultOfName 56 = .ok (.iconst 5, 1) := by decide +kernel
theorem dX10_faultOfName_57 : decode cX10_faultOfName 57 = .ok (.goto 4, 3) := by decide +kernel
theorem dX10_faultOfName_60 : decode cX10_faultOfName 60 = .ok (.iconst 0, 1) := by decide +kernel
theorem dX10_faultOfName_61 : decode cX10_faultOfName 61 = .ok (.ireturn, 1) := by decide +kernel
set_option maxRecDepth 20000 in
theorem ggX10_faultOfNumber_X10_isAgain : GoodIn wsX10_faultOfNumber wsX10_isAgain := goodIn_r _ [13, 1, 8, 14, 15, 16, 17, 18, 19, 20, 21, 22, 23, 24, 25, 26, 27, 28, 29, 30, 31, 32, 33, 34, 35, 36, 37, 38, 39, 40, 41, 42, 43, 44, 45] rfl (by decide +kernel)
set_option maxRecDepth 20000 in
theorem gX10_faultOfNumber_X10_isAgain : GoodIn wsX10_faultOfNumber (wsV RX10 156 RX10 yX10_isAgain wsX10_isAgain) := goodIn_app (goodIn_of _ (by decide +kernel)) ggX10_faultOfNumber_X10_isAgain
theorem dX10_faultOfNumber_0 : decode cX10_faultOfNumber 0 = .ok (.aload_n 0, 1) := by decide +kernel
theorem dX10_faultOfNumber_1 : decode cX10_faultOfNumber 1 = .ok (.getfield 45, 3) := by decide +kernel
theorem dX10_faultOfNumber_4 : decode cX10_faultOfNumber 4 = .ok (.getfield 81, 3) := by decide +kernel
theorem dX10_faultOfNumber_7 : decode cX10_faultOfNumber 7 = .ok (.iconst 4, 1) := by decide +kernel
theorem dX10_faultOfNumber_8 : decode cX10_faultOfNumber 8 = .ok (.if_icmp .ne 5, 3) := by decide +kernel
theorem dX10_faultOfNumber_11 : decode cX10_faultOfNumber 11 = .ok (.iconst 1, 1) := by decide +kernel
theorem dX10_faultOfNumber_12 : decode cX10_faultOfNumber 12 = .ok (.ireturn, 1) := by decide +kernel
theorem dX10_faultOfNumber_13 : decode cX10_faultOfNumber 13 = .ok (.iload_n 2, 1) := by decide +kernel
theorem dX10_faultOfNumber_14 : decode cX10_faultOfNumber 14 = .ok (.getstatic 95, 3) := by decide +kernel
theorem dX10_faultOfNumber_17 : decode cX10_faultOfNumber 17 = .ok (.iload_n 1, 1) := by decide +kernel
theorem dX10_faultOfNumber_18 : decode cX10_faultOfNumber 18 = .ok (.iaload, 1) := by decide +kernel
theorem dX10_faultOfNumber_19 : decode cX10_faultOfNumber 19 = .ok (.if_icmp .lt 8, 3) := by decide +kernel
theorem dX10_faultOfNumber_22 : decode cX10_faultOfNumber 22 = .ok (.iload_n 1, 1) := by decide +kernel
theorem dX10_faultOfNumber_23 : decode cX10_faultOfNumber 23 = .ok (.iconst 1, 1) := by decide +kernel
theorem dX10_faultOfNumber_24 : decode cX10_faultOfNumber 24 = .ok (.if_icmp .ne 7, 3) := by decide +kernel
theorem dX10_faultOfNumber_27 : decode cX10_faultOfNumber 27 = .ok (.iconst 1, 1) := by decide +kernel
theorem dX10_faultOfNumber_28 : decode cX10_faultOfNumber 28 = .ok (.goto 4, 3) := by decide +kernel
theorem dX10_faultOfNumber_31 : decode cX10_faultOfNumber 31 = .ok (.iconst 0, 1) := by decide +kernel
theorem dX10_faultOfNumber_32 : decode cX10_faultOfNumber 32 = .ok (.istore_n 3, 1) := by decide +kernel
theorem dX10_faultOfNumber_33 : decode cX10_faultOfNumber 33 = .ok (.aload_n 0, 1) := by decide +kernel
theorem dX10_faultOfNumber_34 : decode cX10_faultOfNumber 34 = .ok (.getfield 45, 3) := by decide +kernel
theorem dX10_faultOfNumber_37 : decode cX10_faultOfNumber 37 = .ok (.getfield 81, 3) := by decide +kernel
theorem dX10_faultOfNumber_40 : decode cX10_faultOfNumber 40 = .ok (.iconst 2, 1) := by decide +kernel
theorem dX10_faultOfNumber_41 : decode cX10_faultOfNumber 41 = .ok (.if_icmp .ne 7, 3) := by decide +kernel
theorem dX10_faultOfNumber_44 : decode cX10_faultOfNumber 44 = .ok (.iload_n 3, 1) := by decide +kernel
theorem dX10_faultOfNumber_45 : decode cX10_faultOfNumber 45 = .ok (.ifCond .ne 5, 3) := by decide +kernel
theorem dX10_faultOfNumber_48 : decode cX10_faultOfNumber 48 = .ok (.iconst 2, 1) := by decide +kernel
theorem dX10_faultOfNumber_49 : decode cX10_faultOfNumber 49 = .ok (.ireturn, 1) := by decide +kernel
theorem dX10_faultOfNumber_50 : decode cX10_faultOfNumber 50 = .ok (.iload_n 2, 1) := by decide +kernel
theorem dX10_faultOfNumber_51 : decode cX10_faultOfNumber 51 = .ok (.ifCond .ne 11, 3) := by decide +kernel
theorem dX10_faultOfNumber_54 : decode cX10_faultOfNumber 54 = .ok (.getstatic 144, 3) := by decide +kernel
theorem dX10_faultOfNumber_57 : decode cX10_faultOfNumber 57 = .ok (.iload_n 1, 1) := by decide +kernel
theorem dX10_faultOfNumber_58 : decode cX10_faultOfNumber 58 = .ok (.iaload, 1) := by decide +kernel
theorem dX10_faultOfNumber_59 : decode cX10_faultOfNumber 59 = .ok (.goto 8, 3) := by decide +kernel
theorem dX10_faultOfNumber_62 : decode cX10_faultOfNumber 62 = .ok (.getstatic 147, 3) := by decide +kernel
theorem dX10_faultOfNumber_65 : decode cX10_faultOfNumber 65 = .ok (.iload_n 1, 1) := by decide +kernel
theorem dX10_faultOfNumber_66 : decode cX10_faultOfNumber 66 = .ok (.iaload, 1) := by decide +kernel
theorem dX10_faultOfNumber_67 : decode cX10_faultOfNumber 67 = .ok (.istore 4, 2) := by decide +kernel
theorem dX10_faultOfNumber_69 : decode cX10_faultOfNumber 69 = .ok (.iload_n 2, 1) := by decide +kernel
theorem dX10_faultOfNumber_70 : decode cX10_faultOfNumber 70 = .ok (.ifCond .ne 11, 3) := by decide +kernel
theorem dX10_faultOfNumber_73 : decode cX10_faultOfNumber 73 = .ok (.getstatic 150, 3) := by decide +kernel
theorem dX10_faultOfNumber_76 : decode cX10_faultOfNumber 76 = .ok (.iload_n 1, 1) := by decide +kernel
theorem dX10_faultOfNumber_77 : decode cX10_faultOfNumber 77 = .ok (.iaload, 1) := by decide +kernel
theorem dX10_faultOfNumber_78 : decode cX10_faultOfNumber 78 = .ok (.goto 8, 3) := by decide +kernel
theorem dX10_faultOfNumber_81 : decode cX10_faultOfNumber 81 = .ok (.getstatic 153, 3) := by decide +kernel
theorem dX10_faultOfNumber_84 : decode cX10_faultOfNumber 84 = .ok (.iload_n 1, 1) := by decide +kernel
theorem dX10_faultOfNumber_85 : decode cX10_faultOfNumber 85 = .ok (.iaload, 1) := by decide +kernel
theorem dX10_faultOfNumber_86 : decode cX10_faultOfNumber 86 = .ok (.istore 5, 2) := by decide +kernel
theorem dX10_faultOfNumber_88 : decode cX10_faultOfNumber 88 = .ok (.aload_n 0, 1) := by decide +kernel
theorem dX10_faultOfNumber_89 : decode cX10_faultOfNumber 89 = .ok (.getfield 45, 3) := by decide +kernel
theorem dX10_faultOfNumber_92 : decode cX10_faultOfNumber 92 = .ok (.getfield 109, 3) := by decide +kernel
theorem dX10_faultOfNumber_95 : decode cX10_faultOfNumber 95 = .ok (.iload 4, 2) := by decide +kernel
theorem dX10_faultOfNumber_97 : decode cX10_faultOfNumber 97 = .ok (.if_icmp .lt 15, 3) := by decide +kernel
theorem dX10_faultOfNumber_100 : decode cX10_faultOfNumber 100 = .ok (.aload_n 0, 1) := by decide +kernel
theorem dX10_faultOfNumber_101 : decode cX10_faultOfNumber 101 = .ok (.getfield 45, 3) := by decide +kernel
theorem dX10_faultOfNumber_104 : decode cX10_faultOfNumber 104 = .ok (.getfield 109, 3) := by decide +kernel
theorem dX10_faultOfNumber_107 : decode cX10_faultOfNumber 107 = .ok (.iload 5, 2) := by decide +kernel
theorem dX10_faultOfNumber_109 : decode cX10_faultOfNumber 109 = .ok (.if_icmp .le 5, 3) := by decide +kernel
theorem dX10_faultOfNumber_112 : decode cX10_faultOfNumber 112 = .ok (.iconst 3, 1) := by decide +kernel
theorem dX10_faultOfNumber_113 : decode cX10_faultOfNumber 113 = .ok (.ireturn, 1) := by decide +kernel
theorem dX10_faultOfNumber_114 : decode cX10_faultOfNumber 114 = .ok (.iload_n 2, 1) := by decide +kernel
theorem dX10_faultOfNumber_115 : decode cX10_faultOfNumber 115 = .ok (.iconst 1, 1) := by decide +kernel
theorem dX10_faultOfNumber_116 : decode cX10_faultOfNumber 116 = .ok (.if_icmp .ne 13, 3) := by decide +kernel
theorem dX10_faultOfNumber_119 : decode cX10_faultOfNumber 119 = .ok (.aload_n 0, 1) := by decide +kernel
theorem dX10_faultOfNumber_120 : decode cX10_faultOfNumber 120 = .ok (.iload_n 1, 1) := by decide +kernel
theorem dX10_faultOfNumber_121 : decode cX10_faultOfNumber 121 = .ok (.invokevirtual 156, 3) := by decide +kernel
theorem dX10_faultOfNumber_124 : decode cX10_faultOfNumber 124 = .ok (.ifCond .eq 5, 3) := by decide +kernel
theorem dX10_faultOfNumber_127 : decode cX10_faultOfNumber 127 = .ok (.iconst 4, 1) := by decide +kernel
theorem dX10_faultOfNumber_128 : decode cX10_faultOfNumber 128 = .ok (.ireturn, 1) := by decide +kernel
theorem dX10_faultOfNumber_129 : decode cX10_faultOfNumber 129 = .ok (.iload_n 2, 1) := by decide +kernel
theorem dX10_faultOfNumber_130 : decode cX10_faultOfNumber 130 = .ok (.getstatic 95, 3) := by decide +kernel
theorem dX10_faultOfNumber_133 : decode cX10_faultOfNumber 133 = .ok (.iload_n 1, 1) := by decide +kernel
theorem dX10_faultOfNumber_134 : decode cX10_faultOfNumber 134 = .ok (.iaload, 1) := by decide +kernel
theorem dX10_faultOfNumber_135 : decode cX10_faultOfNumber 135 = .ok (.if_icmp .lt 7, 3) := by decide +kernel
theorem dX10_faultOfNumber_138 : decode cX10_faultOfNumber 138 = .ok (.iconst 5, 1) := by decide +kernel
theorem dX10_faultOfNumber_139 : decode cX10_faultOfNumber 139 = .ok (.goto 4, 3) := by decide +kernel
theorem dX10_faultOfNumber_142 : decode cX10_faultOfNumber 142 = .ok (.iconst 0, 1) := by decide +kernel
theorem dX10_faultOfNumber_143 : decode cX10_faultOfNumber 143 = .ok (.ireturn, 1) := by decide +kernel
set_option maxRecDepth 20000 in
theorem ggX10_isAgain_X8_isFriend : GoodIn wsX10_isAgain wsX8_isFriend := goodIn_r _ [9, 10, 26, 27, 28, 29, 30, 31, 32, 33, 34] rfl (by decide +kernel)
set_option maxRecDepth 20000 in
theorem gX10_isAgain_X8_isFriend : GoodIn wsX10_isAgain (wsV RX10 160 RX8 yX8_isFriend wsX8_isFriend) := goodIn_app (goodIn_of _ (by decide +kernel)) ggX10_isAgain_X8_isFriend
theorem dX10_isAgain_0 : decode cX10_isAgain 0 = .ok (.aload_n 0, 1) := by decide +kernel
theorem dX10_isAgain_1 : decode cX10_isAgain 1 = .ok (.getfield 45, 3) := by decide +kernel
theorem dX10_isAgain_4 : decode cX10_isAgain 4 = .ok (.getfield 109, 3) := by decide +kernel
theorem dX10_isAgain_7 : decode cX10_isAgain 7 = .ok (.aload_n 0, 1) := by decide +kernel
theorem dX10_isAgain_8 : decode cX10_isAgain 8 = .ok (.getfield 41, 3) := by decide +kernel
theorem dX10_isAgain_11 : decode cX10_isAgain 11 = .ok (.iconst 0, 1) := by decide +kernel
theorem dX10_isAgain_12 : decode cX10_isAgain 12 = .ok (.iaload, 1) := by decide +kernel
theorem dX10_isAgain_13 : decode cX10_isAgain 13 = .ok (.if_icmp .ne 7, 3) := by decide +kernel
theorem dX10_isAgain_16 : decode cX10_isAgain 16 = .ok (.iconst 1, 1) := by decide +kernel
theorem dX10_isAgain_17 : decode cX10_isAgain 17 = .ok (.goto 4, 3) := by decide +kernel
theorem dX10_isAgain_20 : decode cX10_isAgain 20 = .ok (.iconst 0, 1) := by decide +kernel
theorem dX10_isAgain_21 : decode cX10_isAgain 21 = .ok (.istore_n 2, 1) := by decide +kernel
theorem dX10_isAgain_22 : decode cX10_isAgain 22 = .ok (.iload_n 1, 1) := by decide +kernel
theorem dX10_isAgain_23 : decode cX10_isAgain 23 = .ok (.iconst 4, 1) := by decide +kernel
theorem dX10_isAgain_24 : decode cX10_isAgain 24 = .ok (.if_icmp .ne 36, 3) := by decide +kernel
theorem dX10_isAgain_27 : decode cX10_isAgain 27 = .ok (.iload_n 2, 1) := by decide +kernel
theorem dX10_isAgain_28 : decode cX10_isAgain 28 = .ok (.ifCond .ne 26, 3) := by decide +kernel
theorem dX10_isAgain_31 : decode cX10_isAgain 31 = .ok (.aload_n 0, 1) := by decide +kernel
theorem dX10_isAgain_32 : decode cX10_isAgain 32 = .ok (.getfield 21, 3) := by decide +kernel
theorem dX10_isAgain_35 : decode cX10_isAgain 35 = .ok (.aload_n 0, 1) := by decide +kernel
theorem dX10_isAgain_36 : decode cX10_isAgain 36 = .ok (.getfield 41, 3) := by decide +kernel
theorem dX10_isAgain_39 : decode cX10_isAgain 39 = .ok (.iconst 0, 1) := by decide +kernel
theorem dX10_isAgain_40 : decode cX10_isAgain 40 = .ok (.iaload, 1) := by decide +kernel
theorem dX10_isAgain_41 : decode cX10_isAgain 41 = .ok (.aload_n 0, 1) := by decide +kernel
theorem dX10_isAgain_42 : decode cX10_isAgain 42 = .ok (.getfield 45, 3) := by decide +kernel
theorem dX10_isAgain_45 : decode cX10_isAgain 45 = .ok (.getfield 109, 3) := by decide +kernel
theorem dX10_isAgain_48 : decode cX10_isAgain 48 = .ok (.invokevirtual 160, 3) := by decide +kernel
theorem dX10_isAgain_51 : decode cX10_isAgain 51 = .ok (.ifCond .eq 7, 3) := by decide +kernel
theorem dX10_isAgain_54 : decode cX10_isAgain 54 = .ok (.iconst 1, 1) := by decide +kernel
theorem dX10_isAgain_55 : decode cX10_isAgain 55 = .ok (.goto 4, 3) := by decide +kernel
theorem dX10_isAgain_58 : decode cX10_isAgain 58 = .ok (.iconst 0, 1) := by decide +kernel
theorem dX10_isAgain_59 : decode cX10_isAgain 59 = .ok (.ireturn, 1) := by decide +kernel
theorem dX10_isAgain_60 : decode cX10_isAgain 60 = .ok (.iload_n 1, 1) := by decide +kernel
theorem dX10_isAgain_61 : decode cX10_isAgain 61 = .ok (.bipush 9, 2) := by decide +kernel
theorem dX10_isAgain_63 : decode cX10_isAgain 63 = .ok (.if_icmp .ne 11, 3) := by decide +kernel
theorem dX10_isAgain_66 : decode cX10_isAgain 66 = .ok (.iload_n 2, 1) := by decide +kernel
theorem dX10_isAgain_67 : decode cX10_isAgain 67 = .ok (.ifCond .eq 7, 3) := by decide +kernel
theorem dX10_isAgain_70 : decode cX10_isAgain 70 = .ok (.iconst 1, 1) := by decide +kernel
theorem dX10_isAgain_71 : decode cX10_isAgain 71 = .ok (.goto 4, 3) := by decide +kernel
theorem dX10_isAgain_74 : decode cX10_isAgain 74 = .ok (.iconst 0, 1) := by decide +kernel
theorem dX10_isAgain_75 : decode cX10_isAgain 75 = .ok (.ireturn, 1) := by decide +kernel
set_option maxRecDepth 20000 in
theorem ggX10_takeLine_X10_heed : GoodIn wsX10_takeLine wsX10_heed := goodIn_r _ [23, 24, 13, 14, 15, 16, 44, 45, 46, 47, 48, 49, 50, 51, 52] rfl (by decide +kernel)
set_option maxRecDepth 20000 in
theorem gX10_takeLine_X10_heed : GoodIn wsX10_takeLine (wsV RX10 172 RX10 yX10_heed wsX10_heed) := goodIn_app (goodIn_of _ (by decide +kernel)) ggX10_takeLine_X10_heed
set_option maxRecDepth 20000 in
theorem ggX10_takeLine_X8_setFriend : GoodIn wsX10_takeLine wsX8_setFriend := goodIn_r _ [29, 30, 60, 61, 62, 63, 64, 65, 66, 67, 68] rfl (by decide +kernel)
set_option maxRecDepth 20000 in
theorem gX10_takeLine_X8_setFriend : GoodIn wsX10_takeLine (wsV RX10 180 RX8 yX8_setFriend wsX8_setFriend) := goodIn_app (goodIn_of _ (by decide +kernel)) ggX10_takeLine_X8_setFriend
set_option maxRecDepth 20000 in
theorem ggX10_takeLine_X10_takeStir : GoodIn wsX10_takeLine wsX10_takeStir := goodIn_r _ [34, 3, 13, 14, 15, 16, 35, 36, 37, 38, 39, 40, 41, 42, 43, 19, 20, 21, 22, 23, 24, 44, 45, 46, 47, 48, 49, 50, 51, 52, 53, 54, 55, 56, 57, 58, 59] rfl (by decide +kernel)
set_option maxRecDepth 20000 in
theorem gX10_takeLine_X10_takeStir : GoodIn wsX10_takeLine (wsV RX10 193 RX10 yX10_takeStir wsX10_takeStir) := goodIn_app (goodIn_of _ (by decide +kernel)) ggX10_takeLine_X10_takeStir
theorem dX10_takeLine_0 : decode cX10_takeLine 0 = .ok (.aload_n 0, 1) := by decide +kernel
theorem dX10_takeLine_1 : decode cX10_takeLine 1 = .ok (.dup, 1) := by decide +kernel
theorem dX10_takeLine_2 : decode cX10_takeLine 2 = .ok (.getfield 32, 3) := by decide +kernel
theorem dX10_takeLine_5 : decode cX10_takeLine 5 = .ok (.iconst 1, 1) := by decide +kernel
theorem dX10_takeLine_6 : decode cX10_takeLine 6 = .ok (.iadd, 1) := by decide +kernel
theorem dX10_takeLine_7 : decode cX10_takeLine 7 = .ok (.putfield 32, 3) := by decide +kernel
theorem dX10_takeLine_10 : decode cX10_takeLine 10 = .ok (.aload_n 0, 1) := by decide +kernel
theorem dX10_takeLine_11 : decode cX10_takeLine 11 = .ok (.getfield 41, 3) := by decide +kernel
theorem dX10_takeLine_14 : decode cX10_takeLine 14 = .ok (.iconst 0, 1) := by decide +kernel
theorem dX10_takeLine_15 : decode cX10_takeLine 15 = .ok (.iaload, 1) := by decide +kernel
theorem dX10_takeLine_16 : decode cX10_takeLine 16 = .ok (.istore_n 3, 1) := by decide +kernel
theorem dX10_takeLine_17 : decode cX10_takeLine 17 = .ok (.aload_n 0, 1) := by decide +kernel
theorem dX10_takeLine_18 : decode cX10_takeLine 18 = .ok (.getfield 41, 3) := by decide +kernel
theorem dX10_takeLine_21 : decode cX10_takeLine 21 = .ok (.iconst 1, 1) := by decide +kernel
theorem dX10_takeLine_22 : decode cX10_takeLine 22 = .ok (.iaload, 1) := by decide +kernel
theorem dX10_takeLine_23 : decode cX10_takeLine 23 = .ok (.istore 4, 2) := by decide +kernel
theorem dX10_takeLine_25 : decode cX10_takeLine 25 = .ok (.iload_n 1, 1) := by decide +kernel
theorem dX10_takeLine_26 : decode cX10_takeLine 26 = .ok (.tableswitch 174 0 6 #[42, 53, 80, 96, 112, 136, 155], 42) := by decide +kernel
theorem dX10_takeLine_68 : decode cX10_takeLine 68 = .ok (.aload_n 0, 1) := by decide +kernel
theorem dX10_takeLine_69 : decode cX10_takeLine 69 = .ok (.getfield 12, 3) := by decide +kernel
theorem dX10_takeLine_72 : decode cX10_takeLine 72 = .ok (.iload_n 3, 1) := by decide +kernel
theorem dX10_takeLine_73 : decode cX10_takeLine 73 = .ok (.putfield 56, 3) := by decide +kernel
theorem dX10_takeLine_76 : decode cX10_takeLine 76 = .ok (.goto 132, 3) := by decide +kernel
theorem dX10_takeLine_79 : decode cX10_takeLine 79 = .ok (.aload_n 0, 1) := by decide +kernel
theorem dX10_takeLine_80 : decode cX10_takeLine 80 = .ok (.getfield 41, 3) := by decide +kernel
theorem dX10_takeLine_83 : decode cX10_takeLine 83 = .ok (.iconst 0, 1) := by decide +kernel
theorem dX10_takeLine_84 : decode cX10_takeLine 84 = .ok (.aload_n 0, 1) := by decide +kernel
theorem dX10_takeLine_85 : decode cX10_takeLine 85 = .ok (.getfield 21, 3) := by decide +kernel
theorem dX10_takeLine_88 : decode cX10_takeLine 88 = .ok (.getfield 163, 3) := by decide +kernel
theorem dX10_takeLine_91 : decode cX10_takeLine 91 = .ok (.iconst 0, 1) := by decide +kernel
theorem dX10_takeLine_92 : decode cX10_takeLine 92 = .ok (.iload_n 2, 1) := by decide +kernel
theorem dX10_takeLine_93 : decode cX10_takeLine 93 = .ok (.invokestatic 166, 3) := by decide +kernel
theorem dX10_takeLine_96 : decode cX10_takeLine 96 = .ok (.aload_n 0, 1) := by decide +kernel
theorem dX10_takeLine_97 : decode cX10_takeLine 97 = .ok (.iload_n 2, 1) := by decide +kernel
theorem dX10_takeLine_98 : decode cX10_takeLine 98 = .ok (.iconst 1, 1) := by decide +kernel
theorem dX10_takeLine_99 : decode cX10_takeLine 99 = .ok (.isub, 1) := by decide +kernel
theorem dX10_takeLine_100 : decode cX10_takeLine 100 = .ok (.invokevirtual 172, 3) := by decide +kernel
theorem dX10_takeLine_103 : decode cX10_takeLine 103 = .ok (.goto 105, 3) := by decide +kernel
theorem dX10_takeLine_106 : decode cX10_takeLine 106 = .ok (.aload_n 0, 1) := by decide +kernel
theorem dX10_takeLine_107 : decode cX10_takeLine 107 = .ok (.getfield 21, 3) := by decide +kernel
theorem dX10_takeLine_110 : decode cX10_takeLine 110 = .ok (.iload_n 3, 1) := by decide +kernel
theorem dX10_takeLine_111 : decode cX10_takeLine 111 = .ok (.putfield 176, 3) := by decide +kernel
theorem dX10_takeLine_114 : decode cX10_takeLine 114 = .ok (.aload_n 0, 1) := by decide +kernel
theorem dX10_takeLine_115 : decode cX10_takeLine 115 = .ok (.iload_n 3, 1) := by decide +kernel
theorem dX10_takeLine_116 : decode cX10_takeLine 116 = .ok (.invokevirtual 172, 3) := by decide +kernel
theorem dX10_takeLine_119 : decode cX10_takeLine 119 = .ok (.goto 89, 3) := by decide +kernel
theorem dX10_takeLine_122 : decode cX10_takeLine 122 = .ok (.aload_n 0, 1) := by decide +kernel
theorem dX10_takeLine_123 : decode cX10_takeLine 123 = .ok (.getfield 21, 3) := by decide +kernel
theorem dX10_takeLine_126 : decode cX10_takeLine 126 = .ok (.iload_n 3, 1) := by decide +kernel
theorem dX10_takeLine_127 : decode cX10_takeLine 127 = .ok (.putfield 178, 3) := by decide +kernel
theorem dX10_takeLine_130 : decode cX10_takeLine 130 = .ok (.aload_n 0, 1) := by decide +kernel
theorem dX10_takeLine_131 : decode cX10_takeLine 131 = .ok (.iload_n 3, 1) := by decide +kernel
theorem dX10_takeLine_132 : decode cX10_takeLine 132 = .ok (.invokevirtual 172, 3) := by decide +kernel
theorem dX10_takeLine_135 : decode cX10_takeLine 135 = .ok (.goto 73, 3) := by decide +kernel
theorem dX10_takeLine_138 : decode cX10_takeLine 138 = .ok (.aload_n 0, 1) := by decide +kernel
theorem dX10_takeLine_139 : decode cX10_takeLine 139 = .ok (.getfield 21, 3) := by decide +kernel
theorem dX10_takeLine_142 : decode cX10_takeLine 142 = .ok (.iload_n 3, 1) := by decide +kernel
theorem dX10_takeLine_143 : decode cX10_takeLine 143 = .ok (.iload 4, 2) := by decide +kernel
theorem dX10_takeLine_145 : decode cX10_takeLine 145 = .ok (.iconst 1, 1) := by decide +kernel
theorem dX10_takeLine_146 : decode cX10_takeLine 146 = .ok (.invokevirtual 180, 3) := by decide +kernel
theorem dX10_takeLine_149 : decode cX10_takeLine 149 = .ok (.aload_n 0, 1) := by decide +kernel
theorem dX10_takeLine_150 : decode cX10_takeLine 150 = .ok (.iload_n 3, 1) := by decide +kernel
theorem dX10_takeLine_151 : decode cX10_takeLine 151 = .ok (.iload 4, 2) := by decide +kernel
theorem dX10_takeLine_153 : decode cX10_takeLine 153 = .ok (.invokestatic 184, 3) := by decide +kernel
theorem dX10_takeLine_156 : decode cX10_takeLine 156 = .ok (.invokevirtual 172, 3) := by decide +kernel
theorem dX10_takeLine_159 : decode cX10_takeLine 159 = .ok (.goto 49, 3) := by decide +kernel
theorem dX10_takeLine_162 : decode cX10_takeLine 162 = .ok (.aload_n 0, 1) := by decide +kernel
theorem dX10_takeLine_163 : decode cX10_takeLine 163 = .ok (.getfield 21, 3) := by decide +kernel
theorem dX10_takeLine_166 : decode cX10_takeLine 166 = .ok (.getfield 189, 3) := by decide +kernel
theorem dX10_takeLine_169 : decode cX10_takeLine 169 = .ok (.iload_n 3, 1) := by decide +kernel
theorem dX10_takeLine_170 : decode cX10_takeLine 170 = .ok (.iload 4, 2) := by decide +kernel
theorem dX10_takeLine_172 : decode cX10_takeLine 172 = .ok (.iastore, 1) := by decide +kernel
theorem dX10_takeLine_173 : decode cX10_takeLine 173 = .ok (.aload_n 0, 1) := by decide +kernel
theorem dX10_takeLine_174 : decode cX10_takeLine 174 = .ok (.iload_n 3, 1) := by decide +kernel
theorem dX10_takeLine_175 : decode cX10_takeLine 175 = .ok (.invokevirtual 172, 3) := by decide +kernel
theorem dX10_takeLine_178 : decode cX10_takeLine 178 = .ok (.goto 30, 3) := by decide +kernel
theorem dX10_takeLine_181 : decode cX10_takeLine 181 = .ok (.aload_n 0, 1) := by decide +kernel
theorem dX10_takeLine_182 : decode cX10_takeLine 182 = .ok (.getfield 12, 3) := by decide +kernel
theorem dX10_takeLine_185 : decode cX10_takeLine 185 = .ok (.getfield 191, 3) := by decide +kernel
theorem dX10_takeLine_188 : decode cX10_takeLine 188 = .ok (.iload_n 3, 1) := by decide +kernel
theorem dX10_takeLine_189 : decode cX10_takeLine 189 = .ok (.iload 4, 2) := by decide +kernel
theorem dX10_takeLine_191 : decode cX10_takeLine 191 = .ok (.iastore, 1) := by decide +kernel
theorem dX10_takeLine_192 : decode cX10_takeLine 192 = .ok (.aload_n 0, 1) := by decide +kernel
theorem dX10_takeLine_193 : decode cX10_takeLine 193 = .ok (.iload_n 3, 1) := by decide +kernel
theorem dX10_takeLine_194 : decode cX10_takeLine 194 = .ok (.invokevirtual 172, 3) := by decide +kernel
theorem dX10_takeLine_197 : decode cX10_takeLine 197 = .ok (.goto 11, 3) := by decide +kernel
theorem dX10_takeLine_200 : decode cX10_takeLine 200 = .ok (.aload_n 0, 1) := by decide +kernel
theorem dX10_takeLine_201 : decode cX10_takeLine 201 = .ok (.iload_n 1, 1) := by decide +kernel
theorem dX10_takeLine_202 : decode cX10_takeLine 202 = .ok (.iload_n 3, 1) := by decide +kernel
theorem dX10_takeLine_203 : decode cX10_takeLine 203 = .ok (.iload 4, 2) := by decide +kernel
theorem dX10_takeLine_205 : decode cX10_takeLine 205 = .ok (.invokevirtual 193, 3) := by decide +kernel
theorem dX10_takeLine_208 : decode cX10_takeLine 208 = .ok (.return_, 1) := by decide +kernel
set_option maxRecDepth 20000 in
theorem ggX10_takeStir_X6_addStir : GoodIn wsX10_takeStir wsX6_addStir := goodIn_r _ [10, 11, 12, 13, 14, 30, 31, 32, 33, 34, 35, 36] rfl (by decide +kernel)
set_option maxRecDepth 20000 in
theorem gX10_takeStir_X6_addStir : GoodIn wsX10_takeStir (wsV RX10 197 RX6 yX6_addStir wsX6_addStir) := goodIn_app (goodIn_of _ (by decide +kernel)) ggX10_takeStir_X6_addStir
set_option maxRecDepth 20000 in
theorem ggX10_takeStir_X10_heed : GoodIn wsX10_takeStir wsX10_heed := goodIn_r _ [19, 20, 2, 3, 4, 5, 21, 22, 23, 24, 25, 26, 27, 28, 29] rfl (by decide +kernel)
set_option maxRecDepth 20000 in
theorem gX10_takeStir_X10_heed : GoodIn wsX10_takeStir (wsV RX10 172 RX10 yX10_heed wsX10_heed) := goodIn_app (goodIn_of _ (by decide +kernel)) ggX10_takeStir_X10_heed
theorem dX10_takeStir_0 : decode cX10_takeStir 0 = .ok (.aload_n 0, 1) := by decide +kernel
theorem dX10_takeStir_1 : decode cX10_takeStir 1 = .ok (.getfield 12, 3) := by decide +kernel
theorem dX10_takeStir_4 : decode cX10_takeStir 4 = .ok (.iload_n 1, 1) := by decide +kernel
theorem dX10_takeStir_5 : decode cX10_takeStir 5 = .ok (.iload_n 2, 1) := by decide +kernel
theorem dX10_takeStir_6 : decode cX10_takeStir 6 = .ok (.iload_n 3, 1) := by decide +kernel
theorem dX10_takeStir_7 : decode cX10_takeStir 7 = .ok (.invokevirtual 197, 3) := by decide +kernel
theorem dX10_takeStir_10 : decode cX10_takeStir 10 = .ok (.iload_n 1, 1) := by decide +kernel
theorem dX10_takeStir_11 : decode cX10_takeStir 11 = .ok (.bipush 9, 2) := by decide +kernel
theorem dX10_takeStir_13 : decode cX10_takeStir 13 = .ok (.if_icmp .ne 15, 3) := by decide +kernel
theorem dX10_takeStir_16 : decode cX10_takeStir 16 = .ok (.aload_n 0, 1) := by decide +kernel
theorem dX10_takeStir_17 : decode cX10_takeStir 17 = .ok (.iload_n 2, 1) := by decide +kernel
theorem dX10_takeStir_18 : decode cX10_takeStir 18 = .ok (.iload_n 3, 1) := by decide +kernel
theorem dX10_takeStir_19 : decode cX10_takeStir 19 = .ok (.invokestatic 184, 3) := by decide +kernel
theorem dX10_takeStir_22 : decode cX10_takeStir 22 = .ok (.invokevirtual 172, 3) := by decide +kernel
theorem dX10_takeStir_25 : decode cX10_takeStir 25 = .ok (.goto 14, 3) := by decide +kernel
theorem dX10_takeStir_28 : decode cX10_takeStir 28 = .ok (.iload_n 1, 1) := by decide +kernel
theorem dX10_takeStir_29 : decode cX10_takeStir 29 = .ok (.bipush 10, 2) := by decide +kernel
theorem dX10_takeStir_31 : decode cX10_takeStir 31 = .ok (.if_icmp .ne 8, 3) := by decide +kernel
theorem dX10_takeStir_34 : decode cX10_takeStir 34 = .ok (.aload_n 0, 1) := by decide +kernel
theorem dX10_takeStir_35 : decode cX10_takeStir 35 = .ok (.iload_n 2, 1) := by decide +kernel
theorem dX10_takeStir_36 : decode cX10_takeStir 36 = .ok (.invokevirtual 172, 3) := by decide +kernel
theorem dX10_takeStir_39 : decode cX10_takeStir 39 = .ok (.return_, 1) := by decide +kernel
theorem dX10_heed_0 : decode cX10_heed 0 = .ok (.aload_n 0, 1) := by decide +kernel
theorem dX10_heed_1 : decode cX10_heed 1 = .ok (.aload_n 0, 1) := by decide +kernel
theorem dX10_heed_2 : decode cX10_heed 2 = .ok (.getfield 38, 3) := by decide +kernel
theorem dX10_heed_5 : decode cX10_heed 5 = .ok (.iload_n 1, 1) := by decide +kernel
theorem dX10_heed_6 : decode cX10_heed 6 = .ok (.invokestatic 184, 3) := by decide +kernel
theorem dX10_heed_9 : decode cX10_heed 9 = .ok (.putfield 38, 3) := by decide +kernel
theorem dX10_heed_12 : decode cX10_heed 12 = .ok (.return_, 1) := by decide +kernel
set_option maxRecDepth 20000 in
theorem ggX11_init_X6_init : GoodIn wsX11_init wsX6_init := goodIn_r _ [54, 55, 2, 3, 56, 57, 58, 59, 60, 61, 62, 63, 162, 163, 164, 165, 166, 167, 168] rfl (by decide +kernel)
set_option maxRecDepth 20000 in
theorem gX11_init_X6_init_n9 : GoodIn wsX11_init (wsX6_init) := ggX11_init_X6_init
set_option maxRecDepth 20000 in
theorem ggX11_init_X8_init : GoodIn wsX11_init wsX8_init := goodIn_r _ [66, 67, 2, 3, 58, 68, 69, 70, 71, 72, 73, 74, 75, 76, 77, 78, 79, 80, 184, 185, 186, 187, 188, 189, 190, 191, 192] rfl (by decide +kernel)
set_option maxRecDepth 20000 in
theorem gX11_init_X8_init : GoodIn wsX11_init (wsX8_init) := ggX11_init_X8_init
set_option maxRecDepth 20000 in
theorem ggX11_init_X9_init : GoodIn wsX11_init wsX9_init := goodIn_r _ [82, 83, 2, 3, 84, 85, 86, 87, 88, 89, 90, 193, 194, 195, 196, 197, 198] rfl (by decide +kernel)
set_option maxRecDepth 20000 in
theorem gX11_init_X9_init_n25 : GoodIn wsX11_init (wsX9_init) := ggX11_init_X9_init
set_option maxRecDepth 20000 in
theorem ggX11_init_X10_init : GoodIn wsX11_init wsX10_init := goodIn_r _ [93, 94, 2, 3, 95, 5, 6, 96, 97, 9, 10, 98, 99, 100, 101, 102, 103, 58, 104, 105, 53, 54, 55, 56, 57, 59, 60, 61, 62, 63, 106, 65, 66, 67, 68, 69, 70, 71, 72, 73, 74, 75, 76, 77, 78, 79, 80, 162, 163, 164, 165, 166, 167, 168, 199, 200, 201, 202, 203, 204, 205, 206, 207, 184, 185, 186, 187, 188, 189, 190, 191, 192] rfl (by decide +kernel)
set_option maxRecDepth 20000 in
theorem gX11_init_X10_init : GoodIn wsX11_init (wsX10_init) := ggX11_init_X10_init
set_option maxRecDepth 20000 in
theorem ggX11_init_X2_init : GoodIn wsX11_init wsX2_init := goodIn_r _ [109, 110, 2, 3, 58, 111, 112, 113, 114, 115, 208, 209, 210, 211, 212] rfl (by decide +kernel)
set_option maxRecDepth 20000 in
theorem gX11_init_X2_init : GoodIn wsX11_init (wsX2_init) := ggX11_init_X2_init
set_option maxRecDepth 20000 in
theorem ggX11_init_X3_init : GoodIn wsX11_init wsX3_init := goodIn_r _ [118, 119, 2, 3, 120, 121, 122, 123, 124, 213, 214, 215, 216] rfl (by decide +kernel)
set_option maxRecDepth 20000 in
theorem gX11_init_X3_init : GoodIn wsX11_init (wsX3_init) := ggX11_init_X3_init
set_option maxRecDepth 20000 in
theorem ggX11_init_X5_init : GoodIn wsX11_init wsX5_init := goodIn_r _ [127, 128, 2, 3, 120, 129, 58, 130, 131, 217, 218, 219] rfl (by decide +kernel)
set_option maxRecDepth 20000 in
theorem gX11_init_X5_init : GoodIn wsX11_init (wsX5_init) := ggX11_init_X5_init
set_option maxRecDepth 20000 in
theorem ggX11_init_X0_init : GoodIn wsX11_init wsX0_init := goodIn_r _ [134, 135, 2, 3, 136, 220] rfl (by decide +kernel)
set_option maxRecDepth 20000 in
theorem gX11_init_X0_init : GoodIn wsX11_init (wsX0_init) := ggX11_init_X0_init
set_option maxRecDepth 20000 in
theorem ggX11_init_X4_init : GoodIn wsX11_init wsX4_init := goodIn_r _ [139, 140, 2, 3, 58, 141, 142, 221, 222] rfl (by decide +kernel)
set_option maxRecDepth 20000 in
theorem gX11_init_X4_init : GoodIn wsX11_init (wsX4_init) := ggX11_init_X4_init
set_option maxRecDepth 20000 in
theorem ggX11_init_X1_init : GoodIn wsX11_init wsX1_init := goodIn_r _ [145, 146, 2, 3, 58, 147, 148, 149, 150, 151, 152, 153, 154, 155, 223, 224, 225, 226, 227, 228, 229, 230, 231] rfl (by decide +kernel)
set_option maxRecDepth 20000 in
theorem gX11_init_X1_init : GoodIn wsX11_init (wsX1_init) := ggX11_init_X1_init
set_option maxRecDepth 20000 in
theorem ggX11_init_X7_init : GoodIn wsX11_init wsX7_init := goodIn_r _ [157, 158, 2, 3, 159, 160, 58, 161, 232, 233, 234] rfl (by decide +kernel)
set_option maxRecDepth 20000 in
theorem gX11_init_X7_init_n106 : GoodIn wsX11_init (wsX7_init) := ggX11_init_X7_init
theorem dX11_init_0 : decode cX11_init 0 = .ok (.aload_n 0, 1) := by decide +kernel
theorem dX11_init_1 : decode cX11_init 1 = .ok (.invokespecial 1, 3) := by decide +kernel
theorem dX11_init_4 : decode cX11_init 4 = .ok (.aload_n 0, 1) := by decide +kernel
theorem dX11_init_5 : decode cX11_init 5 = .ok (.new 7, 3) := by decide +kernel
theorem dX11_init_8 : decode cX11_init 8 = .ok (.dup, 1) := by decide +kernel
theorem dX11_init_9 : decode cX11_init 9 = .ok (.invokespecial 9, 3) := by decide +kernel
theorem dX11_init_12 : decode cX11_init 12 = .ok (.putfield 10, 3) := by decide +kernel
theorem dX11_init_15 : decode cX11_init 15 = .ok (.aload_n 0, 1) := by decide +kernel
theorem dX11_init_16 : decode cX11_init 16 = .ok (.new 16, 3) := by decide +kernel
theorem dX11_init_19 : decode cX11_init 19 = .ok (.dup, 1) := by decide +kernel
theorem dX11_init_20 : decode cX11_init 20 = .ok (.invokespecial 18, 3) := by decide +kernel
theorem dX11_init_23 : decode cX11_init 23 = .ok (.putfield 19, 3) := by decide +kernel
theorem dX11_init_26 : decode cX11_init 26 = .ok (.aload_n 0, 1) := by decide +kernel
theorem dX11_init_27 : decode cX11_init 27 = .ok (.new 23, 3) := by decide +kernel
theorem dX11_init_30 : decode cX11_init 30 = .ok (.dup, 1) := by decide +kernel
theorem dX11_init_31 : decode cX11_init 31 = .ok (.invokespecial 25, 3) := by decide +kernel
theorem dX11_init_34 : decode cX11_init 34 = .ok (.putfield 26, 3) := by decide +kernel
theorem dX11_init_37 : decode cX11_init 37 = .ok (.aload_n 0, 1) := by decide +kernel
theorem dX11_init_38 : decode cX11_init 38 = .ok (.new 30, 3) := by decide +kernel
theorem dX11_init_41 : decode cX11_init 41 = .ok (.dup, 1) := by decide +kernel
theorem dX11_init_42 : decode cX11_init 42 = .ok (.aload_n 0, 1) := by decide +kernel
theorem dX11_init_43 : decode cX11_init 43 = .ok (.getfield 26, 3) := by decide +kernel
theorem dX11_init_46 : decode cX11_init 46 = .ok (.invokespecial 32, 3) := by decide +kernel
theorem dX11_init_49 : decode cX11_init 49 = .ok (.putfield 35, 3) := by decide +kernel
theorem dX11_init_52 : decode cX11_init 52 = .ok (.aload_n 0, 1) := by decide +kernel
theorem dX11_init_53 : decode cX11_init 53 = .ok (.new 39, 3) := by decide +kernel
theorem dX11_init_56 : decode cX11_init 56 = .ok (.dup, 1) := by decide +kernel
theorem dX11_init_57 : decode cX11_init 57 = .ok (.aload_n 0, 1) := by decide +kernel
theorem dX11_init_58 : decode cX11_init 58 = .ok (.getfield 10, 3) := by decide +kernel
theorem dX11_init_61 : decode cX11_init 61 = .ok (.aload_n 0, 1) := by decide +kernel
theorem dX11_init_62 : decode cX11_init 62 = .ok (.getfield 19, 3) := by decide +kernel
theorem dX11_init_65 : decode cX11_init 65 = .ok (.invokespecial 41, 3) := by decide +kernel
theorem dX11_init_68 : decode cX11_init 68 = .ok (.putfield 44, 3) := by decide +kernel
theorem dX11_init_71 : decode cX11_init 71 = .ok (.aload_n 0, 1) := by decide +kernel
theorem dX11_init_72 : decode cX11_init 72 = .ok (.new 48, 3) := by decide +kernel
theorem dX11_init_75 : decode cX11_init 75 = .ok (.dup, 1) := by decide +kernel
theorem dX11_init_76 : decode cX11_init 76 = .ok (.aload_n 0, 1) := by decide +kernel
theorem dX11_init_77 : decode cX11_init 77 = .ok (.getfield 44, 3) := by decide +kernel
theorem dX11_init_80 : decode cX11_init 80 = .ok (.invokespecial 50, 3) := by decide +kernel
theorem dX11_init_83 : decode cX11_init 83 = .ok (.putfield 53, 3) := by decide +kernel
theorem dX11_init_86 : decode cX11_init 86 = .ok (.aload_n 0, 1) := by decide +kernel
theorem dX11_init_87 : decode cX11_init 87 = .ok (.new 57, 3) := by decide +kernel
theorem dX11_init_90 : decode cX11_init 90 = .ok (.dup, 1) := by decide +kernel
theorem dX11_init_91 : decode cX11_init 91 = .ok (.aload_n 0, 1) := by decide +kernel
theorem dX11_init_92 : decode cX11_init 92 = .ok (.getfield 44, 3) := by decide +kernel
theorem dX11_init_95 : decode cX11_init 95 = .ok (.invokespecial 59, 3) := by decide +kernel
theorem dX11_init_98 : decode cX11_init 98 = .ok (.putfield 60, 3) := by decide +kernel
theorem dX11_init_101 : decode cX11_init 101 = .ok (.aload_n 0, 1) := by decide +kernel
theorem dX11_init_102 : decode cX11_init 102 = .ok (.new 64, 3) := by decide +kernel
theorem dX11_init_105 : decode cX11_init 105 = .ok (.dup, 1) := by decide +kernel
theorem dX11_init_106 : decode cX11_init 106 = .ok (.aload_n 0, 1) := by decide +kernel
theorem dX11_init_107 : decode cX11_init 107 = .ok (.getfield 44, 3) := by decide +kernel
theorem dX11_init_110 : decode cX11_init 110 = .ok (.invokespecial 66, 3) := by decide +kernel
theorem dX11_init_113 : decode cX11_init 113 = .ok (.putfield 67, 3) := by decide +kernel
theorem dX11_init_116 : decode cX11_init 116 = .ok (.aload_n 0, 1) := by decide +kernel
theorem dX11_init_117 : decode cX11_init 117 = .ok (.new 71, 3) := by decide +kernel
theorem dX11_init_120 : decode cX11_init 120 = .ok (.dup, 1) := by decide +kernel
theorem dX11_init_121 : decode cX11_init 121 = .ok (.aload_n 0, 1) := by decide +kernel
theorem dX11_init_122 : decode cX11_init 122 = .ok (.getfield 44, 3) := by decide +kernel
theorem dX11_init_125 : decode cX11_init 125 = .ok (.invokespecial 73, 3) := by decide +kernel
theorem dX11_init_128 : decode cX11_init 128 = .ok (.putfield 74, 3) := by decide +kernel
theorem dX11_init_131 : decode cX11_init 131 = .ok (.aload_n 0, 1) := by decide +kernel
theorem dX11_init_132 : decode cX11_init 132 = .ok (.new 78, 3) := by decide +kernel
theorem dX11_init_135 : decode cX11_init 135 = .ok (.dup, 1) := by decide +kernel
theorem dX11_init_136 : decode cX11_init 136 = .ok (.aload_n 0, 1) := by decide +kernel
theorem dX11_init_137 : decode cX11_init 137 = .ok (.getfield 44, 3) := by decide +kernel
theorem dX11_init_140 : decode cX11_init 140 = .ok (.invokespecial 80, 3) := by decide +kernel
theorem dX11_init_143 : decode cX11_init 143 = .ok (.putfield 81, 3) := by decide +kernel
theorem dX11_init_146 : decode cX11_init 146 = .ok (.aload_n 0, 1) := by decide +kernel
theorem dX11_init_147 : decode cX11_init 147 = .ok (.iconst 2, 1) := by decide +kernel
theorem dX11_init_148 : decode cX11_init 148 = .ok (.anewarray 16, 3) := by decide +kernel
theorem dX11_init_151 : decode cX11_init 151 = .ok (.putfield 85, 3) := by decide +kernel
theorem dX11_init_154 : decode cX11_init 154 = .ok (.aload_n 0, 1) := by decide +kernel
theorem dX11_init_155 : decode cX11_init 155 = .ok (.iconst 2, 1) := by decide +kernel
theorem dX11_init_156 : decode cX11_init 156 = .ok (.newarray .boolean, 2) := by decide +kernel
theorem dX11_init_158 : decode cX11_init 158 = .ok (.putfield 89, 3) := by decide +kernel
theorem dX11_init_161 : decode cX11_init 161 = .ok (.aload_n 0, 1) := by decide +kernel
theorem dX11_init_162 : decode cX11_init 162 = .ok (.iconst 4, 1) := by decide +kernel
theorem dX11_init_163 : decode cX11_init 163 = .ok (.anewarray 93, 3) := by decide +kernel
theorem dX11_init_166 : decode cX11_init 166 = .ok (.putfield 95, 3) := by decide +kernel
theorem dX11_init_169 : decode cX11_init 169 = .ok (.aload_n 0, 1) := by decide +kernel
theorem dX11_init_170 : decode cX11_init 170 = .ok (.iconst 0, 1) := by decide +kernel
theorem dX11_init_171 : decode cX11_init 171 = .ok (.putfield 99, 3) := by decide +kernel
theorem dX11_init_174 : decode cX11_init 174 = .ok (.aload_n 0, 1) := by decide +kernel
theorem dX11_init_175 : decode cX11_init 175 = .ok (.iconst 0, 1) := by decide +kernel
theorem dX11_init_176 : decode cX11_init 176 = .ok (.putfield 103, 3) := by decide +kernel
theorem dX11_init_179 : decode cX11_init 179 = .ok (.iconst 0, 1) := by decide +kernel
theorem dX11_init_180 : decode cX11_init 180 = .ok (.istore_n 1, 1) := by decide +kernel
theorem dX11_init_181 : decode cX11_init 181 = .ok (.iload_n 1, 1) := by decide +kernel
theorem dX11_init_182 : decode cX11_init 182 = .ok (.iconst 2, 1) := by decide +kernel
theorem dX11_init_183 : decode cX11_init 183 = .ok (.if_icmp .ge 22, 3) := by decide +kernel
theorem dX11_init_186 : decode cX11_init 186 = .ok (.aload_n 0, 1) := by decide +kernel
theorem dX11_init_187 : decode cX11_init 187 = .ok (.getfield 85, 3) := by decide +kernel
theorem dX11_init_190 : decode cX11_init 190 = .ok (.iload_n 1, 1) := by decide +kernel
theorem dX11_init_191 : decode cX11_init 191 = .ok (.new 16, 3) := by decide +kernel
theorem dX11_init_194 : decode cX11_init 194 = .ok (.dup, 1) := by decide +kernel
theorem dX11_init_195 : decode cX11_init 195 = .ok (.invokespecial 18, 3) := by decide +kernel
theorem dX11_init_198 : decode cX11_init 198 = .ok (.aastore, 1) := by decide +kernel
theorem dX11_init_199 : decode cX11_init 199 = .ok (.iinc 1 1, 3) := by decide +kernel
theorem dX11_init_202 : decode cX11_init 202 = .ok (.goto (-21), 3) := by decide +kernel
theorem dX11_init_205 : decode cX11_init 205 = .ok (.iconst 0, 1) := by decide +kernel
theorem dX11_init_206 : decode cX11_init 206 = .ok (.istore_n 1, 1) := by decide +kernel
theorem dX11_init_207 : decode cX11_init 207 = .ok (.iload_n 1, 1) := by decide +kernel
theorem dX11_init_208 : decode cX11_init 208 = .ok (.iconst 4, 1) := by decide +kernel
theorem dX11_init_209 : decode cX11_init 209 = .ok (.if_icmp .ge 22, 3) := by decide +kernel
theorem dX11_init_212 : decode cX11_init 212 = .ok (.aload_n 0, 1) := by decide +kernel
theorem dX11_init_213 : decode cX11_init 213 = .ok (.getfield 95, 3) := by decide +kernel
theorem dX11_init_216 : decode cX11_init 216 = .ok (.iload_n 1, 1) := by decide +kernel
theorem dX11_init_217 : decode cX11_init 217 = .ok (.new 93, 3) := by decide +kernel
theorem dX11_init_220 : decode cX11_init 220 = .ok (.dup, 1) := by decide +kernel
theorem dX11_init_221 : decode cX11_init 221 = .ok (.invokespecial 106, 3) := by decide +kernel
theorem dX11_init_224 : decode cX11_init 224 = .ok (.aastore, 1) := by decide +kernel
theorem dX11_init_225 : decode cX11_init 225 = .ok (.iinc 1 1, 3) := by decide +kernel
theorem dX11_init_228 : decode cX11_init 228 = .ok (.goto (-21), 3) := by decide +kernel
theorem dX11_init_231 : decode cX11_init 231 = .ok (.return_, 1) := by decide +kernel
set_option maxRecDepth 20000 in
theorem ggX11_feed_X9_append : GoodIn wsX11_feed wsX9_append := goodIn_r _ [7, 8, 9, 25, 26, 27, 28, 29, 30] rfl (by decide +kernel)
set_option maxRecDepth 20000 in
theorem gX11_feed_X9_append : GoodIn wsX11_feed (wsV RX11 107 RX9 yX9_append wsX9_append) := goodIn_app (goodIn_of _ (by decide +kernel)) ggX11_feed_X9_append
theorem dX11_feed_0 : decode cX11_feed 0 = .ok (.aload_n 0, 1) := by decide +kernel
theorem dX11_feed_1 : decode cX11_feed 1 = .ok (.getfield 26, 3) := by decide +kernel
theorem dX11_feed_4 : decode cX11_feed 4 = .ok (.lload_n 1, 1) := by decide +kernel
theorem dX11_feed_5 : decode cX11_feed 5 = .ok (.invokevirtual 107, 3) := by decide +kernel
theorem dX11_feed_8 : decode cX11_feed 8 = .ok (.ifCond .eq 13, 3) := by decide +kernel
theorem dX11_feed_11 : decode cX11_feed 11 = .ok (.aload_n 0, 1) := by decide +kernel
theorem dX11_feed_12 : decode cX11_feed 12 = .ok (.getfield 26, 3) := by decide +kernel
theorem dX11_feed_15 : decode cX11_feed 15 = .ok (.getfield 111, 3) := by decide +kernel
theorem dX11_feed_18 : decode cX11_feed 18 = .ok (.goto 5, 3) := by decide +kernel
theorem dX11_feed_21 : decode cX11_feed 21 = .ok (.bipush (-3), 2) := by decide +kernel
theorem dX11_feed_23 : decode cX11_feed 23 = .ok (.ireturn, 1) := by decide +kernel
theorem dX11_end_0 : decode cX11_end 0 = .ok (.iload_n 1, 1) := by decide +kernel
theorem dX11_end_1 : decode cX11_end 1 = .ok (.ifCond .lt 14, 3) := by decide +kernel
theorem dX11_end_4 : decode cX11_end 4 = .ok (.iload_n 1, 1) := by decide +kernel
theorem dX11_end_5 : decode cX11_end 5 = .ok (.aload_n 0, 1) := by decide +kernel
theorem dX11_end_6 : decode cX11_end 6 = .ok (.getfield 26, 3) := by decide +kernel
theorem dX11_end_9 : decode cX11_end 9 = .ok (.getfield 111, 3) := by decide +kernel
theorem dX11_end_12 : decode cX11_end 12 = .ok (.if_icmp .le 5, 3) := by decide +kernel
theorem dX11_end_15 : decode cX11_end 15 = .ok (.iconst (-1), 1) := by decide +kernel
theorem dX11_end_16 : decode cX11_end 16 = .ok (.ireturn, 1) := by decide +kernel
theorem dX11_end_17 : decode cX11_end 17 = .ok (.aload_n 0, 1) := by decide +kernel
theorem dX11_end_18 : decode cX11_end 18 = .ok (.getfield 26, 3) := by decide +kernel
theorem dX11_end_21 : decode cX11_end 21 = .ok (.getfield 111, 3) := by decide +kernel
theorem dX11_end_24 : decode cX11_end 24 = .ok (.istore_n 2, 1) := by decide +kernel
theorem dX11_end_25 : decode cX11_end 25 = .ok (.aload_n 0, 1) := by decide +kernel
theorem dX11_end_26 : decode cX11_end 26 = .ok (.getfield 26, 3) := by decide +kernel
theorem dX11_end_29 : decode cX11_end 29 = .ok (.iload_n 1, 1) := by decide +kernel
theorem dX11_end_30 : decode cX11_end 30 = .ok (.putfield 111, 3) := by decide +kernel
theorem dX11_end_33 : decode cX11_end 33 = .ok (.iload_n 2, 1) := by decide +kernel
theorem dX11_end_34 : decode cX11_end 34 = .ok (.ireturn, 1) := by decide +kernel
set_option maxRecDepth 20000 in
theorem ggX11_text_X10_readTape : GoodIn wsX11_text wsX10_readTape := goodIn_r _ [15, 16, 17, 18, 19, 20, 21, 22, 23, 24, 25, 26, 14, 27, 28, 29, 30, 31, 32, 33, 34, 35, 36, 37, 38, 39, 40, 41, 42, 43, 44, 45, 46, 47, 48, 49, 50, 51, 52, 53, 54, 55, 56, 57, 58, 59, 60, 61, 62, 63, 64, 65, 66, 67, 68, 69, 70, 71, 72, 73, 74, 75, 76, 77, 78, 79, 80, 81, 82, 83, 84, 85, 86, 87, 88, 89, 90, 91, 92, 93, 94, 95, 96, 97, 98, 99, 100, 101, 102, 103, 104, 105, 106, 107, 108, 109, 110, 111, 112, 113, 114, 115, 116, 117, 118, 119, 120, 121, 122, 123, 124, 125, 126, 127, 128, 129, 130, 131, 132, 133, 134, 135, 136, 137, 138, 139, 140, 141, 142, 143, 144, 145, 146, 147, 148, 149, 150, 151, 152, 153, 154, 155, 156, 157, 158, 159, 160, 161, 162, 163, 164, 165, 166, 167, 168, 169, 170, 171, 172, 173, 174, 175, 176, 177, 178, 179, 180, 181, 182, 183, 184, 185, 186, 187, 188, 189, 190, 191, 192, 193, 194, 195, 196, 197, 198, 199, 200, 201, 202, 203, 204, 205, 206, 207, 208, 209, 210, 211, 212, 213, 214, 215, 216, 217, 218, 219, 220, 221, 222, 223, 224, 225, 226, 227, 228, 229, 230, 231, 232, 233, 234, 267, 268, 269, 270, 271, 272, 273, 274, 275, 276, 277, 278, 279, 280, 281, 282, 261, 262, 263, 264, 265, 266, 283, 284, 285, 286, 287, 288, 289, 290, 291] rfl (by decide +kernel)
set_option maxRecDepth 20000 in
theorem gX11_text_X10_readTape : GoodIn wsX11_text (wsV RX11 114 RX10 yX10_readTape wsX10_readTape) := goodIn_app (goodIn_of _ (by decide +kernel)) ggX11_text_X10_readTape
set_option maxRecDepth 20000 in
theorem ggX11_text_X6_copy : GoodIn wsX11_text wsX6_copy := goodIn_r _ [238, 35, 36, 37, 239, 170, 171, 172, 220, 276, 277, 278, 279, 280, 281, 282] rfl (by decide +kernel)
set_option maxRecDepth 20000 in
theorem gX11_text_X6_copy : GoodIn wsX11_text (wsV RX11 122 RX6 yX6_copy wsX6_copy) := goodIn_app (goodIn_of _ (by decide +kernel)) ggX11_text_X6_copy
set_option maxRecDepth 20000 in
theorem ggX11_text_X8_copy : GoodIn wsX11_text wsX8_copy := goodIn_r _ [243, 47, 244, 170, 171, 172, 48, 49, 50, 245, 51, 52, 53, 54, 283, 284, 285, 286, 287, 288, 289, 290, 291] rfl (by decide +kernel)
set_option maxRecDepth 20000 in
theorem gX11_text_X8_copy : GoodIn wsX11_text (wsV RX11 127 RX8 yX8_copy wsX8_copy) := goodIn_app (goodIn_of _ (by decide +kernel)) ggX11_text_X8_copy
theorem dX11_text_0 : decode cX11_text 0 = .ok (.aload_n 0, 1) := by decide +kernel
theorem dX11_text_1 : decode cX11_text 1 = .ok (.getfield 35, 3) := by decide +kernel
theorem dX11_text_4 : decode cX11_text 4 = .ok (.invokevirtual 114, 3) := by decide +kernel
theorem dX11_text_7 : decode cX11_text 7 = .ok (.istore_n 1, 1) := by decide +kernel
theorem dX11_text_8 : decode cX11_text 8 = .ok (.aload_n 0, 1) := by decide +kernel
theorem dX11_text_9 : decode cX11_text 9 = .ok (.getfield 26, 3) := by decide +kernel
theorem dX11_text_12 : decode cX11_text 12 = .ok (.iconst 0, 1) := by decide +kernel
theorem dX11_text_13 : decode cX11_text 13 = .ok (.putfield 111, 3) := by decide +kernel
theorem dX11_text_16 : decode cX11_text 16 = .ok (.aload_n 0, 1) := by decide +kernel
theorem dX11_text_17 : decode cX11_text 17 = .ok (.aload_n 0, 1) := by decide +kernel
theorem dX11_text_18 : decode cX11_text 18 = .ok (.getfield 35, 3) := by decide +kernel
theorem dX11_text_21 : decode cX11_text 21 = .ok (.getfield 118, 3) := by decide +kernel
theorem dX11_text_24 : decode cX11_text 24 = .ok (.putfield 99, 3) := by decide +kernel
theorem dX11_text_27 : decode cX11_text 27 = .ok (.aload_n 0, 1) := by decide +kernel
theorem dX11_text_28 : decode cX11_text 28 = .ok (.getfield 99, 3) := by decide +kernel
theorem dX11_text_31 : decode cX11_text 31 = .ok (.ifCond .ne 51, 3) := by decide +kernel
theorem dX11_text_34 : decode cX11_text 34 = .ok (.aload_n 0, 1) := by decide +kernel
theorem dX11_text_35 : decode cX11_text 35 = .ok (.getfield 10, 3) := by decide +kernel
theorem dX11_text_38 : decode cX11_text 38 = .ok (.aload_n 0, 1) := by decide +kernel
theorem dX11_text_39 : decode cX11_text 39 = .ok (.getfield 35, 3) := by decide +kernel
theorem dX11_text_42 : decode cX11_text 42 = .ok (.getfield 121, 3) := by decide +kernel
theorem dX11_text_45 : decode cX11_text 45 = .ok (.invokevirtual 122, 3) := by decide +kernel
theorem dX11_text_48 : decode cX11_text 48 = .ok (.aload_n 0, 1) := by decide +kernel
theorem dX11_text_49 : decode cX11_text 49 = .ok (.getfield 19, 3) := by decide +kernel
theorem dX11_text_52 : decode cX11_text 52 = .ok (.aload_n 0, 1) := by decide +kernel
theorem dX11_text_53 : decode cX11_text 53 = .ok (.getfield 35, 3) := by decide +kernel
theorem dX11_text_56 : decode cX11_text 56 = .ok (.getfield 126, 3) := by decide +kernel
theorem dX11_text_59 : decode cX11_text 59 = .ok (.invokevirtual 127, 3) := by decide +kernel
theorem dX11_text_62 : decode cX11_text 62 = .ok (.iconst 0, 1) := by decide +kernel
theorem dX11_text_63 : decode cX11_text 63 = .ok (.istore_n 2, 1) := by decide +kernel
theorem dX11_text_64 : decode cX11_text 64 = .ok (.iload_n 2, 1) := by decide +kernel
theorem dX11_text_65 : decode cX11_text 65 = .ok (.iconst 2, 1) := by decide +kernel
theorem dX11_text_66 : decode cX11_text 66 = .ok (.if_icmp .ge 16, 3) := by decide +kernel
theorem dX11_text_69 : decode cX11_text 69 = .ok (.aload_n 0, 1) := by decide +kernel
theorem dX11_text_70 : decode cX11_text 70 = .ok (.getfield 89, 3) := by decide +kernel
theorem dX11_text_73 : decode cX11_text 73 = .ok (.iload_n 2, 1) := by decide +kernel
theorem dX11_text_74 : decode cX11_text 74 = .ok (.iconst 0, 1) := by decide +kernel
theorem dX11_text_75 : decode cX11_text 75 = .ok (.bastore, 1) := by decide +kernel
theorem dX11_text_76 : decode cX11_text 76 = .ok (.iinc 2 1, 3) := by decide +kernel
theorem dX11_text_79 : decode cX11_text 79 = .ok (.goto (-15), 3) := by decide +kernel
theorem dX11_text_82 : decode cX11_text 82 = .ok (.iload_n 1, 1) := by decide +kernel
theorem dX11_text_83 : decode cX11_text 83 = .ok (.ireturn, 1) := by decide +kernel
theorem dX11_fault_0 : decode cX11_fault 0 = .ok (.aload_n 0, 1) := by decide +kernel
theorem dX11_fault_1 : decode cX11_fault 1 = .ok (.getfield 99, 3) := by decide +kernel
theorem dX11_fault_4 : decode cX11_fault 4 = .ok (.ireturn, 1) := by decide +kernel
theorem dX11_rule_0 : decode cX11_rule 0 = .ok (.iload_n 1, 1) := by decide +kernel
theorem dX11_rule_1 : decode cX11_rule 1 = .ok (.tableswitch 75 0 4 #[35, 43, 51, 59, 67], 35) := by decide +kernel
theorem dX11_rule_36 : decode cX11_rule 36 = .ok (.aload_n 0, 1) := by decide +kernel
theorem dX11_rule_37 : decode cX11_rule 37 = .ok (.getfield 10, 3) := by decide +kernel
theorem dX11_rule_40 : decode cX11_rule 40 = .ok (.getfield 130, 3) := by decide +kernel
theorem dX11_rule_43 : decode cX11_rule 43 = .ok (.ireturn, 1) := by decide +kernel
theorem dX11_rule_44 : decode cX11_rule 44 = .ok (.aload_n 0, 1) := by decide +kernel
theorem dX11_rule_45 : decode cX11_rule 45 = .ok (.getfield 10, 3) := by decide +kernel
theorem dX11_rule_48 : decode cX11_rule 48 = .ok (.getfield 133, 3) := by decide +kernel
theorem dX11_rule_51 : decode cX11_rule 51 = .ok (.ireturn, 1) := by decide +kernel
theorem dX11_rule_52 : decode cX11_rule 52 = .ok (.aload_n 0, 1) := by decide +kernel
theorem dX11_rule_53 : decode cX11_rule 53 = .ok (.getfield 19, 3) := by decide +kernel
theorem dX11_rule_56 : decode cX11_rule 56 = .ok (.getfield 136, 3) := by decide +kernel
theorem dX11_rule_59 : decode cX11_rule 59 = .ok (.ireturn, 1) := by decide +kernel
theorem dX11_rule_60 : decode cX11_rule 60 = .ok (.aload_n 0, 1) := by decide +kernel
theorem dX11_rule_61 : decode cX11_rule 61 = .ok (.getfield 19, 3) := by decide +kernel
theorem dX11_rule_64 : decode cX11_rule 64 = .ok (.getfield 139, 3) := by decide +kernel
theorem dX11_rule_67 : decode cX11_rule 67 = .ok (.ireturn, 1) := by decide +kernel
theorem dX11_rule_68 : decode cX11_rule 68 = .ok (.aload_n 0, 1) := by decide +kernel
theorem dX11_rule_69 : decode cX11_rule 69 = .ok (.getfield 19, 3) := by decide +kernel
theorem dX11_rule_72 : decode cX11_rule 72 = .ok (.getfield 142, 3) := by decide +kernel
theorem dX11_rule_75 : decode cX11_rule 75 = .ok (.ireturn, 1) := by decide +kernel
theorem dX11_rule_76 : decode cX11_rule 76 = .ok (.iconst (-1), 1) := by decide +kernel
theorem dX11_rule_77 : decode cX11_rule 77 = .ok (.ireturn, 1) := by decide +kernel
set_option maxRecDepth 20000 in
theorem ggX11_pot_X6_hasSeat : GoodIn wsX11_pot wsX6_hasSeat := goodIn_r _ [8, 9, 34, 35, 36, 37, 38, 39, 40] rfl (by decide +kernel)
set_option maxRecDepth 20000 in
theorem gX11_pot_X6_hasSeat : GoodIn wsX11_pot (wsV RX11 145 RX6 yX6_hasSeat wsX6_hasSeat) := goodIn_app (goodIn_of _ (by decide +kernel)) ggX11_pot_X6_hasSeat
theorem dX11_pot_0 : decode cX11_pot 0 = .ok (.aload_n 0, 1) := by decide +kernel
theorem dX11_pot_1 : decode cX11_pot 1 = .ok (.getfield 10, 3) := by decide +kernel
theorem dX11_pot_4 : decode cX11_pot 4 = .ok (.iload_n 1, 1) := by decide +kernel
theorem dX11_pot_5 : decode cX11_pot 5 = .ok (.invokevirtual 145, 3) := by decide +kernel
theorem dX11_pot_8 : decode cX11_pot 8 = .ok (.ifCond .eq 15, 3) := by decide +kernel
theorem dX11_pot_11 : decode cX11_pot 11 = .ok (.aload_n 0, 1) := by decide +kernel
theorem dX11_pot_12 : decode cX11_pot 12 = .ok (.getfield 19, 3) := by decide +kernel
theorem dX11_pot_15 : decode cX11_pot 15 = .ok (.getfield 149, 3) := by decide +kernel
theorem dX11_pot_18 : decode cX11_pot 18 = .ok (.iload_n 1, 1) := by decide +kernel
theorem dX11_pot_19 : decode cX11_pot 19 = .ok (.iaload, 1) := by decide +kernel
theorem dX11_pot_20 : decode cX11_pot 20 = .ok (.goto 4, 3) := by decide +kernel
theorem dX11_pot_23 : decode cX11_pot 23 = .ok (.iconst (-1), 1) := by decide +kernel
theorem dX11_pot_24 : decode cX11_pot 24 = .ok (.ireturn, 1) := by decide +kernel
set_option maxRecDepth 20000 in
theorem ggX11_one_X6_hasSeat : GoodIn wsX11_one wsX6_hasSeat := goodIn_r _ [11, 12, 37, 38, 39, 40, 41, 42, 43] rfl (by decide +kernel)
set_option maxRecDepth 20000 in
theorem gX11_one_X6_hasSeat : GoodIn wsX11_one (wsV RX11 145 RX6 yX6_hasSeat wsX6_hasSeat) := goodIn_app (goodIn_of _ (by decide +kernel)) ggX11_one_X6_hasSeat
theorem dX11_one_0 : decode cX11_one 0 = .ok (.aload_n 0, 1) := by decide +kernel
theorem dX11_one_1 : decode cX11_one 1 = .ok (.getfield 10, 3) := by decide +kernel
theorem dX11_one_4 : decode cX11_one 4 = .ok (.iload_n 1, 1) := by decide +kernel
theorem dX11_one_5 : decode cX11_one 5 = .ok (.invokevirtual 145, 3) := by decide +kernel
theorem dX11_one_8 : decode cX11_one 8 = .ok (.ifCond .ne 5, 3) := by decide +kernel
theorem dX11_one_11 : decode cX11_one 11 = .ok (.iconst (-1), 1) := by decide +kernel
theorem dX11_one_12 : decode cX11_one 12 = .ok (.ireturn, 1) := by decide +kernel
theorem dX11_one_13 : decode cX11_one 13 = .ok (.iload_n 2, 1) := by decide +kernel
theorem dX11_one_14 : decode cX11_one 14 = .ok (.tableswitch 70 0 3 #[30, 40, 50, 60], 30) := by decide +kernel
theorem dX11_one_44 : decode cX11_one 44 = .ok (.aload_n 0, 1) := by decide +kernel
theorem dX11_one_45 : decode cX11_one 45 = .ok (.getfield 19, 3) := by decide +kernel
theorem dX11_one_48 : decode cX11_one 48 = .ok (.getfield 153, 3) := by decide +kernel
theorem dX11_one_51 : decode cX11_one 51 = .ok (.iload_n 1, 1) := by decide +kernel
theorem dX11_one_52 : decode cX11_one 52 = .ok (.iaload, 1) := by decide +kernel
theorem dX11_one_53 : decode cX11_one 53 = .ok (.ireturn, 1) := by decide +kernel
theorem dX11_one_54 : decode cX11_one 54 = .ok (.aload_n 0, 1) := by decide +kernel
theorem dX11_one_55 : decode cX11_one 55 = .ok (.getfield 19, 3) := by decide +kernel
theorem dX11_one_58 : decode cX11_one 58 = .ok (.getfield 156, 3) := by decide +kernel
theorem dX11_one_61 : decode cX11_one 61 = .ok (.iload_n 1, 1) := by decide +kernel
theorem dX11_one_62 : decode cX11_one 62 = .ok (.iaload, 1) := by decide +kernel
theorem dX11_one_63 : decode cX11_one 63 = .ok (.ireturn, 1) := by decide +kernel
theorem dX11_one_64 : decode cX11_one 64 = .ok (.aload_n 0, 1) := by decide +kernel
theorem dX11_one_65 : decode cX11_one 65 = .ok (.getfield 10, 3) := by decide +kernel
theorem dX11_one_68 : decode cX11_one 68 = .ok (.getfield 159, 3) := by decide +kernel
theorem dX11_one_71 : decode cX11_one 71 = .ok (.iload_n 1, 1) := by decide +kernel
theorem dX11_one_72 : decode cX11_one 72 = .ok (.iaload, 1) := by decide +kernel
theorem dX11_one_73 : decode cX11_one 73 = .ok (.ireturn, 1) := by decide +kernel
theorem dX11_one_74 : decode cX11_one 74 = .ok (.aload_n 0, 1) := by decide +kernel
theorem dX11_one_75 : decode cX11_one 75 = .ok (.getfield 19, 3) := by decide +kernel
theorem dX11_one_78 : decode cX11_one 78 = .ok (.getfield 162, 3) := by decide +kernel
theorem dX11_one_81 : decode cX11_one 81 = .ok (.iload_n 1, 1) := by decide +kernel
theorem dX11_one_82 : decode cX11_one 82 = .ok (.iaload, 1) := by decide +kernel
theorem dX11_one_83 : decode cX11_one 83 = .ok (.ireturn, 1) := by decide +kernel
theorem dX11_one_84 : decode cX11_one 84 = .ok (.iconst (-1), 1) := by decide +kernel
theorem dX11_one_85 : decode cX11_one 85 = .ok (.ireturn, 1) := by decide +kernel
set_option maxRecDepth 20000 in
theorem ggX11_stir_X6_hasStir : GoodIn wsX11_stir wsX6_hasStir := goodIn_r _ [6, 7, 33, 34, 35, 36, 37, 38, 39] rfl (by decide +kernel)
set_option maxRecDepth 20000 in
theorem gX11_stir_X6_hasStir : GoodIn wsX11_stir (wsV RX11 165 RX6 yX6_hasStir wsX6_hasStir) := goodIn_app (goodIn_of _ (by decide +kernel)) ggX11_stir_X6_hasStir
set_option maxRecDepth 20000 in
theorem ggX11_stir_X6_hasSeat : GoodIn wsX11_stir wsX6_hasSeat := goodIn_r _ [11, 12, 33, 34, 35, 36, 37, 38, 39] rfl (by decide +kernel)
set_option maxRecDepth 20000 in
theorem gX11_stir_X6_hasSeat : GoodIn wsX11_stir (wsV RX11 145 RX6 yX6_hasSeat wsX6_hasSeat) := goodIn_app (goodIn_of _ (by decide +kernel)) ggX11_stir_X6_hasSeat
set_option maxRecDepth 20000 in
theorem ggX11_stir_X6_placeAfter : GoodIn wsX11_stir wsX6_placeAfter := goodIn_r _ [16, 17, 33, 34, 35, 36, 37, 38, 39] rfl (by decide +kernel)
set_option maxRecDepth 20000 in
theorem gX11_stir_X6_placeAfter : GoodIn wsX11_stir (wsV RX11 168 RX6 yX6_placeAfter wsX6_placeAfter) := goodIn_app (goodIn_of _ (by decide +kernel)) ggX11_stir_X6_placeAfter
theorem dX11_stir_0 : decode cX11_stir 0 = .ok (.aload_n 0, 1) := by decide +kernel
theorem dX11_stir_1 : decode cX11_stir 1 = .ok (.getfield 10, 3) := by decide +kernel
theorem dX11_stir_4 : decode cX11_stir 4 = .ok (.iload_n 1, 1) := by decide +kernel
theorem dX11_stir_5 : decode cX11_stir 5 = .ok (.invokevirtual 165, 3) := by decide +kernel
theorem dX11_stir_8 : decode cX11_stir 8 = .ok (.ifCond .eq 26, 3) := by decide +kernel
theorem dX11_stir_11 : decode cX11_stir 11 = .ok (.aload_n 0, 1) := by decide +kernel
theorem dX11_stir_12 : decode cX11_stir 12 = .ok (.getfield 10, 3) := by decide +kernel
theorem dX11_stir_15 : decode cX11_stir 15 = .ok (.iload_n 2, 1) := by decide +kernel
theorem dX11_stir_16 : decode cX11_stir 16 = .ok (.invokevirtual 145, 3) := by decide +kernel
theorem dX11_stir_19 : decode cX11_stir 19 = .ok (.ifCond .eq 15, 3) := by decide +kernel
theorem dX11_stir_22 : decode cX11_stir 22 = .ok (.aload_n 0, 1) := by decide +kernel
theorem dX11_stir_23 : decode cX11_stir 23 = .ok (.getfield 10, 3) := by decide +kernel
theorem dX11_stir_26 : decode cX11_stir 26 = .ok (.iload_n 1, 1) := by decide +kernel
theorem dX11_stir_27 : decode cX11_stir 27 = .ok (.iload_n 2, 1) := by decide +kernel
theorem dX11_stir_28 : decode cX11_stir 28 = .ok (.invokevirtual 168, 3) := by decide +kernel
theorem dX11_stir_31 : decode cX11_stir 31 = .ok (.goto 4, 3) := by decide +kernel
theorem dX11_stir_34 : decode cX11_stir 34 = .ok (.iconst (-1), 1) := by decide +kernel
theorem dX11_stir_35 : decode cX11_stir 35 = .ok (.ireturn, 1) := by decide +kernel
set_option maxRecDepth 20000 in
theorem ggX11_befriend_X6_hasSeat : GoodIn wsX11_befriend wsX6_hasSeat := goodIn_r _ [7, 8, 34, 35, 36, 37, 38, 39, 40] rfl (by decide +kernel)
set_option maxRecDepth 20000 in
theorem gX11_befriend_X6_hasSeat : GoodIn wsX11_befriend (wsV RX11 145 RX6 yX6_hasSeat wsX6_hasSeat) := goodIn_app (goodIn_of _ (by decide +kernel)) ggX11_befriend_X6_hasSeat
set_option maxRecDepth 20000 in
theorem ggX11_befriend_X8_isFriend : GoodIn wsX11_befriend wsX8_isFriend := goodIn_r _ [13, 14, 41, 42, 43, 44, 45, 46, 47, 48, 49] rfl (by decide +kernel)
set_option maxRecDepth 20000 in
theorem gX11_befriend_X8_isFriend : GoodIn wsX11_befriend (wsV RX11 172 RX8 yX8_isFriend wsX8_isFriend) := goodIn_app (goodIn_of _ (by decide +kernel)) ggX11_befriend_X8_isFriend
set_option maxRecDepth 20000 in
theorem ggX11_befriend_X8_setFriend : GoodIn wsX11_befriend wsX8_setFriend := goodIn_r _ [18, 14, 41, 42, 43, 44, 45, 46, 47, 48, 49] rfl (by decide +kernel)
set_option maxRecDepth 20000 in
theorem gX11_befriend_X8_setFriend : GoodIn wsX11_befriend (wsV RX11 176 RX8 yX8_setFriend wsX8_setFriend) := goodIn_app (goodIn_of _ (by decide +kernel)) ggX11_befriend_X8_setFriend
theorem dX11_befriend_0 : decode cX11_befriend 0 = .ok (.aload_n 0, 1) := by decide +kernel
theorem dX11_befriend_1 : decode cX11_befriend 1 = .ok (.getfield 10, 3) := by decide +kernel
theorem dX11_befriend_4 : decode cX11_befriend 4 = .ok (.iload_n 1, 1) := by decide +kernel
theorem dX11_befriend_5 : decode cX11_befriend 5 = .ok (.invokevirtual 145, 3) := by decide +kernel
theorem dX11_befriend_8 : decode cX11_befriend 8 = .ok (.ifCond .eq 19, 3) := by decide +kernel
theorem dX11_befriend_11 : decode cX11_befriend 11 = .ok (.aload_n 0, 1) := by decide +kernel
theorem dX11_befriend_12 : decode cX11_befriend 12 = .ok (.getfield 10, 3) := by decide +kernel
theorem dX11_befriend_15 : decode cX11_befriend 15 = .ok (.iload_n 2, 1) := by decide +kernel
theorem dX11_befriend_16 : decode cX11_befriend 16 = .ok (.invokevirtual 145, 3) := by decide +kernel
theorem dX11_befriend_19 : decode cX11_befriend 19 = .ok (.ifCond .eq 8, 3) := by decide +kernel
theorem dX11_befriend_22 : decode cX11_befriend 22 = .ok (.iload_n 1, 1) := by decide +kernel
theorem dX11_befriend_23 : decode cX11_befriend 23 = .ok (.iload_n 2, 1) := by decide +kernel
theorem dX11_befriend_24 : decode cX11_befriend 24 = .ok (.if_icmp .ne 5, 3) := by decide +kernel
theorem dX11_befriend_27 : decode cX11_befriend 27 = .ok (.iconst (-1), 1) := by decide +kernel
theorem dX11_befriend_28 : decode cX11_befriend 28 = .ok (.ireturn, 1) := by decide +kernel
theorem dX11_befriend_29 : decode cX11_befriend 29 = .ok (.aload_n 0, 1) := by decide +kernel
theorem dX11_befriend_30 : decode cX11_befriend 30 = .ok (.getfield 19, 3) := by decide +kernel
theorem dX11_befriend_33 : decode cX11_befriend 33 = .ok (.iload_n 1, 1) := by decide +kernel
theorem dX11_befriend_34 : decode cX11_befriend 34 = .ok (.iload_n 2, 1) := by decide +kernel
theorem dX11_befriend_35 : decode cX11_befriend 35 = .ok (.invokevirtual 172, 3) := by decide +kernel
theorem dX11_befriend_38 : decode cX11_befriend 38 = .ok (.ifCond .eq 7, 3) := by decide +kernel
theorem dX11_befriend_41 : decode cX11_befriend 41 = .ok (.iconst 1, 1) := by decide +kernel
theorem dX11_befriend_42 : decode cX11_befriend 42 = .ok (.goto 4, 3) := by decide +kernel
theorem dX11_befriend_45 : decode cX11_befriend 45 = .ok (.iconst 0, 1) := by decide +kernel
theorem dX11_befriend_46 : decode cX11_befriend 46 = .ok (.istore 4, 2) := by decide +kernel
theorem dX11_befriend_48 : decode cX11_befriend 48 = .ok (.aload_n 0, 1) := by decide +kernel
theorem dX11_befriend_49 : decode cX11_befriend 49 = .ok (.getfield 19, 3) := by decide +kernel
theorem dX11_befriend_52 : decode cX11_befriend 52 = .ok (.iload_n 1, 1) := by decide +kernel
theorem dX11_befriend_53 : decode cX11_befriend 53 = .ok (.iload_n 2, 1) := by decide +kernel
theorem dX11_befriend_54 : decode cX11_befriend 54 = .ok (.iload_n 3, 1) := by decide +kernel
theorem dX11_befriend_55 : decode cX11_befriend 55 = .ok (.invokevirtual 176, 3) := by decide +kernel
theorem dX11_befriend_58 : decode cX11_befriend 58 = .ok (.iload 4, 2) := by decide +kernel
theorem dX11_befriend_60 : decode cX11_befriend 60 = .ok (.ireturn, 1) := by decide +kernel
set_option maxRecDepth 20000 in
theorem ggX11_spoon_X6_hasSeat : GoodIn wsX11_spoon wsX6_hasSeat := goodIn_r _ [8, 9, 34, 35, 36, 37, 38, 39, 40] rfl (by decide +kernel)
set_option maxRecDepth 20000 in
theorem gX11_spoon_X6_hasSeat : GoodIn wsX11_spoon (wsV RX11 145 RX6 yX6_hasSeat wsX6_hasSeat) := goodIn_app (goodIn_of _ (by decide +kernel)) ggX11_spoon_X6_hasSeat
theorem dX11_spoon_0 : decode cX11_spoon 0 = .ok (.aload_n 0, 1) := by decide +kernel
theorem dX11_spoon_1 : decode cX11_spoon 1 = .ok (.getfield 10, 3) := by decide +kernel
theorem dX11_spoon_4 : decode cX11_spoon 4 = .ok (.iload_n 1, 1) := by decide +kernel
theorem dX11_spoon_5 : decode cX11_spoon 5 = .ok (.invokevirtual 145, 3) := by decide +kernel
theorem dX11_spoon_8 : decode cX11_spoon 8 = .ok (.ifCond .eq 14, 3) := by decide +kernel
theorem dX11_spoon_11 : decode cX11_spoon 11 = .ok (.iload_n 2, 1) := by decide +kernel
theorem dX11_spoon_12 : decode cX11_spoon 12 = .ok (.iconst 1, 1) := by decide +kernel
theorem dX11_spoon_13 : decode cX11_spoon 13 = .ok (.if_icmp .lt 9, 3) := by decide +kernel
theorem dX11_spoon_16 : decode cX11_spoon 16 = .ok (.iload_n 2, 1) := by decide +kernel
theorem dX11_spoon_17 : decode cX11_spoon 17 = .ok (.bipush 9, 2) := by decide +kernel
theorem dX11_spoon_19 : decode cX11_spoon 19 = .ok (.if_icmp .le 5, 3) := by decide +kernel
theorem dX11_spoon_22 : decode cX11_spoon 22 = .ok (.iconst (-1), 1) := by decide +kernel
theorem dX11_spoon_23 : decode cX11_spoon 23 = .ok (.ireturn, 1) := by decide +kernel
theorem dX11_spoon_24 : decode cX11_spoon 24 = .ok (.aload_n 0, 1) := by decide +kernel
theorem dX11_spoon_25 : decode cX11_spoon 25 = .ok (.getfield 19, 3) := by decide +kernel
theorem dX11_spoon_28 : decode cX11_spoon 28 = .ok (.getfield 156, 3) := by decide +kernel
theorem dX11_spoon_31 : decode cX11_spoon 31 = .ok (.iload_n 1, 1) := by decide +kernel
theorem dX11_spoon_32 : decode cX11_spoon 32 = .ok (.iaload, 1) := by decide +kernel
theorem dX11_spoon_33 : decode cX11_spoon 33 = .ok (.istore_n 3, 1) := by decide +kernel
theorem dX11_spoon_34 : decode cX11_spoon 34 = .ok (.aload_n 0, 1) := by decide +kernel
theorem dX11_spoon_35 : decode cX11_spoon 35 = .ok (.getfield 19, 3) := by decide +kernel
theorem dX11_spoon_38 : decode cX11_spoon 38 = .ok (.getfield 156, 3) := by decide +kernel
theorem dX11_spoon_41 : decode cX11_spoon 41 = .ok (.iload_n 1, 1) := by decide +kernel
theorem dX11_spoon_42 : decode cX11_spoon 42 = .ok (.iload_n 2, 1) := by decide +kernel
theorem dX11_spoon_43 : decode cX11_spoon 43 = .ok (.iastore, 1) := by decide +kernel
theorem dX11_spoon_44 : decode cX11_spoon 44 = .ok (.iload_n 3, 1) := by decide +kernel
theorem dX11_spoon_45 : decode cX11_spoon 45 = .ok (.ireturn, 1) := by decide +kernel
set_option maxRecDepth 20000 in
theorem ggX11_crown_X6_hasSeat : GoodIn wsX11_crown wsX6_hasSeat := goodIn_r _ [8, 9, 34, 35, 36, 37, 38, 39, 40] rfl (by decide +kernel)
set_option maxRecDepth 20000 in
theorem gX11_crown_X6_hasSeat : GoodIn wsX11_crown (wsV RX11 145 RX6 yX6_hasSeat wsX6_hasSeat) := goodIn_app (goodIn_of _ (by decide +kernel)) ggX11_crown_X6_hasSeat
theorem dX11_crown_0 : decode cX11_crown 0 = .ok (.aload_n 0, 1) := by decide +kernel
theorem dX11_crown_1 : decode cX11_crown 1 = .ok (.getfield 10, 3) := by decide +kernel
theorem dX11_crown_4 : decode cX11_crown 4 = .ok (.iload_n 1, 1) := by decide +kernel
theorem dX11_crown_5 : decode cX11_crown 5 = .ok (.invokevirtual 145, 3) := by decide +kernel
theorem dX11_crown_8 : decode cX11_crown 8 = .ok (.ifCond .ne 5, 3) := by decide +kernel
theorem dX11_crown_11 : decode cX11_crown 11 = .ok (.iconst (-1), 1) := by decide +kernel
theorem dX11_crown_12 : decode cX11_crown 12 = .ok (.ireturn, 1) := by decide +kernel
theorem dX11_crown_13 : decode cX11_crown 13 = .ok (.aload_n 0, 1) := by decide +kernel
theorem dX11_crown_14 : decode cX11_crown 14 = .ok (.getfield 19, 3) := by decide +kernel
theorem dX11_crown_17 : decode cX11_crown 17 = .ok (.getfield 136, 3) := by decide +kernel
theorem dX11_crown_20 : decode cX11_crown 20 = .ok (.istore_n 2, 1) := by decide +kernel
theorem dX11_crown_21 : decode cX11_crown 21 = .ok (.aload_n 0, 1) := by decide +kernel
theorem dX11_crown_22 : decode cX11_crown 22 = .ok (.getfield 19, 3) := by decide +kernel
theorem dX11_crown_25 : decode cX11_crown 25 = .ok (.iload_n 1, 1) := by decide +kernel
theorem dX11_crown_26 : decode cX11_crown 26 = .ok (.putfield 136, 3) := by decide +kernel
theorem dX11_crown_29 : decode cX11_crown 29 = .ok (.iload_n 2, 1) := by decide +kernel
theorem dX11_crown_30 : decode cX11_crown 30 = .ok (.ireturn, 1) := by decide +kernel
set_option maxRecDepth 20000 in
theorem ggX11_fill_X6_hasSeat : GoodIn wsX11_fill wsX6_hasSeat := goodIn_r _ [8, 9, 34, 35, 36, 37, 38, 39, 40] rfl (by decide +kernel)
set_option maxRecDepth 20000 in
theorem gX11_fill_X6_hasSeat : GoodIn wsX11_fill (wsV RX11 145 RX6 yX6_hasSeat wsX6_hasSeat) := goodIn_app (goodIn_of _ (by decide +kernel)) ggX11_fill_X6_hasSeat
theorem dX11_fill_0 : decode cX11_fill 0 = .ok (.aload_n 0, 1) := by decide +kernel
theorem dX11_fill_1 : decode cX11_fill 1 = .ok (.getfield 10, 3) := by decide +kernel
theorem dX11_fill_4 : decode cX11_fill 4 = .ok (.iload_n 1, 1) := by decide +kernel
theorem dX11_fill_5 : decode cX11_fill 5 = .ok (.invokevirtual 145, 3) := by decide +kernel
theorem dX11_fill_8 : decode cX11_fill 8 = .ok (.ifCond .eq 13, 3) := by decide +kernel
theorem dX11_fill_11 : decode cX11_fill 11 = .ok (.iload_n 2, 1) := by decide +kernel
theorem dX11_fill_12 : decode cX11_fill 12 = .ok (.ifCond .lt 9, 3) := by decide +kernel
theorem dX11_fill_15 : decode cX11_fill 15 = .ok (.iload_n 2, 1) := by decide +kernel
theorem dX11_fill_16 : decode cX11_fill 16 = .ok (.bipush 9, 2) := by decide +kernel
theorem dX11_fill_18 : decode cX11_fill 18 = .ok (.if_icmp .le 5, 3) := by decide +kernel
theorem dX11_fill_21 : decode cX11_fill 21 = .ok (.iconst (-1), 1) := by decide +kernel
theorem dX11_fill_22 : decode cX11_fill 22 = .ok (.ireturn, 1) := by decide +kernel
theorem dX11_fill_23 : decode cX11_fill 23 = .ok (.aload_n 0, 1) := by decide +kernel
theorem dX11_fill_24 : decode cX11_fill 24 = .ok (.getfield 19, 3) := by decide +kernel
theorem dX11_fill_27 : decode cX11_fill 27 = .ok (.getfield 149, 3) := by decide +kernel
theorem dX11_fill_30 : decode cX11_fill 30 = .ok (.iload_n 1, 1) := by decide +kernel
theorem dX11_fill_31 : decode cX11_fill 31 = .ok (.iaload, 1) := by decide +kernel
theorem dX11_fill_32 : decode cX11_fill 32 = .ok (.istore_n 3, 1) := by decide +kernel
theorem dX11_fill_33 : decode cX11_fill 33 = .ok (.aload_n 0, 1) := by decide +kernel
theorem dX11_fill_34 : decode cX11_fill 34 = .ok (.getfield 19, 3) := by decide +kernel
theorem dX11_fill_37 : decode cX11_fill 37 = .ok (.getfield 149, 3) := by decide +kernel
theorem dX11_fill_40 : decode cX11_fill 40 = .ok (.iload_n 1, 1) := by decide +kernel
theorem dX11_fill_41 : decode cX11_fill 41 = .ok (.iload_n 2, 1) := by decide +kernel
theorem dX11_fill_42 : decode cX11_fill 42 = .ok (.iastore, 1) := by decide +kernel
theorem dX11_fill_43 : decode cX11_fill 43 = .ok (.iload_n 3, 1) := by decide +kernel
theorem dX11_fill_44 : decode cX11_fill 44 = .ok (.ireturn, 1) := by decide +kernel
set_option maxRecDepth 20000 in
theorem ggX11_bowl_X6_hasSeat : GoodIn wsX11_bowl wsX6_hasSeat := goodIn_r _ [7, 8, 72, 73, 74, 75, 76, 77, 78] rfl (by decide +kernel)
set_option maxRecDepth 20000 in
theorem gX11_bowl_X6_hasSeat : GoodIn wsX11_bowl (wsV RX11 145 RX6 yX6_hasSeat wsX6_hasSeat) := goodIn_app (goodIn_of _ (by decide +kernel)) ggX11_bowl_X6_hasSeat
set_option maxRecDepth 20000 in
theorem ggX11_bowl_X6_hasStir : GoodIn wsX11_bowl wsX6_hasStir := goodIn_r _ [12, 13, 72, 73, 74, 75, 76, 77, 78] rfl (by decide +kernel)
set_option maxRecDepth 20000 in
theorem gX11_bowl_X6_hasStir : GoodIn wsX11_bowl (wsV RX11 165 RX6 yX6_hasStir wsX6_hasStir) := goodIn_app (goodIn_of _ (by decide +kernel)) ggX11_bowl_X6_hasStir
set_option maxRecDepth 20000 in
theorem ggX11_bowl_X2_serve : GoodIn wsX11_bowl wsX2_serve := goodIn_r _ [18, 19, 20, 21, 22, 23, 24, 25, 26, 6, 27, 8, 28, 29, 30, 31, 32, 33, 79, 80, 81, 82, 83, 72, 73, 74, 75, 76, 77, 78, 84, 85, 86, 87, 88, 89, 90, 91, 92] rfl (by decide +kernel)
set_option maxRecDepth 20000 in
theorem gX11_bowl_X2_serve : GoodIn wsX11_bowl (wsV RX11 180 RX2 yX2_serve wsX2_serve) := goodIn_app (goodIn_of _ (by decide +kernel)) ggX11_bowl_X2_serve
set_option maxRecDepth 20000 in
theorem ggX11_bowl_X2_stirPot : GoodIn wsX11_bowl wsX2_stirPot := goodIn_r _ [37, 19, 21, 38, 39, 40, 41, 42, 6, 43, 8, 44, 45, 46, 47, 48, 79, 80, 81, 82, 83, 84, 85, 86, 87, 88, 89, 90, 91, 92, 72, 73, 74, 75, 76, 77, 78] rfl (by decide +kernel)
set_option maxRecDepth 20000 in
theorem gX11_bowl_X2_stirPot : GoodIn wsX11_bowl (wsV RX11 184 RX2 yX2_stirPot wsX2_stirPot) := goodIn_app (goodIn_of _ (by decide +kernel)) ggX11_bowl_X2_stirPot
set_option maxRecDepth 20000 in
theorem ggX11_bowl_X2_bowlOf : GoodIn wsX11_bowl wsX2_bowlOf := goodIn_r _ [52, 39, 53, 54, 55, 17, 56, 22, 79, 80, 81, 82, 83] rfl (by decide +kernel)
set_option maxRecDepth 20000 in
theorem gX11_bowl_X2_bowlOf : GoodIn wsX11_bowl (wsV RX11 187 RX2 yX2_bowlOf wsX2_bowlOf) := goodIn_app (goodIn_of _ (by decide +kernel)) ggX11_bowl_X2_bowlOf
theorem dX11_bowl_0 : decode cX11_bowl 0 = .ok (.aload_n 0, 1) := by decide +kernel
theorem dX11_bowl_1 : decode cX11_bowl 1 = .ok (.getfield 10, 3) := by decide +kernel
theorem dX11_bowl_4 : decode cX11_bowl 4 = .ok (.iload_n 1, 1) := by decide +kernel
theorem dX11_bowl_5 : decode cX11_bowl 5 = .ok (.invokevirtual 145, 3) := by decide +kernel
theorem dX11_bowl_8 : decode cX11_bowl 8 = .ok (.ifCond .eq 25, 3) := by decide +kernel
theorem dX11_bowl_11 : decode cX11_bowl 11 = .ok (.aload_n 0, 1) := by decide +kernel
theorem dX11_bowl_12 : decode cX11_bowl 12 = .ok (.getfield 10, 3) := by decide +kernel
theorem dX11_bowl_15 : decode cX11_bowl 15 = .ok (.iload_n 2, 1) := by decide +kernel
theorem dX11_bowl_16 : decode cX11_bowl 16 = .ok (.invokevirtual 145, 3) := by decide +kernel
theorem dX11_bowl_19 : decode cX11_bowl 19 = .ok (.ifCond .eq 14, 3) := by decide +kernel
theorem dX11_bowl_22 : decode cX11_bowl 22 = .ok (.aload_n 0, 1) := by decide +kernel
theorem dX11_bowl_23 : decode cX11_bowl 23 = .ok (.getfield 10, 3) := by decide +kernel
theorem dX11_bowl_26 : decode cX11_bowl 26 = .ok (.iload_n 3, 1) := by decide +kernel
theorem dX11_bowl_27 : decode cX11_bowl 27 = .ok (.invokevirtual 165, 3) := by decide +kernel
theorem dX11_bowl_30 : decode cX11_bowl 30 = .ok (.ifCond .ne 5, 3) := by decide +kernel
theorem dX11_bowl_33 : decode cX11_bowl 33 = .ok (.iconst (-1), 1) := by decide +kernel
theorem dX11_bowl_34 : decode cX11_bowl 34 = .ok (.ireturn, 1) := by decide +kernel
theorem dX11_bowl_35 : decode cX11_bowl 35 = .ok (.aload_n 0, 1) := by decide +kernel
theorem dX11_bowl_36 : decode cX11_bowl 36 = .ok (.getfield 44, 3) := by decide +kernel
theorem dX11_bowl_39 : decode cX11_bowl 39 = .ok (.iload_n 1, 1) := by decide +kernel
theorem dX11_bowl_40 : decode cX11_bowl 40 = .ok (.invokevirtual 180, 3) := by decide +kernel
theorem dX11_bowl_43 : decode cX11_bowl 43 = .ok (.aload_n 0, 1) := by decide +kernel
theorem dX11_bowl_44 : decode cX11_bowl 44 = .ok (.getfield 44, 3) := by decide +kernel
theorem dX11_bowl_47 : decode cX11_bowl 47 = .ok (.iload_n 3, 1) := by decide +kernel
theorem dX11_bowl_48 : decode cX11_bowl 48 = .ok (.invokevirtual 184, 3) := by decide +kernel
theorem dX11_bowl_51 : decode cX11_bowl 51 = .ok (.aload_n 0, 1) := by decide +kernel
theorem dX11_bowl_52 : decode cX11_bowl 52 = .ok (.getfield 44, 3) := by decide +kernel
theorem dX11_bowl_55 : decode cX11_bowl 55 = .ok (.iload_n 1, 1) := by decide +kernel
theorem dX11_bowl_56 : decode cX11_bowl 56 = .ok (.iload_n 2, 1) := by decide +kernel
theorem dX11_bowl_57 : decode cX11_bowl 57 = .ok (.invokevirtual 187, 3) := by decide +kernel
theorem dX11_bowl_60 : decode cX11_bowl 60 = .ok (.ireturn, 1) := by decide +kernel
set_option maxRecDepth 20000 in
theorem ggX11_ladle_X6_hasSeat : GoodIn wsX11_ladle wsX6_hasSeat := goodIn_r _ [7, 8, 53, 54, 55, 56, 57, 58, 59] rfl (by decide +kernel)
set_option maxRecDepth 20000 in
theorem gX11_ladle_X6_hasSeat : GoodIn wsX11_ladle (wsV RX11 145 RX6 yX6_hasSeat wsX6_hasSeat) := goodIn_app (goodIn_of _ (by decide +kernel)) ggX11_ladle_X6_hasSeat
set_option maxRecDepth 20000 in
theorem ggX11_ladle_X6_hasStir : GoodIn wsX11_ladle wsX6_hasStir := goodIn_r _ [12, 13, 53, 54, 55, 56, 57, 58, 59] rfl (by decide +kernel)
set_option maxRecDepth 20000 in
theorem gX11_ladle_X6_hasStir : GoodIn wsX11_ladle (wsV RX11 165 RX6 yX6_hasStir wsX6_hasStir) := goodIn_app (goodIn_of _ (by decide +kernel)) ggX11_ladle_X6_hasStir
set_option maxRecDepth 20000 in
theorem ggX11_ladle_X2_serve : GoodIn wsX11_ladle wsX2_serve := goodIn_r _ [18, 19, 20, 21, 22, 23, 24, 25, 26, 6, 27, 8, 28, 29, 30, 31, 32, 33, 60, 61, 62, 63, 64, 53, 54, 55, 56, 57, 58, 59, 65, 66, 67, 68, 69, 70, 71, 72, 73] rfl (by decide +kernel)
set_option maxRecDepth 20000 in
theorem gX11_ladle_X2_serve : GoodIn wsX11_ladle (wsV RX11 180 RX2 yX2_serve wsX2_serve) := goodIn_app (goodIn_of _ (by decide +kernel)) ggX11_ladle_X2_serve
set_option maxRecDepth 20000 in
theorem ggX11_ladle_X2_placeOf : GoodIn wsX11_ladle wsX2_placeOf := goodIn_r _ [37, 22, 60, 61, 62, 63, 64] rfl (by decide +kernel)
set_option maxRecDepth 20000 in
theorem gX11_ladle_X2_placeOf : GoodIn wsX11_ladle (wsV RX11 190 RX2 yX2_placeOf wsX2_placeOf) := goodIn_app (goodIn_of _ (by decide +kernel)) ggX11_ladle_X2_placeOf
theorem dX11_ladle_0 : decode cX11_ladle 0 = .ok (.aload_n 0, 1) := by decide +kernel
theorem dX11_ladle_1 : decode cX11_ladle 1 = .ok (.getfield 10, 3) := by decide +kernel
theorem dX11_ladle_4 : decode cX11_ladle 4 = .ok (.iload_n 1, 1) := by decide +kernel
theorem dX11_ladle_5 : decode cX11_ladle 5 = .ok (.invokevirtual 145, 3) := by decide +kernel
theorem dX11_ladle_8 : decode cX11_ladle 8 = .ok (.ifCond .eq 25, 3) := by decide +kernel
theorem dX11_ladle_11 : decode cX11_ladle 11 = .ok (.aload_n 0, 1) := by decide +kernel
theorem dX11_ladle_12 : decode cX11_ladle 12 = .ok (.getfield 10, 3) := by decide +kernel
theorem dX11_ladle_15 : decode cX11_ladle 15 = .ok (.iload_n 2, 1) := by decide +kernel
theorem dX11_ladle_16 : decode cX11_ladle 16 = .ok (.invokevirtual 145, 3) := by decide +kernel
theorem dX11_ladle_19 : decode cX11_ladle 19 = .ok (.ifCond .eq 14, 3) := by decide +kernel
theorem dX11_ladle_22 : decode cX11_ladle 22 = .ok (.aload_n 0, 1) := by decide +kernel
theorem dX11_ladle_23 : decode cX11_ladle 23 = .ok (.getfield 10, 3) := by decide +kernel
theorem dX11_ladle_26 : decode cX11_ladle 26 = .ok (.iload_n 3, 1) := by decide +kernel
theorem dX11_ladle_27 : decode cX11_ladle 27 = .ok (.invokevirtual 165, 3) := by decide +kernel
theorem dX11_ladle_30 : decode cX11_ladle 30 = .ok (.ifCond .ne 5, 3) := by decide +kernel
theorem dX11_ladle_33 : decode cX11_ladle 33 = .ok (.iconst (-1), 1) := by decide +kernel
theorem dX11_ladle_34 : decode cX11_ladle 34 = .ok (.ireturn, 1) := by decide +kernel
theorem dX11_ladle_35 : decode cX11_ladle 35 = .ok (.aload_n 0, 1) := by decide +kernel
theorem dX11_ladle_36 : decode cX11_ladle 36 = .ok (.getfield 44, 3) := by decide +kernel
theorem dX11_ladle_39 : decode cX11_ladle 39 = .ok (.iload_n 1, 1) := by decide +kernel
theorem dX11_ladle_40 : decode cX11_ladle 40 = .ok (.invokevirtual 180, 3) := by decide +kernel
theorem dX11_ladle_43 : decode cX11_ladle 43 = .ok (.aload_n 0, 1) := by decide +kernel
theorem dX11_ladle_44 : decode cX11_ladle 44 = .ok (.getfield 44, 3) := by decide +kernel
theorem dX11_ladle_47 : decode cX11_ladle 47 = .ok (.iload_n 1, 1) := by decide +kernel
theorem dX11_ladle_48 : decode cX11_ladle 48 = .ok (.iload_n 2, 1) := by decide +kernel
theorem dX11_ladle_49 : decode cX11_ladle 49 = .ok (.invokevirtual 190, 3) := by decide +kernel
theorem dX11_ladle_52 : decode cX11_ladle 52 = .ok (.ireturn, 1) := by decide +kernel
set_option maxRecDepth 20000 in
theorem ggX11_next_X6_hasSeat : GoodIn wsX11_next wsX6_hasSeat := goodIn_r _ [9, 10, 69, 70, 71, 72, 73, 74, 75] rfl (by decide +kernel)
set_option maxRecDepth 20000 in
theorem gX11_next_X6_hasSeat : GoodIn wsX11_next (wsV RX11 145 RX6 yX6_hasSeat wsX6_hasSeat) := goodIn_app (goodIn_of _ (by decide +kernel)) ggX11_next_X6_hasSeat
set_option maxRecDepth 20000 in
theorem ggX11_next_X6_hasStir : GoodIn wsX11_next wsX6_hasStir := goodIn_r _ [14, 15, 69, 70, 71, 72, 73, 74, 75] rfl (by decide +kernel)
set_option maxRecDepth 20000 in
theorem gX11_next_X6_hasStir : GoodIn wsX11_next (wsV RX11 165 RX6 yX6_hasStir wsX6_hasStir) := goodIn_app (goodIn_of _ (by decide +kernel)) ggX11_next_X6_hasStir
set_option maxRecDepth 20000 in
theorem ggX11_next_X2_serve : GoodIn wsX11_next wsX2_serve := goodIn_r _ [20, 21, 22, 23, 24, 25, 26, 27, 28, 8, 29, 10, 30, 31, 32, 33, 34, 35, 76, 77, 78, 79, 80, 69, 70, 71, 72, 73, 74, 75, 60, 61, 62, 63, 64, 65, 66, 67, 68] rfl (by decide +kernel)
set_option maxRecDepth 20000 in
theorem gX11_next_X2_serve : GoodIn wsX11_next (wsV RX11 180 RX2 yX2_serve wsX2_serve) := goodIn_app (goodIn_of _ (by decide +kernel)) ggX11_next_X2_serve
set_option maxRecDepth 20000 in
theorem ggX11_next_X6_placeAfter : GoodIn wsX11_next wsX6_placeAfter := goodIn_r _ [39, 40, 69, 70, 71, 72, 73, 74, 75] rfl (by decide +kernel)
set_option maxRecDepth 20000 in
theorem gX11_next_X6_placeAfter : GoodIn wsX11_next (wsV RX11 168 RX6 yX6_placeAfter wsX6_placeAfter) := goodIn_app (goodIn_of _ (by decide +kernel)) ggX11_next_X6_placeAfter
set_option maxRecDepth 20000 in
theorem ggX11_next_X2_holderOf : GoodIn wsX11_next wsX2_holderOf := goodIn_r _ [44, 25, 76, 77, 78, 79, 80] rfl (by decide +kernel)
set_option maxRecDepth 20000 in
theorem gX11_next_X2_holderOf : GoodIn wsX11_next (wsV RX11 193 RX2 yX2_holderOf wsX2_holderOf) := goodIn_app (goodIn_of _ (by decide +kernel)) ggX11_next_X2_holderOf
theorem dX11_next_0 : decode cX11_next 0 = .ok (.aload_n 0, 1) := by decide +kernel
theorem dX11_next_1 : decode cX11_next 1 = .ok (.getfield 10, 3) := by decide +kernel
theorem dX11_next_4 : decode cX11_next 4 = .ok (.iload_n 1, 1) := by decide +kernel
theorem dX11_next_5 : decode cX11_next 5 = .ok (.invokevirtual 145, 3) := by decide +kernel
theorem dX11_next_8 : decode cX11_next 8 = .ok (.ifCond .eq 14, 3) := by decide +kernel
theorem dX11_next_11 : decode cX11_next 11 = .ok (.aload_n 0, 1) := by decide +kernel
theorem dX11_next_12 : decode cX11_next 12 = .ok (.getfield 10, 3) := by decide +kernel
theorem dX11_next_15 : decode cX11_next 15 = .ok (.iload_n 2, 1) := by decide +kernel
theorem dX11_next_16 : decode cX11_next 16 = .ok (.invokevirtual 165, 3) := by decide +kernel
theorem dX11_next_19 : decode cX11_next 19 = .ok (.ifCond .ne 5, 3) := by decide +kernel
theorem dX11_next_22 : decode cX11_next 22 = .ok (.iconst (-1), 1) := by decide +kernel
theorem dX11_next_23 : decode cX11_next 23 = .ok (.ireturn, 1) := by decide +kernel
theorem dX11_next_24 : decode cX11_next 24 = .ok (.aload_n 0, 1) := by decide +kernel
theorem dX11_next_25 : decode cX11_next 25 = .ok (.getfield 44, 3) := by decide +kernel
theorem dX11_next_28 : decode cX11_next 28 = .ok (.iload_n 1, 1) := by decide +kernel
theorem dX11_next_29 : decode cX11_next 29 = .ok (.invokevirtual 180, 3) := by decide +kernel
theorem dX11_next_32 : decode cX11_next 32 = .ok (.aload_n 0, 1) := by decide +kernel
theorem dX11_next_33 : decode cX11_next 33 = .ok (.getfield 44, 3) := by decide +kernel
theorem dX11_next_36 : decode cX11_next 36 = .ok (.iload_n 1, 1) := by decide +kernel
theorem dX11_next_37 : decode cX11_next 37 = .ok (.aload_n 0, 1) := by decide +kernel
theorem dX11_next_38 : decode cX11_next 38 = .ok (.getfield 10, 3) := by decide +kernel
theorem dX11_next_41 : decode cX11_next 41 = .ok (.iload_n 2, 1) := by decide +kernel
theorem dX11_next_42 : decode cX11_next 42 = .ok (.aload_n 0, 1) := by decide +kernel
theorem dX11_next_43 : decode cX11_next 43 = .ok (.getfield 19, 3) := by decide +kernel
theorem dX11_next_46 : decode cX11_next 46 = .ok (.getfield 142, 3) := by decide +kernel
theorem dX11_next_49 : decode cX11_next 49 = .ok (.invokevirtual 168, 3) := by decide +kernel
theorem dX11_next_52 : decode cX11_next 52 = .ok (.invokevirtual 193, 3) := by decide +kernel
theorem dX11_next_55 : decode cX11_next 55 = .ok (.ireturn, 1) := by decide +kernel
set_option maxRecDepth 20000 in
theorem ggX11_day_X6_hasStir : GoodIn wsX11_day wsX6_hasStir := goodIn_r _ [10, 11, 97, 98, 99, 100, 101, 102, 103] rfl (by decide +kernel)
set_option maxRecDepth 20000 in
theorem gX11_day_X6_hasStir : GoodIn wsX11_day (wsV RX11 165 RX6 yX6_hasStir wsX6_hasStir) := goodIn_app (goodIn_of _ (by decide +kernel)) ggX11_day_X6_hasStir
set_option maxRecDepth 20000 in
theorem ggX11_day_X2_passDay : GoodIn wsX11_day wsX2_passDay := goodIn_r _ [16, 17, 18, 19, 20, 21, 22, 23, 24, 25, 26, 27, 28, 29, 30, 31, 32, 15, 33, 34, 35, 36, 37, 38, 9, 39, 40, 41, 42, 43, 44, 45, 46, 47, 48, 49, 50, 51, 52, 53, 54, 55, 56, 57, 58, 59, 60, 61, 62, 63, 64, 65, 66, 67, 68, 69, 70, 71, 72, 104, 105, 106, 107, 108, 88, 89, 90, 91, 92, 93, 94, 95, 96, 97, 98, 99, 100, 101, 102, 103] rfl (by decide +kernel)
set_option maxRecDepth 20000 in
theorem gX11_day_X2_passDay : GoodIn wsX11_day (wsV RX11 196 RX2 yX2_passDay wsX2_passDay) := goodIn_app (goodIn_of _ (by decide +kernel)) ggX11_day_X2_passDay
theorem dX11_day_0 : decode cX11_day 0 = .ok (.aload_n 0, 1) := by decide +kernel
theorem dX11_day_1 : decode cX11_day 1 = .ok (.getfield 10, 3) := by decide +kernel
theorem dX11_day_4 : decode cX11_day 4 = .ok (.iload_n 1, 1) := by decide +kernel
theorem dX11_day_5 : decode cX11_day 5 = .ok (.invokevirtual 165, 3) := by decide +kernel
theorem dX11_day_8 : decode cX11_day 8 = .ok (.ifCond .ne 5, 3) := by decide +kernel
theorem dX11_day_11 : decode cX11_day 11 = .ok (.iconst (-1), 1) := by decide +kernel
theorem dX11_day_12 : decode cX11_day 12 = .ok (.ireturn, 1) := by decide +kernel
theorem dX11_day_13 : decode cX11_day 13 = .ok (.aload_n 0, 1) := by decide +kernel
theorem dX11_day_14 : decode cX11_day 14 = .ok (.getfield 19, 3) := by decide +kernel
theorem dX11_day_17 : decode cX11_day 17 = .ok (.getfield 139, 3) := by decide +kernel
theorem dX11_day_20 : decode cX11_day 20 = .ok (.sipush 999, 3) := by decide +kernel
theorem dX11_day_23 : decode cX11_day 23 = .ok (.if_icmp .lt 6, 3) := by decide +kernel
theorem dX11_day_26 : decode cX11_day 26 = .ok (.bipush (-3), 2) := by decide +kernel
theorem dX11_day_28 : decode cX11_day 28 = .ok (.ireturn, 1) := by decide +kernel
theorem dX11_day_29 : decode cX11_day 29 = .ok (.aload_n 0, 1) := by decide +kernel
theorem dX11_day_30 : decode cX11_day 30 = .ok (.getfield 44, 3) := by decide +kernel
theorem dX11_day_33 : decode cX11_day 33 = .ok (.iload_n 1, 1) := by decide +kernel
theorem dX11_day_34 : decode cX11_day 34 = .ok (.invokevirtual 196, 3) := by decide +kernel
theorem dX11_day_37 : decode cX11_day 37 = .ok (.aload_n 0, 1) := by decide +kernel
theorem dX11_day_38 : decode cX11_day 38 = .ok (.getfield 19, 3) := by decide +kernel
theorem dX11_day_41 : decode cX11_day 41 = .ok (.getfield 136, 3) := by decide +kernel
theorem dX11_day_44 : decode cX11_day 44 = .ok (.ireturn, 1) := by decide +kernel
theorem dX11_hungry_0 : decode cX11_hungry 0 = .ok (.iconst 0, 1) := by decide +kernel
theorem dX11_hungry_1 : decode cX11_hungry 1 = .ok (.istore_n 1, 1) := by decide +kernel
theorem dX11_hungry_2 : decode cX11_hungry 2 = .ok (.iconst 0, 1) := by decide +kernel
theorem dX11_hungry_3 : decode cX11_hungry 3 = .ok (.istore_n 2, 1) := by decide +kernel
theorem dX11_hungry_4 : decode cX11_hungry 4 = .ok (.iload_n 2, 1) := by decide +kernel
theorem dX11_hungry_5 : decode cX11_hungry 5 = .ok (.aload_n 0, 1) := by decide +kernel
theorem dX11_hungry_6 : decode cX11_hungry 6 = .ok (.getfield 10, 3) := by decide +kernel
theorem dX11_hungry_9 : decode cX11_hungry 9 = .ok (.getfield 130, 3) := by decide +kernel
theorem dX11_hungry_12 : decode cX11_hungry 12 = .ok (.if_icmp .ge 44, 3) := by decide +kernel
theorem dX11_hungry_15 : decode cX11_hungry 15 = .ok (.aload_n 0, 1) := by decide +kernel
theorem dX11_hungry_16 : decode cX11_hungry 16 = .ok (.getfield 19, 3) := by decide +kernel
theorem dX11_hungry_19 : decode cX11_hungry 19 = .ok (.getfield 162, 3) := by decide +kernel
theorem dX11_hungry_22 : decode cX11_hungry 22 = .ok (.iload_n 2, 1) := by decide +kernel
theorem dX11_hungry_23 : decode cX11_hungry 23 = .ok (.iaload, 1) := by decide +kernel
theorem dX11_hungry_24 : decode cX11_hungry 24 = .ok (.aload_n 0, 1) := by decide +kernel
theorem dX11_hungry_25 : decode cX11_hungry 25 = .ok (.getfield 10, 3) := by decide +kernel
theorem dX11_hungry_28 : decode cX11_hungry 28 = .ok (.getfield 159, 3) := by decide +kernel
theorem dX11_hungry_31 : decode cX11_hungry 31 = .ok (.iload_n 2, 1) := by decide +kernel
theorem dX11_hungry_32 : decode cX11_hungry 32 = .ok (.iaload, 1) := by decide +kernel
theorem dX11_hungry_33 : decode cX11_hungry 33 = .ok (.aload_n 0, 1) := by decide +kernel
theorem dX11_hungry_34 : decode cX11_hungry 34 = .ok (.getfield 19, 3) := by decide +kernel
theorem dX11_hungry_37 : decode cX11_hungry 37 = .ok (.getfield 139, 3) := by decide +kernel
theorem dX11_hungry_40 : decode cX11_hungry 40 = .ok (.imul, 1) := by decide +kernel
theorem dX11_hungry_41 : decode cX11_hungry 41 = .ok (.if_icmp .ge 9, 3) := by decide +kernel
theorem dX11_hungry_44 : decode cX11_hungry 44 = .ok (.iload_n 1, 1) := by decide +kernel
theorem dX11_hungry_45 : decode cX11_hungry 45 = .ok (.iconst 1, 1) := by decide +kernel
theorem dX11_hungry_46 : decode cX11_hungry 46 = .ok (.iload_n 2, 1) := by decide +kernel
theorem dX11_hungry_47 : decode cX11_hungry 47 = .ok (.ishl, 1) := by decide +kernel
theorem dX11_hungry_48 : decode cX11_hungry 48 = .ok (.ior, 1) := by decide +kernel
theorem dX11_hungry_49 : decode cX11_hungry 49 = .ok (.istore_n 1, 1) := by decide +kernel
theorem dX11_hungry_50 : decode cX11_hungry 50 = .ok (.iinc 2 1, 3) := by decide +kernel
theorem dX11_hungry_53 : decode cX11_hungry 53 = .ok (.goto (-49), 3) := by decide +kernel
theorem dX11_hungry_56 : decode cX11_hungry 56 = .ok (.iload_n 1, 1) := by decide +kernel
theorem dX11_hungry_57 : decode cX11_hungry 57 = .ok (.ireturn, 1) := by decide +kernel
set_option maxRecDepth 20000 in
theorem ggX11_chance_X6_hasSeat : GoodIn wsX11_chance wsX6_hasSeat := goodIn_r _ [10, 11, 111, 112, 113, 114, 115, 116, 117] rfl (by decide +kernel)
set_option maxRecDepth 20000 in
theorem gX11_chance_X6_hasSeat : GoodIn wsX11_chance (wsV RX11 145 RX6 yX6_hasSeat wsX6_hasSeat) := goodIn_app (goodIn_of _ (by decide +kernel)) ggX11_chance_X6_hasSeat
set_option maxRecDepth 20000 in
theorem ggX11_chance_X11_isPart : GoodIn wsX11_chance wsX11_isPart := goodIn_r _ [15] rfl (by decide +kernel)
set_option maxRecDepth 20000 in
theorem gX11_chance_X11_isPart : GoodIn wsX11_chance (va_wsS RX11 199 yX11_isPart wsX11_isPart) := goodIn_app (goodIn_of _ (by decide +kernel)) ggX11_chance_X11_isPart
set_option maxRecDepth 20000 in
theorem ggX11_chance_X3_rowsToCrown : GoodIn wsX11_chance wsX3_rowsToCrown := goodIn_r _ [20, 21, 22, 23, 19, 24, 25, 26, 27, 28, 29, 30, 31, 32, 33, 34, 35, 36, 37, 38, 39, 40, 41, 42, 43, 44, 45, 46, 9, 47, 11, 48, 49, 50, 51, 52, 53, 54, 55, 56, 57, 58, 59, 60, 61, 62, 63, 64, 65, 66, 67, 68, 69, 70, 71, 72, 73, 74, 75, 76, 77, 78, 79, 80, 81, 82, 83, 84, 85, 86, 118, 119, 120, 121, 122, 123, 124, 125, 126, 127, 128, 129, 130, 131, 132, 133, 134, 135, 111, 112, 113, 114, 115, 116, 117] rfl (by decide +kernel)
set_option maxRecDepth 20000 in
theorem gX11_chance_X3_rowsToCrown : GoodIn wsX11_chance (wsV RX11 206 RX3 yX3_rowsToCrown wsX3_rowsToCrown) := goodIn_app (goodIn_of _ (by decide +kernel)) ggX11_chance_X3_rowsToCrown
set_option maxRecDepth 20000 in
theorem ggX11_chance_X3_power : GoodIn wsX11_chance wsX3_power := goodIn_r _ [89] rfl (by decide +kernel)
set_option maxRecDepth 20000 in
theorem gX11_chance_X3_power : GoodIn wsX11_chance (va_wsS RX11 210 yX3_power wsX3_power) := goodIn_app (goodIn_of _ (by decide +kernel)) ggX11_chance_X3_power
set_option maxRecDepth 20000 in
theorem ggX11_chance_X3_part : GoodIn wsX11_chance wsX3_part := goodIn_r _ [92, 93, 94, 19, 95] rfl (by decide +kernel)
set_option maxRecDepth 20000 in
theorem gX11_chance_X3_part : GoodIn wsX11_chance (va_wsS RX11 213 yX3_part wsX3_part) := goodIn_app (goodIn_of _ (by decide +kernel)) ggX11_chance_X3_part
theorem dX11_chance_0 : decode cX11_chance 0 = .ok (.aload_n 0, 1) := by decide +kernel
theorem dX11_chance_1 : decode cX11_chance 1 = .ok (.getfield 10, 3) := by decide +kernel
theorem dX11_chance_4 : decode cX11_chance 4 = .ok (.iload_n 1, 1) := by decide +kernel
theorem dX11_chance_5 : decode cX11_chance 5 = .ok (.invokevirtual 145, 3) := by decide +kernel
theorem dX11_chance_8 : decode cX11_chance 8 = .ok (.ifCond .eq 20, 3) := by decide +kernel
theorem dX11_chance_11 : decode cX11_chance 11 = .ok (.iload_n 2, 1) := by decide +kernel
theorem dX11_chance_12 : decode cX11_chance 12 = .ok (.ifCond .lt 16, 3) := by decide +kernel
theorem dX11_chance_15 : decode cX11_chance 15 = .ok (.iload_n 2, 1) := by decide +kernel
theorem dX11_chance_16 : decode cX11_chance 16 = .ok (.bipush 10, 2) := by decide +kernel
theorem dX11_chance_18 : decode cX11_chance 18 = .ok (.if_icmp .gt 10, 3) := by decide +kernel
theorem dX11_chance_21 : decode cX11_chance 21 = .ok (.iload_n 3, 1) := by decide +kernel
theorem dX11_chance_22 : decode cX11_chance 22 = .ok (.invokestatic 199, 3) := by decide +kernel
theorem dX11_chance_25 : decode cX11_chance 25 = .ok (.ifCond .ne 7, 3) := by decide +kernel
theorem dX11_chance_28 : decode cX11_chance 28 = .ok (.ldc2_w 202, 3) := by decide +kernel
theorem dX11_chance_31 : decode cX11_chance 31 = .ok (.lreturn, 1) := by decide +kernel
theorem dX11_chance_32 : decode cX11_chance 32 = .ok (.aload_n 0, 1) := by decide +kernel
theorem dX11_chance_33 : decode cX11_chance 33 = .ok (.getfield 10, 3) := by decide +kernel
theorem dX11_chance_36 : decode cX11_chance 36 = .ok (.getfield 133, 3) := by decide +kernel
theorem dX11_chance_39 : decode cX11_chance 39 = .ok (.ifCond .ne 7, 3) := by decide +kernel
theorem dX11_chance_42 : decode cX11_chance 42 = .ok (.ldc2_w 204, 3) := by decide +kernel
theorem dX11_chance_45 : decode cX11_chance 45 = .ok (.lreturn, 1) := by decide +kernel
theorem dX11_chance_46 : decode cX11_chance 46 = .ok (.aload_n 0, 1) := by decide +kernel
theorem dX11_chance_47 : decode cX11_chance 47 = .ok (.getfield 53, 3) := by decide +kernel
theorem dX11_chance_50 : decode cX11_chance 50 = .ok (.iload_n 1, 1) := by decide +kernel
theorem dX11_chance_51 : decode cX11_chance 51 = .ok (.iload_n 2, 1) := by decide +kernel
theorem dX11_chance_52 : decode cX11_chance 52 = .ok (.invokevirtual 206, 3) := by decide +kernel
theorem dX11_chance_55 : decode cX11_chance 55 = .ok (.aload_n 0, 1) := by decide +kernel
theorem dX11_chance_56 : decode cX11_chance 56 = .ok (.getfield 10, 3) := by decide +kernel
theorem dX11_chance_59 : decode cX11_chance 59 = .ok (.getfield 133, 3) := by decide +kernel
theorem dX11_chance_62 : decode cX11_chance 62 = .ok (.iload_n 2, 1) := by decide +kernel
theorem dX11_chance_63 : decode cX11_chance 63 = .ok (.invokestatic 210, 3) := by decide +kernel
theorem dX11_chance_66 : decode cX11_chance 66 = .ok (.iload_n 3, 1) := by decide +kernel
theorem dX11_chance_67 : decode cX11_chance 67 = .ok (.invokestatic 213, 3) := by decide +kernel
theorem dX11_chance_70 : decode cX11_chance 70 = .ok (.lreturn, 1) := by decide +kernel
set_option maxRecDepth 20000 in
theorem ggX11_lasts_X11_isPart : GoodIn wsX11_lasts wsX11_isPart := goodIn_r _ [9] rfl (by decide +kernel)
set_option maxRecDepth 20000 in
theorem gX11_lasts_X11_isPart : GoodIn wsX11_lasts (va_wsS RX11 199 yX11_isPart wsX11_isPart) := goodIn_app (goodIn_of _ (by decide +kernel)) ggX11_lasts_X11_isPart
set_option maxRecDepth 20000 in
theorem ggX11_lasts_X3_rowsOfReign : GoodIn wsX11_lasts wsX3_rowsOfReign := goodIn_r _ [14, 15, 16, 17, 18, 19, 20, 13, 21, 22, 23, 24, 25, 26, 27, 28, 29, 30, 31, 32, 33, 34, 35, 36, 37, 38, 39, 40, 41, 42, 43, 44, 45, 46, 47, 48, 49, 50, 51, 52, 53, 54, 55, 56, 57, 58, 59, 60, 61, 62, 63, 64, 65, 66, 67, 68, 69, 70, 71, 72, 73, 74, 75, 76, 77, 78, 79, 80, 81, 82, 114, 115, 116, 117, 118, 119, 120, 121, 122, 123, 124, 125, 126, 127, 128, 129, 130, 131, 107, 108, 109, 110, 111, 112, 113] rfl (by decide +kernel)
set_option maxRecDepth 20000 in
theorem gX11_lasts_X3_rowsOfReign : GoodIn wsX11_lasts (wsV RX11 217 RX3 yX3_rowsOfReign wsX3_rowsOfReign) := goodIn_app (goodIn_of _ (by decide +kernel)) ggX11_lasts_X3_rowsOfReign
set_option maxRecDepth 20000 in
theorem ggX11_lasts_X3_power : GoodIn wsX11_lasts wsX3_power := goodIn_r _ [85] rfl (by decide +kernel)
set_option maxRecDepth 20000 in
theorem gX11_lasts_X3_power : GoodIn wsX11_lasts (va_wsS RX11 210 yX3_power wsX3_power) := goodIn_app (goodIn_of _ (by decide +kernel)) ggX11_lasts_X3_power
set_option maxRecDepth 20000 in
theorem ggX11_lasts_X3_part : GoodIn wsX11_lasts wsX3_part := goodIn_r _ [88, 89, 90, 13, 91] rfl (by decide +kernel)
set_option maxRecDepth 20000 in
theorem gX11_lasts_X3_part : GoodIn wsX11_lasts (va_wsS RX11 213 yX3_part wsX3_part) := goodIn_app (goodIn_of _ (by decide +kernel)) ggX11_lasts_X3_part
theorem dX11_lasts_0 : decode cX11_lasts 0 = .ok (.iload_n 1, 1) := by decide +kernel
theorem dX11_lasts_1 : decode cX11_lasts 1 = .ok (.ifCond .lt 16, 3) := by decide +kernel
theorem dX11_lasts_4 : decode cX11_lasts 4 = .ok (.iload_n 1, 1) := by decide +kernel
theorem dX11_lasts_5 : decode cX11_lasts 5 = .ok (.bipush 10, 2) := by decide +kernel
theorem dX11_lasts_7 : decode cX11_lasts 7 = .ok (.if_icmp .gt 10, 3) := by decide +kernel
theorem dX11_lasts_10 : decode cX11_lasts 10 = .ok (.iload_n 2, 1) := by decide +kernel
theorem dX11_lasts_11 : decode cX11_lasts 11 = .ok (.invokestatic 199, 3) := by decide +kernel
theorem dX11_lasts_14 : decode cX11_lasts 14 = .ok (.ifCond .ne 7, 3) := by decide +kernel
theorem dX11_lasts_17 : decode cX11_lasts 17 = .ok (.ldc2_w 202, 3) := by decide +kernel
theorem dX11_lasts_20 : decode cX11_lasts 20 = .ok (.lreturn, 1) := by decide +kernel
theorem dX11_lasts_21 : decode cX11_lasts 21 = .ok (.aload_n 0, 1) := by decide +kernel
theorem dX11_lasts_22 : decode cX11_lasts 22 = .ok (.getfield 10, 3) := by decide +kernel
theorem dX11_lasts_25 : decode cX11_lasts 25 = .ok (.getfield 133, 3) := by decide +kernel
theorem dX11_lasts_28 : decode cX11_lasts 28 = .ok (.ifCond .ne 7, 3) := by decide +kernel
theorem dX11_lasts_31 : decode cX11_lasts 31 = .ok (.ldc2_w 204, 3) := by decide +kernel
theorem dX11_lasts_34 : decode cX11_lasts 34 = .ok (.lreturn, 1) := by decide +kernel
theorem dX11_lasts_35 : decode cX11_lasts 35 = .ok (.aload_n 0, 1) := by decide +kernel
theorem dX11_lasts_36 : decode cX11_lasts 36 = .ok (.getfield 53, 3) := by decide +kernel
theorem dX11_lasts_39 : decode cX11_lasts 39 = .ok (.iload_n 1, 1) := by decide +kernel
theorem dX11_lasts_40 : decode cX11_lasts 40 = .ok (.invokevirtual 217, 3) := by decide +kernel
theorem dX11_lasts_43 : decode cX11_lasts 43 = .ok (.aload_n 0, 1) := by decide +kernel
theorem dX11_lasts_44 : decode cX11_lasts 44 = .ok (.getfield 10, 3) := by decide +kernel
theorem dX11_lasts_47 : decode cX11_lasts 47 = .ok (.getfield 133, 3) := by decide +kernel
theorem dX11_lasts_50 : decode cX11_lasts 50 = .ok (.iload_n 1, 1) := by decide +kernel
theorem dX11_lasts_51 : decode cX11_lasts 51 = .ok (.invokestatic 210, 3) := by decide +kernel
theorem dX11_lasts_54 : decode cX11_lasts 54 = .ok (.iload_n 2, 1) := by decide +kernel
theorem dX11_lasts_55 : decode cX11_lasts 55 = .ok (.invokestatic 213, 3) := by decide +kernel
theorem dX11_lasts_58 : decode cX11_lasts 58 = .ok (.lreturn, 1) := by decide +kernel
set_option maxRecDepth 20000 in
theorem ggX11_reign_X11_isRowQuestion : GoodIn wsX11_reign wsX11_isRowQuestion := goodIn_r _ [8] rfl (by decide +kernel)
set_option maxRecDepth 20000 in
theorem gX11_reign_X11_isRowQuestion : GoodIn wsX11_reign (va_wsS RX11 221 yX11_isRowQuestion wsX11_isRowQuestion) := goodIn_app (goodIn_of _ (by decide +kernel)) ggX11_reign_X11_isRowQuestion
set_option maxRecDepth 20000 in
theorem ggX11_reign_X5_planReign : GoodIn wsX11_reign wsX5_planReign := goodIn_r _ [13, 14, 15, 16, 17, 18, 19, 20, 21, 22, 23, 24, 25, 26, 27, 28, 29, 30, 31, 32, 33, 34, 35, 36, 37, 38, 39, 40, 41, 42, 43, 44, 12, 45, 46, 47, 48, 49, 50, 51, 52, 53, 54, 55, 56, 57, 58, 59, 60, 61, 62, 63, 64, 65, 66, 67, 68, 69, 70, 71, 72, 73, 74, 75, 76, 77, 78, 79, 80, 81, 82, 83, 84, 85, 86, 87, 88, 89, 115, 116, 117, 118, 119, 120, 121, 122, 108, 109, 110, 111, 112, 113, 114, 123, 124, 125, 126, 127, 128, 129, 130, 131] rfl (by decide +kernel)
set_option maxRecDepth 20000 in
theorem gX11_reign_X5_planReign : GoodIn wsX11_reign (wsV RX11 224 RX5 yX5_planReign wsX5_planReign) := goodIn_app (goodIn_of _ (by decide +kernel)) ggX11_reign_X5_planReign
set_option maxRecDepth 20000 in
theorem ggX11_reign_X11_ofRow : GoodIn wsX11_reign wsX11_ofRow := goodIn_r _ [92] rfl (by decide +kernel)
set_option maxRecDepth 20000 in
theorem gX11_reign_X11_ofRow : GoodIn wsX11_reign (va_wsS RX11 231 yX11_ofRow wsX11_ofRow) := goodIn_app (goodIn_of _ (by decide +kernel)) ggX11_reign_X11_ofRow
theorem dX11_reign_0 : decode cX11_reign 0 = .ok (.iload_n 1, 1) := by decide +kernel
theorem dX11_reign_1 : decode cX11_reign 1 = .ok (.iconst 1, 1) := by decide +kernel
theorem dX11_reign_2 : decode cX11_reign 2 = .ok (.if_icmp .lt 18, 3) := by decide +kernel
theorem dX11_reign_5 : decode cX11_reign 5 = .ok (.iload_n 1, 1) := by decide +kernel
theorem dX11_reign_6 : decode cX11_reign 6 = .ok (.bipush 10, 2) := by decide +kernel
theorem dX11_reign_8 : decode cX11_reign 8 = .ok (.if_icmp .gt 12, 3) := by decide +kernel
theorem dX11_reign_11 : decode cX11_reign 11 = .ok (.iload_n 2, 1) := by decide +kernel
theorem dX11_reign_12 : decode cX11_reign 12 = .ok (.bipush 10, 2) := by decide +kernel
theorem dX11_reign_14 : decode cX11_reign 14 = .ok (.invokestatic 221, 3) := by decide +kernel
theorem dX11_reign_17 : decode cX11_reign 17 = .ok (.ifCond .ne 5, 3) := by decide +kernel
theorem dX11_reign_20 : decode cX11_reign 20 = .ok (.iconst (-1), 1) := by decide +kernel
theorem dX11_reign_21 : decode cX11_reign 21 = .ok (.ireturn, 1) := by decide +kernel
theorem dX11_reign_22 : decode cX11_reign 22 = .ok (.aload_n 0, 1) := by decide +kernel
theorem dX11_reign_23 : decode cX11_reign 23 = .ok (.getfield 10, 3) := by decide +kernel
theorem dX11_reign_26 : decode cX11_reign 26 = .ok (.getfield 133, 3) := by decide +kernel
theorem dX11_reign_29 : decode cX11_reign 29 = .ok (.ifCond .ne 6, 3) := by decide +kernel
theorem dX11_reign_32 : decode cX11_reign 32 = .ok (.bipush (-2), 2) := by decide +kernel
theorem dX11_reign_34 : decode cX11_reign 34 = .ok (.ireturn, 1) := by decide +kernel
theorem dX11_reign_35 : decode cX11_reign 35 = .ok (.aload_n 0, 1) := by decide +kernel
theorem dX11_reign_36 : decode cX11_reign 36 = .ok (.getfield 60, 3) := by decide +kernel
theorem dX11_reign_39 : decode cX11_reign 39 = .ok (.iload_n 1, 1) := by decide +kernel
theorem dX11_reign_40 : decode cX11_reign 40 = .ok (.invokevirtual 224, 3) := by decide +kernel
theorem dX11_reign_43 : decode cX11_reign 43 = .ok (.istore_n 3, 1) := by decide +kernel
theorem dX11_reign_44 : decode cX11_reign 44 = .ok (.iload_n 2, 1) := by decide +kernel
theorem dX11_reign_45 : decode cX11_reign 45 = .ok (.ifCond .ne 7, 3) := by decide +kernel
theorem dX11_reign_48 : decode cX11_reign 48 = .ok (.iload_n 3, 1) := by decide +kernel
theorem dX11_reign_49 : decode cX11_reign 49 = .ok (.goto 18, 3) := by decide +kernel
theorem dX11_reign_52 : decode cX11_reign 52 = .ok (.aload_n 0, 1) := by decide +kernel
theorem dX11_reign_53 : decode cX11_reign 53 = .ok (.getfield 60, 3) := by decide +kernel
theorem dX11_reign_56 : decode cX11_reign 56 = .ok (.getfield 228, 3) := by decide +kernel
theorem dX11_reign_59 : decode cX11_reign 59 = .ok (.iload_n 3, 1) := by decide +kernel
theorem dX11_reign_60 : decode cX11_reign 60 = .ok (.iload_n 2, 1) := by decide +kernel
theorem dX11_reign_61 : decode cX11_reign 61 = .ok (.bipush 10, 2) := by decide +kernel
theorem dX11_reign_63 : decode cX11_reign 63 = .ok (.isub, 1) := by decide +kernel
theorem dX11_reign_64 : decode cX11_reign 64 = .ok (.invokestatic 231, 3) := by decide +kernel
theorem dX11_reign_67 : decode cX11_reign 67 = .ok (.ireturn, 1) := by decide +kernel
set_option maxRecDepth 20000 in
theorem ggX11_raise_X6_hasSeat : GoodIn wsX11_raise wsX6_hasSeat := goodIn_r _ [9, 10, 108, 109, 110, 111, 112, 113, 114] rfl (by decide +kernel)
set_option maxRecDepth 20000 in
theorem gX11_raise_X6_hasSeat : GoodIn wsX11_raise (wsV RX11 145 RX6 yX6_hasSeat wsX6_hasSeat) := goodIn_app (goodIn_of _ (by decide +kernel)) ggX11_raise_X6_hasSeat
set_option maxRecDepth 20000 in
theorem ggX11_raise_X11_isRowQuestion : GoodIn wsX11_raise wsX11_isRowQuestion := goodIn_r _ [14] rfl (by decide +kernel)
set_option maxRecDepth 20000 in
theorem gX11_raise_X11_isRowQuestion : GoodIn wsX11_raise (va_wsS RX11 221 yX11_isRowQuestion wsX11_isRowQuestion) := goodIn_app (goodIn_of _ (by decide +kernel)) ggX11_raise_X11_isRowQuestion
set_option maxRecDepth 20000 in
theorem ggX11_raise_X5_planRaise : GoodIn wsX11_raise wsX5_planRaise := goodIn_r _ [19, 20, 21, 22, 23, 24, 25, 26, 27, 28, 29, 30, 31, 32, 33, 34, 35, 36, 37, 38, 8, 39, 10, 40, 41, 42, 43, 44, 45, 46, 47, 48, 18, 49, 50, 51, 52, 53, 54, 55, 56, 57, 58, 59, 60, 61, 62, 63, 64, 65, 66, 67, 68, 69, 70, 71, 72, 73, 74, 75, 76, 77, 78, 79, 80, 81, 82, 83, 84, 85, 86, 87, 88, 89, 115, 116, 117, 118, 119, 120, 121, 122, 108, 109, 110, 111, 112, 113, 114, 123, 124, 125, 126, 127, 128, 129, 130, 131] rfl (by decide +kernel)
set_option maxRecDepth 20000 in
theorem gX11_raise_X5_planRaise : GoodIn wsX11_raise (wsV RX11 235 RX5 yX5_planRaise wsX5_planRaise) := goodIn_app (goodIn_of _ (by decide +kernel)) ggX11_raise_X5_planRaise
set_option maxRecDepth 20000 in
theorem ggX11_raise_X11_ofRow : GoodIn wsX11_raise wsX11_ofRow := goodIn_r _ [92] rfl (by decide +kernel)
set_option maxRecDepth 20000 in
theorem gX11_raise_X11_ofRow : GoodIn wsX11_raise (va_wsS RX11 231 yX11_ofRow wsX11_ofRow) := goodIn_app (goodIn_of _ (by decide +kernel)) ggX11_raise_X11_ofRow
theorem dX11_raise_0 : decode cX11_raise 0 = .ok (.aload_n 0, 1) := by decide +kernel
theorem dX11_raise_1 : decode cX11_raise 1 = .ok (.getfield 10, 3) := by decide +kernel
theorem dX11_raise_4 : decode cX11_raise 4 = .ok (.iload_n 1, 1) := by decide +kernel
theorem dX11_raise_5 : decode cX11_raise 5 = .ok (.invokevirtual 145, 3) := by decide +kernel
theorem dX11_raise_8 : decode cX11_raise 8 = .ok (.ifCond .eq 12, 3) := by decide +kernel
theorem dX11_raise_11 : decode cX11_raise 11 = .ok (.iload_n 2, 1) := by decide +kernel
theorem dX11_raise_12 : decode cX11_raise 12 = .ok (.bipush 10, 2) := by decide +kernel
theorem dX11_raise_14 : decode cX11_raise 14 = .ok (.invokestatic 221, 3) := by decide +kernel
theorem dX11_raise_17 : decode cX11_raise 17 = .ok (.ifCond .ne 5, 3) := by decide +kernel
theorem dX11_raise_20 : decode cX11_raise 20 = .ok (.iconst (-1), 1) := by decide +kernel
theorem dX11_raise_21 : decode cX11_raise 21 = .ok (.ireturn, 1) := by decide +kernel
theorem dX11_raise_22 : decode cX11_raise 22 = .ok (.aload_n 0, 1) := by decide +kernel
theorem dX11_raise_23 : decode cX11_raise 23 = .ok (.getfield 10, 3) := by decide +kernel
theorem dX11_raise_26 : decode cX11_raise 26 = .ok (.getfield 133, 3) := by decide +kernel
theorem dX11_raise_29 : decode cX11_raise 29 = .ok (.ifCond .ne 6, 3) := by decide +kernel
theorem dX11_raise_32 : decode cX11_raise 32 = .ok (.bipush (-2), 2) := by decide +kernel
theorem dX11_raise_34 : decode cX11_raise 34 = .ok (.ireturn, 1) := by decide +kernel
theorem dX11_raise_35 : decode cX11_raise 35 = .ok (.aload_n 0, 1) := by decide +kernel
theorem dX11_raise_36 : decode cX11_raise 36 = .ok (.getfield 60, 3) := by decide +kernel
theorem dX11_raise_39 : decode cX11_raise 39 = .ok (.iload_n 1, 1) := by decide +kernel
theorem dX11_raise_40 : decode cX11_raise 40 = .ok (.invokevirtual 235, 3) := by decide +kernel
theorem dX11_raise_43 : decode cX11_raise 43 = .ok (.istore_n 3, 1) := by decide +kernel
theorem dX11_raise_44 : decode cX11_raise 44 = .ok (.iload_n 2, 1) := by decide +kernel
theorem dX11_raise_45 : decode cX11_raise 45 = .ok (.ifCond .ne 7, 3) := by decide +kernel
theorem dX11_raise_48 : decode cX11_raise 48 = .ok (.iload_n 3, 1) := by decide +kernel
theorem dX11_raise_49 : decode cX11_raise 49 = .ok (.goto 18, 3) := by decide +kernel
theorem dX11_raise_52 : decode cX11_raise 52 = .ok (.aload_n 0, 1) := by decide +kernel
theorem dX11_raise_53 : decode cX11_raise 53 = .ok (.getfield 60, 3) := by decide +kernel
theorem dX11_raise_56 : decode cX11_raise 56 = .ok (.getfield 228, 3) := by decide +kernel
theorem dX11_raise_59 : decode cX11_raise 59 = .ok (.iload_n 3, 1) := by decide +kernel
theorem dX11_raise_60 : decode cX11_raise 60 = .ok (.iload_n 2, 1) := by decide +kernel
theorem dX11_raise_61 : decode cX11_raise 61 = .ok (.bipush 10, 2) := by decide +kernel
theorem dX11_raise_63 : decode cX11_raise 63 = .ok (.isub, 1) := by decide +kernel
theorem dX11_raise_64 : decode cX11_raise 64 = .ok (.invokestatic 231, 3) := by decide +kernel
theorem dX11_raise_67 : decode cX11_raise 67 = .ok (.ireturn, 1) := by decide +kernel
set_option maxRecDepth 20000 in
theorem ggX11_coup_X6_hasSeat : GoodIn wsX11_coup wsX6_hasSeat := goodIn_r _ [8, 9, 107, 108, 109, 110, 111, 112, 113] rfl (by decide +kernel)
set_option maxRecDepth 20000 in
theorem gX11_coup_X6_hasSeat : GoodIn wsX11_coup (wsV RX11 145 RX6 yX6_hasSeat wsX6_hasSeat) := goodIn_app (goodIn_of _ (by decide +kernel)) ggX11_coup_X6_hasSeat
set_option maxRecDepth 20000 in
theorem ggX11_coup_X6_hasStir : GoodIn wsX11_coup wsX6_hasStir := goodIn_r _ [13, 14, 107, 108, 109, 110, 111, 112, 113] rfl (by decide +kernel)
set_option maxRecDepth 20000 in
theorem gX11_coup_X6_hasStir : GoodIn wsX11_coup (wsV RX11 165 RX6 yX6_hasStir wsX6_hasStir) := goodIn_app (goodIn_of _ (by decide +kernel)) ggX11_coup_X6_hasStir
set_option maxRecDepth 20000 in
theorem ggX11_coup_X11_isPart : GoodIn wsX11_coup wsX11_isPart := goodIn_r _ [18] rfl (by decide +kernel)
set_option maxRecDepth 20000 in
theorem gX11_coup_X11_isPart : GoodIn wsX11_coup (va_wsS RX11 199 yX11_isPart wsX11_isPart) := goodIn_app (goodIn_of _ (by decide +kernel)) ggX11_coup_X11_isPart
set_option maxRecDepth 20000 in
theorem ggX11_coup_X2_serveAllKings : GoodIn wsX11_coup wsX2_serveAllKings := goodIn_r _ [23, 24, 25, 26, 27, 28, 22, 29, 30, 31, 32, 33, 34, 35, 7, 36, 9, 37, 38, 39, 40, 41, 42, 114, 115, 116, 117, 118, 107, 108, 109, 110, 111, 112, 113, 119, 120, 121, 122, 123, 124, 125, 126, 127] rfl (by decide +kernel)
set_option maxRecDepth 20000 in
theorem gX11_coup_X2_serveAllKings : GoodIn wsX11_coup (wsV RX11 238 RX2 yX2_serveAllKings wsX2_serveAllKings) := goodIn_app (goodIn_of _ (by decide +kernel)) ggX11_coup_X2_serveAllKings
set_option maxRecDepth 20000 in
theorem ggX11_coup_X2_stirPot : GoodIn wsX11_coup wsX2_stirPot := goodIn_r _ [46, 24, 30, 47, 48, 49, 50, 51, 7, 52, 9, 53, 54, 55, 56, 57, 114, 115, 116, 117, 118, 119, 120, 121, 122, 123, 124, 125, 126, 127, 107, 108, 109, 110, 111, 112, 113] rfl (by decide +kernel)
set_option maxRecDepth 20000 in
theorem gX11_coup_X2_stirPot : GoodIn wsX11_coup (wsV RX11 184 RX2 yX2_stirPot wsX2_stirPot) := goodIn_app (goodIn_of _ (by decide +kernel)) ggX11_coup_X2_stirPot
set_option maxRecDepth 20000 in
theorem ggX11_coup_X0_leastLeader : GoodIn wsX11_coup wsX0_leastLeader := goodIn_r _ [62, 63, 64, 65, 66, 67, 68, 61, 69, 70, 71, 72, 73, 74, 75, 76, 22, 77, 48, 78, 79, 80, 81, 31, 82, 83, 84, 85, 86, 87, 128, 114, 115, 116, 117, 118, 107, 108, 109, 110, 111, 112, 113, 119, 120, 121, 122, 123, 124, 125, 126, 127] rfl (by decide +kernel)
set_option maxRecDepth 20000 in
theorem gX11_coup_X0_leastLeader : GoodIn wsX11_coup (wsV RX11 241 RX0 yX0_leastLeader wsX0_leastLeader) := goodIn_app (goodIn_of _ (by decide +kernel)) ggX11_coup_X0_leastLeader
set_option maxRecDepth 20000 in
theorem ggX11_coup_X0_leastBand : GoodIn wsX11_coup wsX0_leastBand := goodIn_r _ [91, 63, 64, 65, 70, 71, 72, 61, 73, 74, 75, 76, 22, 77, 48, 78, 79, 80, 81, 31, 82, 83, 84, 85, 86, 87, 128, 114, 115, 116, 117, 118, 107, 108, 109, 110, 111, 112, 113, 119, 120, 121, 122, 123, 124, 125, 126, 127] rfl (by decide +kernel)
set_option maxRecDepth 20000 in
theorem gX11_coup_X0_leastBand : GoodIn wsX11_coup (wsV RX11 244 RX0 yX0_leastBand wsX0_leastBand) := goodIn_app (goodIn_of _ (by decide +kernel)) ggX11_coup_X0_leastBand
theorem dX11_coup_0 : decode cX11_coup 0 = .ok (.aload_n 0, 1) := by decide +kernel
theorem dX11_coup_1 : decode cX11_coup 1 = .ok (.getfield 10, 3) := by decide +kernel
theorem dX11_coup_4 : decode cX11_coup 4 = .ok (.iload_n 1, 1) := by decide +kernel
theorem dX11_coup_5 : decode cX11_coup 5 = .ok (.invokevirtual 145, 3) := by decide +kernel
theorem dX11_coup_8 : decode cX11_coup 8 = .ok (.ifCond .eq 21, 3) := by decide +kernel
theorem dX11_coup_11 : decode cX11_coup 11 = .ok (.aload_n 0, 1) := by decide +kernel
theorem dX11_coup_12 : decode cX11_coup 12 = .ok (.getfield 10, 3) := by decide +kernel
theorem dX11_coup_15 : decode cX11_coup 15 = .ok (.iload_n 2, 1) := by decide +kernel
theorem dX11_coup_16 : decode cX11_coup 16 = .ok (.invokevirtual 165, 3) := by decide +kernel
theorem dX11_coup_19 : decode cX11_coup 19 = .ok (.ifCond .eq 10, 3) := by decide +kernel
theorem dX11_coup_22 : decode cX11_coup 22 = .ok (.iload_n 3, 1) := by decide +kernel
theorem dX11_coup_23 : decode cX11_coup 23 = .ok (.invokestatic 199, 3) := by decide +kernel
theorem dX11_coup_26 : decode cX11_coup 26 = .ok (.ifCond .ne 5, 3) := by decide +kernel
theorem dX11_coup_29 : decode cX11_coup 29 = .ok (.iconst (-1), 1) := by decide +kernel
theorem dX11_coup_30 : decode cX11_coup 30 = .ok (.ireturn, 1) := by decide +kernel
theorem dX11_coup_31 : decode cX11_coup 31 = .ok (.aload_n 0, 1) := by decide +kernel
theorem dX11_coup_32 : decode cX11_coup 32 = .ok (.getfield 44, 3) := by decide +kernel
theorem dX11_coup_35 : decode cX11_coup 35 = .ok (.invokevirtual 238, 3) := by decide +kernel
theorem dX11_coup_38 : decode cX11_coup 38 = .ok (.aload_n 0, 1) := by decide +kernel
theorem dX11_coup_39 : decode cX11_coup 39 = .ok (.getfield 44, 3) := by decide +kernel
theorem dX11_coup_42 : decode cX11_coup 42 = .ok (.iload_n 2, 1) := by decide +kernel
theorem dX11_coup_43 : decode cX11_coup 43 = .ok (.invokevirtual 184, 3) := by decide +kernel
theorem dX11_coup_46 : decode cX11_coup 46 = .ok (.aload_n 0, 1) := by decide +kernel
theorem dX11_coup_47 : decode cX11_coup 47 = .ok (.getfield 67, 3) := by decide +kernel
theorem dX11_coup_50 : decode cX11_coup 50 = .ok (.iload_n 1, 1) := by decide +kernel
theorem dX11_coup_51 : decode cX11_coup 51 = .ok (.invokevirtual 241, 3) := by decide +kernel
theorem dX11_coup_54 : decode cX11_coup 54 = .ok (.istore 4, 2) := by decide +kernel
theorem dX11_coup_56 : decode cX11_coup 56 = .ok (.iload 4, 2) := by decide +kernel
theorem dX11_coup_58 : decode cX11_coup 58 = .ok (.bipush (-4), 2) := by decide +kernel
theorem dX11_coup_60 : decode cX11_coup 60 = .ok (.if_icmp .eq 7, 3) := by decide +kernel
theorem dX11_coup_63 : decode cX11_coup 63 = .ok (.iload_n 3, 1) := by decide +kernel
theorem dX11_coup_64 : decode cX11_coup 64 = .ok (.ifCond .ne 6, 3) := by decide +kernel
theorem dX11_coup_67 : decode cX11_coup 67 = .ok (.iload 4, 2) := by decide +kernel
theorem dX11_coup_69 : decode cX11_coup 69 = .ok (.ireturn, 1) := by decide +kernel
theorem dX11_coup_70 : decode cX11_coup 70 = .ok (.aload_n 0, 1) := by decide +kernel
theorem dX11_coup_71 : decode cX11_coup 71 = .ok (.getfield 67, 3) := by decide +kernel
theorem dX11_coup_74 : decode cX11_coup 74 = .ok (.iload_n 1, 1) := by decide +kernel
theorem dX11_coup_75 : decode cX11_coup 75 = .ok (.iload 4, 2) := by decide +kernel
theorem dX11_coup_77 : decode cX11_coup 77 = .ok (.invokevirtual 244, 3) := by decide +kernel
theorem dX11_coup_80 : decode cX11_coup 80 = .ok (.ireturn, 1) := by decide +kernel
set_option maxRecDepth 20000 in
theorem ggX11_firm_X6_hasStir : GoodIn wsX11_firm wsX6_hasStir := goodIn_r _ [9, 10, 96, 97, 98, 99, 100, 101, 102] rfl (by decide +kernel)
set_option maxRecDepth 20000 in
theorem gX11_firm_X6_hasStir : GoodIn wsX11_firm (wsV RX11 165 RX6 yX6_hasStir wsX6_hasStir) := goodIn_app (goodIn_of _ (by decide +kernel)) ggX11_firm_X6_hasStir
set_option maxRecDepth 20000 in
theorem ggX11_firm_X2_serveAllKings : GoodIn wsX11_firm wsX2_serveAllKings := goodIn_r _ [15, 16, 17, 18, 19, 20, 14, 21, 22, 23, 24, 25, 26, 27, 8, 28, 29, 30, 31, 32, 33, 34, 35, 103, 104, 105, 106, 107, 96, 97, 98, 99, 100, 101, 102, 108, 109, 110, 111, 112, 113, 114, 115, 116] rfl (by decide +kernel)
set_option maxRecDepth 20000 in
theorem gX11_firm_X2_serveAllKings : GoodIn wsX11_firm (wsV RX11 238 RX2 yX2_serveAllKings wsX2_serveAllKings) := goodIn_app (goodIn_of _ (by decide +kernel)) ggX11_firm_X2_serveAllKings
set_option maxRecDepth 20000 in
theorem ggX11_firm_X2_stirPot : GoodIn wsX11_firm wsX2_stirPot := goodIn_r _ [39, 16, 22, 40, 41, 42, 43, 44, 8, 45, 29, 46, 47, 48, 49, 50, 103, 104, 105, 106, 107, 108, 109, 110, 111, 112, 113, 114, 115, 116, 96, 97, 98, 99, 100, 101, 102] rfl (by decide +kernel)
set_option maxRecDepth 20000 in
theorem gX11_firm_X2_stirPot : GoodIn wsX11_firm (wsV RX11 184 RX2 yX2_stirPot wsX2_stirPot) := goodIn_app (goodIn_of _ (by decide +kernel)) ggX11_firm_X2_stirPot
set_option maxRecDepth 20000 in
theorem ggX11_firm_X0_leastLeader : GoodIn wsX11_firm wsX0_leastLeader := goodIn_r _ [55, 56, 57, 58, 59, 60, 61, 54, 62, 63, 64, 65, 66, 67, 68, 69, 14, 70, 41, 71, 72, 73, 74, 23, 75, 76, 77, 78, 79, 80, 117, 103, 104, 105, 106, 107, 96, 97, 98, 99, 100, 101, 102, 108, 109, 110, 111, 112, 113, 114, 115, 116] rfl (by decide +kernel)
set_option maxRecDepth 20000 in
theorem gX11_firm_X0_leastLeader : GoodIn wsX11_firm (wsV RX11 241 RX0 yX0_leastLeader wsX0_leastLeader) := goodIn_app (goodIn_of _ (by decide +kernel)) ggX11_firm_X0_leastLeader
theorem dX11_firm_0 : decode cX11_firm 0 = .ok (.aload_n 0, 1) := by decide +kernel
theorem dX11_firm_1 : decode cX11_firm 1 = .ok (.getfield 10, 3) := by decide +kernel
theorem dX11_firm_4 : decode cX11_firm 4 = .ok (.iload_n 1, 1) := by decide +kernel
theorem dX11_firm_5 : decode cX11_firm 5 = .ok (.invokevirtual 165, 3) := by decide +kernel
theorem dX11_firm_8 : decode cX11_firm 8 = .ok (.ifCond .ne 5, 3) := by decide +kernel
theorem dX11_firm_11 : decode cX11_firm 11 = .ok (.iconst (-1), 1) := by decide +kernel
theorem dX11_firm_12 : decode cX11_firm 12 = .ok (.ireturn, 1) := by decide +kernel
theorem dX11_firm_13 : decode cX11_firm 13 = .ok (.aload_n 0, 1) := by decide +kernel
theorem dX11_firm_14 : decode cX11_firm 14 = .ok (.getfield 44, 3) := by decide +kernel
theorem dX11_firm_17 : decode cX11_firm 17 = .ok (.invokevirtual 238, 3) := by decide +kernel
theorem dX11_firm_20 : decode cX11_firm 20 = .ok (.aload_n 0, 1) := by decide +kernel
theorem dX11_firm_21 : decode cX11_firm 21 = .ok (.getfield 44, 3) := by decide +kernel
theorem dX11_firm_24 : decode cX11_firm 24 = .ok (.iload_n 1, 1) := by decide +kernel
theorem dX11_firm_25 : decode cX11_firm 25 = .ok (.invokevirtual 184, 3) := by decide +kernel
theorem dX11_firm_28 : decode cX11_firm 28 = .ok (.iconst 0, 1) := by decide +kernel
theorem dX11_firm_29 : decode cX11_firm 29 = .ok (.istore_n 2, 1) := by decide +kernel
theorem dX11_firm_30 : decode cX11_firm 30 = .ok (.iconst 0, 1) := by decide +kernel
theorem dX11_firm_31 : decode cX11_firm 31 = .ok (.istore_n 3, 1) := by decide +kernel
theorem dX11_firm_32 : decode cX11_firm 32 = .ok (.iload_n 3, 1) := by decide +kernel
theorem dX11_firm_33 : decode cX11_firm 33 = .ok (.aload_n 0, 1) := by decide +kernel
theorem dX11_firm_34 : decode cX11_firm 34 = .ok (.getfield 10, 3) := by decide +kernel
theorem dX11_firm_37 : decode cX11_firm 37 = .ok (.getfield 130, 3) := by decide +kernel
theorem dX11_firm_40 : decode cX11_firm 40 = .ok (.if_icmp .ge 28, 3) := by decide +kernel
theorem dX11_firm_43 : decode cX11_firm 43 = .ok (.aload_n 0, 1) := by decide +kernel
theorem dX11_firm_44 : decode cX11_firm 44 = .ok (.getfield 67, 3) := by decide +kernel
theorem dX11_firm_47 : decode cX11_firm 47 = .ok (.iload_n 3, 1) := by decide +kernel
theorem dX11_firm_48 : decode cX11_firm 48 = .ok (.invokevirtual 241, 3) := by decide +kernel
theorem dX11_firm_51 : decode cX11_firm 51 = .ok (.bipush (-4), 2) := by decide +kernel
theorem dX11_firm_53 : decode cX11_firm 53 = .ok (.if_icmp .ne 9, 3) := by decide +kernel
theorem dX11_firm_56 : decode cX11_firm 56 = .ok (.iload_n 2, 1) := by decide +kernel
theorem dX11_firm_57 : decode cX11_firm 57 = .ok (.iconst 1, 1) := by decide +kernel
theorem dX11_firm_58 : decode cX11_firm 58 = .ok (.iload_n 3, 1) := by decide +kernel
theorem dX11_firm_59 : decode cX11_firm 59 = .ok (.ishl, 1) := by decide +kernel
theorem dX11_firm_60 : decode cX11_firm 60 = .ok (.ior, 1) := by decide +kernel
theorem dX11_firm_61 : decode cX11_firm 61 = .ok (.istore_n 2, 1) := by decide +kernel
theorem dX11_firm_62 : decode cX11_firm 62 = .ok (.iinc 3 1, 3) := by decide +kernel
theorem dX11_firm_65 : decode cX11_firm 65 = .ok (.goto (-33), 3) := by decide +kernel
theorem dX11_firm_68 : decode cX11_firm 68 = .ok (.iload_n 2, 1) := by decide +kernel
theorem dX11_firm_69 : decode cX11_firm 69 = .ok (.ireturn, 1) := by decide +kernel
set_option maxRecDepth 20000 in
theorem ggX11_see_X6_hasSeat : GoodIn wsX11_see wsX6_hasSeat := goodIn_r _ [9, 10, 35, 36, 37, 38, 39, 40, 41] rfl (by decide +kernel)
set_option maxRecDepth 20000 in
theorem gX11_see_X6_hasSeat : GoodIn wsX11_see (wsV RX11 145 RX6 yX6_hasSeat wsX6_hasSeat) := goodIn_app (goodIn_of _ (by decide +kernel)) ggX11_see_X6_hasSeat
theorem dX11_see_0 : decode cX11_see 0 = .ok (.aload_n 0, 1) := by decide +kernel
theorem dX11_see_1 : decode cX11_see 1 = .ok (.getfield 10, 3) := by decide +kernel
theorem dX11_see_4 : decode cX11_see 4 = .ok (.iload_n 1, 1) := by decide +kernel
theorem dX11_see_5 : decode cX11_see 5 = .ok (.invokevirtual 145, 3) := by decide +kernel
theorem dX11_see_8 : decode cX11_see 8 = .ok (.ifCond .ne 5, 3) := by decide +kernel
theorem dX11_see_11 : decode cX11_see 11 = .ok (.iconst (-1), 1) := by decide +kernel
theorem dX11_see_12 : decode cX11_see 12 = .ok (.ireturn, 1) := by decide +kernel
theorem dX11_see_13 : decode cX11_see 13 = .ok (.aload_n 0, 1) := by decide +kernel
theorem dX11_see_14 : decode cX11_see 14 = .ok (.getfield 19, 3) := by decide +kernel
theorem dX11_see_17 : decode cX11_see 17 = .ok (.getfield 247, 3) := by decide +kernel
theorem dX11_see_20 : decode cX11_see 20 = .ok (.bipush 6, 2) := by decide +kernel
theorem dX11_see_22 : decode cX11_see 22 = .ok (.if_icmp .lt 6, 3) := by decide +kernel
theorem dX11_see_25 : decode cX11_see 25 = .ok (.bipush (-3), 2) := by decide +kernel
theorem dX11_see_27 : decode cX11_see 27 = .ok (.ireturn, 1) := by decide +kernel
theorem dX11_see_28 : decode cX11_see 28 = .ok (.aload_n 0, 1) := by decide +kernel
theorem dX11_see_29 : decode cX11_see 29 = .ok (.getfield 19, 3) := by decide +kernel
theorem dX11_see_32 : decode cX11_see 32 = .ok (.getfield 250, 3) := by decide +kernel
theorem dX11_see_35 : decode cX11_see 35 = .ok (.aload_n 0, 1) := by decide +kernel
theorem dX11_see_36 : decode cX11_see 36 = .ok (.getfield 19, 3) := by decide +kernel
theorem dX11_see_39 : decode cX11_see 39 = .ok (.getfield 247, 3) := by decide +kernel
theorem dX11_see_42 : decode cX11_see 42 = .ok (.iload_n 1, 1) := by decide +kernel
theorem dX11_see_43 : decode cX11_see 43 = .ok (.iastore, 1) := by decide +kernel
theorem dX11_see_44 : decode cX11_see 44 = .ok (.aload_n 0, 1) := by decide +kernel
theorem dX11_see_45 : decode cX11_see 45 = .ok (.getfield 19, 3) := by decide +kernel
theorem dX11_see_48 : decode cX11_see 48 = .ok (.dup, 1) := by decide +kernel
theorem dX11_see_49 : decode cX11_see 49 = .ok (.getfield 247, 3) := by decide +kernel
theorem dX11_see_52 : decode cX11_see 52 = .ok (.iconst 1, 1) := by decide +kernel
theorem dX11_see_53 : decode cX11_see 53 = .ok (.iadd, 1) := by decide +kernel
theorem dX11_see_54 : decode cX11_see 54 = .ok (.putfield 247, 3) := by decide +kernel
theorem dX11_see_57 : decode cX11_see 57 = .ok (.aload_n 0, 1) := by decide +kernel
theorem dX11_see_58 : decode cX11_see 58 = .ok (.getfield 19, 3) := by decide +kernel
theorem dX11_see_61 : decode cX11_see 61 = .ok (.getfield 247, 3) := by decide +kernel
theorem dX11_see_64 : decode cX11_see 64 = .ok (.ireturn, 1) := by decide +kernel
theorem dX11_forget_0 : decode cX11_forget 0 = .ok (.iload_n 1, 1) := by decide +kernel
theorem dX11_forget_1 : decode cX11_forget 1 = .ok (.ifCond .lt 14, 3) := by decide +kernel
theorem dX11_forget_4 : decode cX11_forget 4 = .ok (.iload_n 1, 1) := by decide +kernel
theorem dX11_forget_5 : decode cX11_forget 5 = .ok (.aload_n 0, 1) := by decide +kernel
theorem dX11_forget_6 : decode cX11_forget 6 = .ok (.getfield 19, 3) := by decide +kernel
theorem dX11_forget_9 : decode cX11_forget 9 = .ok (.getfield 247, 3) := by decide +kernel
theorem dX11_forget_12 : decode cX11_forget 12 = .ok (.if_icmp .le 5, 3) := by decide +kernel
theorem dX11_forget_15 : decode cX11_forget 15 = .ok (.iconst (-1), 1) := by decide +kernel
theorem dX11_forget_16 : decode cX11_forget 16 = .ok (.ireturn, 1) := by decide +kernel
theorem dX11_forget_17 : decode cX11_forget 17 = .ok (.aload_n 0, 1) := by decide +kernel
theorem dX11_forget_18 : decode cX11_forget 18 = .ok (.getfield 19, 3) := by decide +kernel
theorem dX11_forget_21 : decode cX11_forget 21 = .ok (.getfield 247, 3) := by decide +kernel
theorem dX11_forget_24 : decode cX11_forget 24 = .ok (.istore_n 2, 1) := by decide +kernel
theorem dX11_forget_25 : decode cX11_forget 25 = .ok (.aload_n 0, 1) := by decide +kernel
theorem dX11_forget_26 : decode cX11_forget 26 = .ok (.getfield 19, 3) := by decide +kernel
theorem dX11_forget_29 : decode cX11_forget 29 = .ok (.iload_n 1, 1) := by decide +kernel
theorem dX11_forget_30 : decode cX11_forget 30 = .ok (.putfield 247, 3) := by decide +kernel
theorem dX11_forget_33 : decode cX11_forget 33 = .ok (.iload_n 2, 1) := by decide +kernel
theorem dX11_forget_34 : decode cX11_forget 34 = .ok (.ireturn, 1) := by decide +kernel
set_option maxRecDepth 20000 in
theorem ggX11_histories_X11_isRowQuestion : GoodIn wsX11_histories wsX11_isRowQuestion := goodIn_r _ [5] rfl (by decide +kernel)
set_option maxRecDepth 20000 in
theorem gX11_histories_X11_isRowQuestion : GoodIn wsX11_histories (va_wsS RX11 221 yX11_isRowQuestion wsX11_isRowQuestion) := goodIn_app (goodIn_of _ (by decide +kernel)) ggX11_histories_X11_isRowQuestion
set_option maxRecDepth 20000 in
theorem ggX11_histories_X4_howMany : GoodIn wsX11_histories wsX4_howMany := goodIn_r _ [10, 11, 12, 13, 14, 15, 16, 17, 18, 19, 20, 21, 22, 23, 24, 25, 26, 27, 28, 29, 30, 31, 32, 33, 34, 35, 36, 37, 38, 39, 40, 41, 42, 43, 44, 45, 46, 9, 47, 48, 49, 50, 51, 52, 53, 54, 55, 56, 57, 58, 59, 60, 61, 86, 87, 88, 89, 90, 91, 92, 93, 94, 95, 96, 97, 98, 99, 100, 101, 102, 103, 104, 105, 106, 107, 108] rfl (by decide +kernel)
set_option maxRecDepth 20000 in
theorem gX11_histories_X4_howMany : GoodIn wsX11_histories (wsV RX11 253 RX4 yX4_howMany wsX4_howMany) := goodIn_app (goodIn_of _ (by decide +kernel)) ggX11_histories_X4_howMany
set_option maxRecDepth 20000 in
theorem ggX11_histories_X4_firstStirOfDay : GoodIn wsX11_histories wsX4_firstStirOfDay := goodIn_r _ [65, 11, 48, 49, 66, 67, 68, 9, 69, 12, 15, 17, 70, 7, 8, 10, 13, 14, 16, 18, 19, 20, 21, 22, 23, 24, 25, 26, 27, 28, 29, 30, 31, 32, 33, 34, 35, 36, 37, 38, 39, 40, 41, 42, 43, 44, 45, 46, 47, 50, 51, 52, 53, 54, 55, 56, 57, 58, 59, 60, 61, 86, 87, 88, 89, 90, 91, 92, 102, 103, 104, 105, 106, 107, 108, 93, 94, 95, 96, 97, 98, 99, 100, 101] rfl (by decide +kernel)
set_option maxRecDepth 20000 in
theorem gX11_histories_X4_firstStirOfDay : GoodIn wsX11_histories (wsV RX11 256 RX4 yX4_firstStirOfDay wsX4_firstStirOfDay) := goodIn_app (goodIn_of _ (by decide +kernel)) ggX11_histories_X4_firstStirOfDay
theorem dX11_histories_0 : decode cX11_histories 0 = .ok (.iload_n 1, 1) := by decide +kernel
theorem dX11_histories_1 : decode cX11_histories 1 = .ok (.bipush 6, 2) := by decide +kernel
theorem dX11_histories_3 : decode cX11_histories 3 = .ok (.invokestatic 221, 3) := by decide +kernel
theorem dX11_histories_6 : decode cX11_histories 6 = .ok (.ifCond .ne 5, 3) := by decide +kernel
theorem dX11_histories_9 : decode cX11_histories 9 = .ok (.iconst (-1), 1) := by decide +kernel
theorem dX11_histories_10 : decode cX11_histories 10 = .ok (.ireturn, 1) := by decide +kernel
theorem dX11_histories_11 : decode cX11_histories 11 = .ok (.iload_n 1, 1) := by decide +kernel
theorem dX11_histories_12 : decode cX11_histories 12 = .ok (.ifCond .ne 13, 3) := by decide +kernel
theorem dX11_histories_15 : decode cX11_histories 15 = .ok (.aload_n 0, 1) := by decide +kernel
theorem dX11_histories_16 : decode cX11_histories 16 = .ok (.getfield 74, 3) := by decide +kernel
theorem dX11_histories_19 : decode cX11_histories 19 = .ok (.invokevirtual 253, 3) := by decide +kernel
theorem dX11_histories_22 : decode cX11_histories 22 = .ok (.goto 14, 3) := by decide +kernel
theorem dX11_histories_25 : decode cX11_histories 25 = .ok (.aload_n 0, 1) := by decide +kernel
theorem dX11_histories_26 : decode cX11_histories 26 = .ok (.getfield 74, 3) := by decide +kernel
theorem dX11_histories_29 : decode cX11_histories 29 = .ok (.iload_n 1, 1) := by decide +kernel
theorem dX11_histories_30 : decode cX11_histories 30 = .ok (.bipush 10, 2) := by decide +kernel
theorem dX11_histories_32 : decode cX11_histories 32 = .ok (.isub, 1) := by decide +kernel
theorem dX11_histories_33 : decode cX11_histories 33 = .ok (.invokevirtual 256, 3) := by decide +kernel
theorem dX11_histories_36 : decode cX11_histories 36 = .ok (.ireturn, 1) := by decide +kernel
set_option maxRecDepth 20000 in
theorem ggX11_could_X4_stirsOfDay : GoodIn wsX11_could wsX4_stirsOfDay := goodIn_r _ [8, 9, 10, 11, 12, 13, 14, 15, 7, 16, 17, 18, 19, 20, 21, 22, 23, 24, 25, 26, 27, 28, 29, 30, 31, 32, 33, 34, 35, 36, 37, 38, 39, 40, 41, 42, 43, 44, 45, 46, 47, 48, 49, 50, 51, 52, 53, 54, 55, 56, 57, 58, 59, 60, 61, 62, 63, 88, 89, 90, 91, 92, 93, 94, 79, 80, 81, 82, 83, 84, 85, 86, 87, 95, 96, 97, 98, 99, 100, 101] rfl (by decide +kernel)
set_option maxRecDepth 20000 in
theorem gX11_could_X4_stirsOfDay : GoodIn wsX11_could (wsV RX11 259 RX4 yX4_stirsOfDay wsX4_stirsOfDay) := goodIn_app (goodIn_of _ (by decide +kernel)) ggX11_could_X4_stirsOfDay
theorem dX11_could_0 : decode cX11_could 0 = .ok (.iload_n 1, 1) := by decide +kernel
theorem dX11_could_1 : decode cX11_could 1 = .ok (.ifCond .lt 14, 3) := by decide +kernel
theorem dX11_could_4 : decode cX11_could 4 = .ok (.iload_n 1, 1) := by decide +kernel
theorem dX11_could_5 : decode cX11_could 5 = .ok (.aload_n 0, 1) := by decide +kernel
theorem dX11_could_6 : decode cX11_could 6 = .ok (.getfield 19, 3) := by decide +kernel
theorem dX11_could_9 : decode cX11_could 9 = .ok (.getfield 247, 3) := by decide +kernel
theorem dX11_could_12 : decode cX11_could 12 = .ok (.if_icmp .lt 5, 3) := by decide +kernel
theorem dX11_could_15 : decode cX11_could 15 = .ok (.iconst (-1), 1) := by decide +kernel
theorem dX11_could_16 : decode cX11_could 16 = .ok (.ireturn, 1) := by decide +kernel
theorem dX11_could_17 : decode cX11_could 17 = .ok (.aload_n 0, 1) := by decide +kernel
theorem dX11_could_18 : decode cX11_could 18 = .ok (.getfield 74, 3) := by decide +kernel
theorem dX11_could_21 : decode cX11_could 21 = .ok (.iload_n 1, 1) := by decide +kernel
theorem dX11_could_22 : decode cX11_could 22 = .ok (.invokevirtual 259, 3) := by decide +kernel
theorem dX11_could_25 : decode cX11_could 25 = .ok (.ireturn, 1) := by decide +kernel
set_option maxRecDepth 20000 in
theorem ggX11_blind_X11_isPart : GoodIn wsX11_blind wsX11_isPart := goodIn_r _ [8] rfl (by decide +kernel)
set_option maxRecDepth 20000 in
theorem gX11_blind_X11_isPart : GoodIn wsX11_blind (va_wsS RX11 199 yX11_isPart wsX11_isPart) := goodIn_app (goodIn_of _ (by decide +kernel)) ggX11_blind_X11_isPart
set_option maxRecDepth 20000 in
theorem ggX11_blind_X3_triesWithFinds : GoodIn wsX11_blind wsX3_triesWithFinds := goodIn_r _ [13, 14, 15, 16, 17, 18, 19, 20, 21, 53, 54, 55, 56, 57, 58, 59, 60, 61, 46, 47, 48, 49, 50, 51, 52] rfl (by decide +kernel)
set_option maxRecDepth 20000 in
theorem gX11_blind_X3_triesWithFinds : GoodIn wsX11_blind (wsV RX11 262 RX3 yX3_triesWithFinds wsX3_triesWithFinds) := goodIn_app (goodIn_of _ (by decide +kernel)) ggX11_blind_X3_triesWithFinds
set_option maxRecDepth 20000 in
theorem ggX11_blind_X3_power : GoodIn wsX11_blind wsX3_power := goodIn_r _ [24] rfl (by decide +kernel)
set_option maxRecDepth 20000 in
theorem gX11_blind_X3_power : GoodIn wsX11_blind (va_wsS RX11 210 yX3_power wsX3_power) := goodIn_app (goodIn_of _ (by decide +kernel)) ggX11_blind_X3_power
set_option maxRecDepth 20000 in
theorem ggX11_blind_X3_part : GoodIn wsX11_blind wsX3_part := goodIn_r _ [27, 28, 29, 12, 30] rfl (by decide +kernel)
set_option maxRecDepth 20000 in
theorem gX11_blind_X3_part : GoodIn wsX11_blind (va_wsS RX11 213 yX3_part wsX3_part) := goodIn_app (goodIn_of _ (by decide +kernel)) ggX11_blind_X3_part
theorem dX11_blind_0 : decode cX11_blind 0 = .ok (.iload_n 2, 1) := by decide +kernel
theorem dX11_blind_1 : decode cX11_blind 1 = .ok (.iconst 1, 1) := by decide +kernel
theorem dX11_blind_2 : decode cX11_blind 2 = .ok (.if_icmp .lt 25, 3) := by decide +kernel
theorem dX11_blind_5 : decode cX11_blind 5 = .ok (.iload_n 2, 1) := by decide +kernel
theorem dX11_blind_6 : decode cX11_blind 6 = .ok (.bipush 12, 2) := by decide +kernel
theorem dX11_blind_8 : decode cX11_blind 8 = .ok (.if_icmp .gt 19, 3) := by decide +kernel
theorem dX11_blind_11 : decode cX11_blind 11 = .ok (.iload_n 1, 1) := by decide +kernel
theorem dX11_blind_12 : decode cX11_blind 12 = .ok (.ifCond .lt 15, 3) := by decide +kernel
theorem dX11_blind_15 : decode cX11_blind 15 = .ok (.iload_n 1, 1) := by decide +kernel
theorem dX11_blind_16 : decode cX11_blind 16 = .ok (.iload_n 2, 1) := by decide +kernel
theorem dX11_blind_17 : decode cX11_blind 17 = .ok (.if_icmp .gt 10, 3) := by decide +kernel
theorem dX11_blind_20 : decode cX11_blind 20 = .ok (.iload_n 3, 1) := by decide +kernel
theorem dX11_blind_21 : decode cX11_blind 21 = .ok (.invokestatic 199, 3) := by decide +kernel
theorem dX11_blind_24 : decode cX11_blind 24 = .ok (.ifCond .ne 7, 3) := by decide +kernel
theorem dX11_blind_27 : decode cX11_blind 27 = .ok (.ldc2_w 202, 3) := by decide +kernel
theorem dX11_blind_30 : decode cX11_blind 30 = .ok (.lreturn, 1) := by decide +kernel
theorem dX11_blind_31 : decode cX11_blind 31 = .ok (.aload_n 0, 1) := by decide +kernel
theorem dX11_blind_32 : decode cX11_blind 32 = .ok (.getfield 53, 3) := by decide +kernel
theorem dX11_blind_35 : decode cX11_blind 35 = .ok (.iload_n 1, 1) := by decide +kernel
theorem dX11_blind_36 : decode cX11_blind 36 = .ok (.iload_n 2, 1) := by decide +kernel
theorem dX11_blind_37 : decode cX11_blind 37 = .ok (.invokevirtual 262, 3) := by decide +kernel
theorem dX11_blind_40 : decode cX11_blind 40 = .ok (.aload_n 0, 1) := by decide +kernel
theorem dX11_blind_41 : decode cX11_blind 41 = .ok (.getfield 10, 3) := by decide +kernel
theorem dX11_blind_44 : decode cX11_blind 44 = .ok (.getfield 130, 3) := by decide +kernel
theorem dX11_blind_47 : decode cX11_blind 47 = .ok (.iload_n 2, 1) := by decide +kernel
theorem dX11_blind_48 : decode cX11_blind 48 = .ok (.invokestatic 210, 3) := by decide +kernel
theorem dX11_blind_51 : decode cX11_blind 51 = .ok (.iload_n 3, 1) := by decide +kernel
theorem dX11_blind_52 : decode cX11_blind 52 = .ok (.invokestatic 213, 3) := by decide +kernel
theorem dX11_blind_55 : decode cX11_blind 55 = .ok (.lreturn, 1) := by decide +kernel
set_option maxRecDepth 20000 in
theorem ggX11_fair_X11_isRowQuestion : GoodIn wsX11_fair wsX11_isRowQuestion := goodIn_r _ [8] rfl (by decide +kernel)
set_option maxRecDepth 20000 in
theorem gX11_fair_X11_isRowQuestion : GoodIn wsX11_fair (va_wsS RX11 221 yX11_isRowQuestion wsX11_isRowQuestion) := goodIn_app (goodIn_of _ (by decide +kernel)) ggX11_fair_X11_isRowQuestion
set_option maxRecDepth 20000 in
theorem ggX11_fair_X1_leastSpread : GoodIn wsX11_fair wsX1_leastSpread := goodIn_r _ [13, 14, 15, 16, 17, 18, 19, 20, 21, 22, 12, 23, 24, 25, 26, 27, 28, 29, 30, 31, 32, 33, 34, 35, 36, 37, 38, 39, 40, 41, 42, 43, 44, 45, 46, 47, 48, 49, 50, 51, 52, 53, 54, 55, 56, 57, 58, 59, 60, 61, 62, 63, 64, 65, 66, 67, 68, 69, 70, 71, 72, 73, 74, 75, 76, 77, 78, 79, 80, 81, 82, 83, 84, 85, 86, 87, 88, 89, 90, 91, 92, 93, 94, 95, 96, 97, 98, 99, 125, 126, 127, 128, 129, 130, 131, 132, 133, 134, 135, 136, 137, 138, 139, 140, 141, 142, 143, 144, 145, 146, 147, 118, 119, 120, 121, 122, 123, 124] rfl (by decide +kernel)
set_option maxRecDepth 20000 in
theorem gX11_fair_X1_leastSpread : GoodIn wsX11_fair (wsV RX11 265 RX1 yX1_leastSpread wsX1_leastSpread) := goodIn_app (goodIn_of _ (by decide +kernel)) ggX11_fair_X1_leastSpread
set_option maxRecDepth 20000 in
theorem ggX11_fair_X11_ofRow : GoodIn wsX11_fair wsX11_ofRow := goodIn_r _ [102] rfl (by decide +kernel)
set_option maxRecDepth 20000 in
theorem gX11_fair_X11_ofRow : GoodIn wsX11_fair (va_wsS RX11 231 yX11_ofRow wsX11_ofRow) := goodIn_app (goodIn_of _ (by decide +kernel)) ggX11_fair_X11_ofRow
theorem dX11_fair_0 : decode cX11_fair 0 = .ok (.iload_n 1, 1) := by decide +kernel
theorem dX11_fair_1 : decode cX11_fair 1 = .ok (.iconst 1, 1) := by decide +kernel
theorem dX11_fair_2 : decode cX11_fair 2 = .ok (.if_icmp .lt 16, 3) := by decide +kernel
theorem dX11_fair_5 : decode cX11_fair 5 = .ok (.iload_n 1, 1) := by decide +kernel
theorem dX11_fair_6 : decode cX11_fair 6 = .ok (.iconst 4, 1) := by decide +kernel
theorem dX11_fair_7 : decode cX11_fair 7 = .ok (.if_icmp .gt 11, 3) := by decide +kernel
theorem dX11_fair_10 : decode cX11_fair 10 = .ok (.iload_n 2, 1) := by decide +kernel
theorem dX11_fair_11 : decode cX11_fair 11 = .ok (.iconst 4, 1) := by decide +kernel
theorem dX11_fair_12 : decode cX11_fair 12 = .ok (.invokestatic 221, 3) := by decide +kernel
theorem dX11_fair_15 : decode cX11_fair 15 = .ok (.ifCond .ne 5, 3) := by decide +kernel
theorem dX11_fair_18 : decode cX11_fair 18 = .ok (.iconst (-1), 1) := by decide +kernel
theorem dX11_fair_19 : decode cX11_fair 19 = .ok (.ireturn, 1) := by decide +kernel
theorem dX11_fair_20 : decode cX11_fair 20 = .ok (.aload_n 0, 1) := by decide +kernel
theorem dX11_fair_21 : decode cX11_fair 21 = .ok (.getfield 10, 3) := by decide +kernel
theorem dX11_fair_24 : decode cX11_fair 24 = .ok (.getfield 133, 3) := by decide +kernel
theorem dX11_fair_27 : decode cX11_fair 27 = .ok (.ifCond .ne 6, 3) := by decide +kernel
theorem dX11_fair_30 : decode cX11_fair 30 = .ok (.bipush (-2), 2) := by decide +kernel
theorem dX11_fair_32 : decode cX11_fair 32 = .ok (.ireturn, 1) := by decide +kernel
theorem dX11_fair_33 : decode cX11_fair 33 = .ok (.iload_n 2, 1) := by decide +kernel
theorem dX11_fair_34 : decode cX11_fair 34 = .ok (.bipush 10, 2) := by decide +kernel
theorem dX11_fair_36 : decode cX11_fair 36 = .ok (.iload_n 1, 1) := by decide +kernel
theorem dX11_fair_37 : decode cX11_fair 37 = .ok (.iadd, 1) := by decide +kernel
theorem dX11_fair_38 : decode cX11_fair 38 = .ok (.if_icmp .lt 6, 3) := by decide +kernel
theorem dX11_fair_41 : decode cX11_fair 41 = .ok (.bipush (-4), 2) := by decide +kernel
theorem dX11_fair_43 : decode cX11_fair 43 = .ok (.ireturn, 1) := by decide +kernel
theorem dX11_fair_44 : decode cX11_fair 44 = .ok (.aload_n 0, 1) := by decide +kernel
theorem dX11_fair_45 : decode cX11_fair 45 = .ok (.getfield 81, 3) := by decide +kernel
theorem dX11_fair_48 : decode cX11_fair 48 = .ok (.iload_n 1, 1) := by decide +kernel
theorem dX11_fair_49 : decode cX11_fair 49 = .ok (.invokevirtual 265, 3) := by decide +kernel
theorem dX11_fair_52 : decode cX11_fair 52 = .ok (.istore_n 3, 1) := by decide +kernel
theorem dX11_fair_53 : decode cX11_fair 53 = .ok (.iload_n 2, 1) := by decide +kernel
theorem dX11_fair_54 : decode cX11_fair 54 = .ok (.ifCond .ne 7, 3) := by decide +kernel
theorem dX11_fair_57 : decode cX11_fair 57 = .ok (.iload_n 3, 1) := by decide +kernel
theorem dX11_fair_58 : decode cX11_fair 58 = .ok (.goto 18, 3) := by decide +kernel
theorem dX11_fair_61 : decode cX11_fair 61 = .ok (.aload_n 0, 1) := by decide +kernel
theorem dX11_fair_62 : decode cX11_fair 62 = .ok (.getfield 81, 3) := by decide +kernel
theorem dX11_fair_65 : decode cX11_fair 65 = .ok (.getfield 268, 3) := by decide +kernel
theorem dX11_fair_68 : decode cX11_fair 68 = .ok (.iload_n 1, 1) := by decide +kernel
theorem dX11_fair_69 : decode cX11_fair 69 = .ok (.iload_n 2, 1) := by decide +kernel
theorem dX11_fair_70 : decode cX11_fair 70 = .ok (.bipush 10, 2) := by decide +kernel
theorem dX11_fair_72 : decode cX11_fair 72 = .ok (.isub, 1) := by decide +kernel
theorem dX11_fair_73 : decode cX11_fair 73 = .ok (.invokestatic 231, 3) := by decide +kernel
theorem dX11_fair_76 : decode cX11_fair 76 = .ok (.ireturn, 1) := by decide +kernel
set_option maxRecDepth 20000 in
theorem ggX11_keep_X11_isImage : GoodIn wsX11_keep wsX11_isImage := goodIn_r _ [7] rfl (by decide +kernel)
set_option maxRecDepth 20000 in
theorem gX11_keep_X11_isImage : GoodIn wsX11_keep (va_wsS RX11 271 yX11_isImage wsX11_isImage) := goodIn_app (goodIn_of _ (by decide +kernel)) ggX11_keep_X11_isImage
set_option maxRecDepth 20000 in
theorem ggX11_keep_X8_copy : GoodIn wsX11_keep wsX8_copy := goodIn_r _ [12, 13, 14, 15, 16, 17, 18, 19, 20, 21, 22, 23, 24, 25, 41, 42, 43, 44, 45, 46, 47, 48, 49] rfl (by decide +kernel)
set_option maxRecDepth 20000 in
theorem gX11_keep_X8_copy : GoodIn wsX11_keep (wsV RX11 127 RX8 yX8_copy wsX8_copy) := goodIn_app (goodIn_of _ (by decide +kernel)) ggX11_keep_X8_copy
theorem dX11_keep_0 : decode cX11_keep 0 = .ok (.iload_n 1, 1) := by decide +kernel
theorem dX11_keep_1 : decode cX11_keep 1 = .ok (.invokestatic 271, 3) := by decide +kernel
theorem dX11_keep_4 : decode cX11_keep 4 = .ok (.ifCond .ne 5, 3) := by decide +kernel
theorem dX11_keep_7 : decode cX11_keep 7 = .ok (.iconst (-1), 1) := by decide +kernel
theorem dX11_keep_8 : decode cX11_keep 8 = .ok (.ireturn, 1) := by decide +kernel
theorem dX11_keep_9 : decode cX11_keep 9 = .ok (.aload_n 0, 1) := by decide +kernel
theorem dX11_keep_10 : decode cX11_keep 10 = .ok (.getfield 89, 3) := by decide +kernel
theorem dX11_keep_13 : decode cX11_keep 13 = .ok (.iload_n 1, 1) := by decide +kernel
theorem dX11_keep_14 : decode cX11_keep 14 = .ok (.baload, 1) := by decide +kernel
theorem dX11_keep_15 : decode cX11_keep 15 = .ok (.ifCond .eq 7, 3) := by decide +kernel
theorem dX11_keep_18 : decode cX11_keep 18 = .ok (.iconst 1, 1) := by decide +kernel
theorem dX11_keep_19 : decode cX11_keep 19 = .ok (.goto 4, 3) := by decide +kernel
theorem dX11_keep_22 : decode cX11_keep 22 = .ok (.iconst 0, 1) := by decide +kernel
theorem dX11_keep_23 : decode cX11_keep 23 = .ok (.istore_n 2, 1) := by decide +kernel
theorem dX11_keep_24 : decode cX11_keep 24 = .ok (.aload_n 0, 1) := by decide +kernel
theorem dX11_keep_25 : decode cX11_keep 25 = .ok (.getfield 85, 3) := by decide +kernel
theorem dX11_keep_28 : decode cX11_keep 28 = .ok (.iload_n 1, 1) := by decide +kernel
theorem dX11_keep_29 : decode cX11_keep 29 = .ok (.aaload, 1) := by decide +kernel
theorem dX11_keep_30 : decode cX11_keep 30 = .ok (.aload_n 0, 1) := by decide +kernel
theorem dX11_keep_31 : decode cX11_keep 31 = .ok (.getfield 19, 3) := by decide +kernel
theorem dX11_keep_34 : decode cX11_keep 34 = .ok (.invokevirtual 127, 3) := by decide +kernel
theorem dX11_keep_37 : decode cX11_keep 37 = .ok (.aload_n 0, 1) := by decide +kernel
theorem dX11_keep_38 : decode cX11_keep 38 = .ok (.getfield 89, 3) := by decide +kernel
theorem dX11_keep_41 : decode cX11_keep 41 = .ok (.iload_n 1, 1) := by decide +kernel
theorem dX11_keep_42 : decode cX11_keep 42 = .ok (.iconst 1, 1) := by decide +kernel
theorem dX11_keep_43 : decode cX11_keep 43 = .ok (.bastore, 1) := by decide +kernel
theorem dX11_keep_44 : decode cX11_keep 44 = .ok (.iload_n 2, 1) := by decide +kernel
theorem dX11_keep_45 : decode cX11_keep 45 = .ok (.ireturn, 1) := by decide +kernel
set_option maxRecDepth 20000 in
theorem ggX11_back_X11_isImage : GoodIn wsX11_back wsX11_isImage := goodIn_r _ [8] rfl (by decide +kernel)
set_option maxRecDepth 20000 in
theorem gX11_back_X11_isImage : GoodIn wsX11_back (va_wsS RX11 271 yX11_isImage wsX11_isImage) := goodIn_app (goodIn_of _ (by decide +kernel)) ggX11_back_X11_isImage
set_option maxRecDepth 20000 in
theorem ggX11_back_X8_copy : GoodIn wsX11_back wsX8_copy := goodIn_r _ [13, 14, 15, 16, 17, 18, 19, 20, 21, 22, 23, 24, 25, 26, 42, 43, 44, 45, 46, 47, 48, 49, 50] rfl (by decide +kernel)
set_option maxRecDepth 20000 in
theorem gX11_back_X8_copy : GoodIn wsX11_back (wsV RX11 127 RX8 yX8_copy wsX8_copy) := goodIn_app (goodIn_of _ (by decide +kernel)) ggX11_back_X8_copy
theorem dX11_back_0 : decode cX11_back 0 = .ok (.iload_n 1, 1) := by decide +kernel
theorem dX11_back_1 : decode cX11_back 1 = .ok (.invokestatic 271, 3) := by decide +kernel
theorem dX11_back_4 : decode cX11_back 4 = .ok (.ifCond .ne 5, 3) := by decide +kernel
theorem dX11_back_7 : decode cX11_back 7 = .ok (.iconst (-1), 1) := by decide +kernel
theorem dX11_back_8 : decode cX11_back 8 = .ok (.ireturn, 1) := by decide +kernel
theorem dX11_back_9 : decode cX11_back 9 = .ok (.aload_n 0, 1) := by decide +kernel
theorem dX11_back_10 : decode cX11_back 10 = .ok (.getfield 89, 3) := by decide +kernel
theorem dX11_back_13 : decode cX11_back 13 = .ok (.iload_n 1, 1) := by decide +kernel
theorem dX11_back_14 : decode cX11_back 14 = .ok (.baload, 1) := by decide +kernel
theorem dX11_back_15 : decode cX11_back 15 = .ok (.ifCond .ne 6, 3) := by decide +kernel
theorem dX11_back_18 : decode cX11_back 18 = .ok (.bipush (-2), 2) := by decide +kernel
theorem dX11_back_20 : decode cX11_back 20 = .ok (.ireturn, 1) := by decide +kernel
theorem dX11_back_21 : decode cX11_back 21 = .ok (.aload_n 0, 1) := by decide +kernel
theorem dX11_back_22 : decode cX11_back 22 = .ok (.getfield 19, 3) := by decide +kernel
theorem dX11_back_25 : decode cX11_back 25 = .ok (.aload_n 0, 1) := by decide +kernel
theorem dX11_back_26 : decode cX11_back 26 = .ok (.getfield 85, 3) := by decide +kernel
theorem dX11_back_29 : decode cX11_back 29 = .ok (.iload_n 1, 1) := by decide +kernel
theorem dX11_back_30 : decode cX11_back 30 = .ok (.aaload, 1) := by decide +kernel
theorem dX11_back_31 : decode cX11_back 31 = .ok (.invokevirtual 127, 3) := by decide +kernel
theorem dX11_back_34 : decode cX11_back 34 = .ok (.aload_n 0, 1) := by decide +kernel
theorem dX11_back_35 : decode cX11_back 35 = .ok (.getfield 19, 3) := by decide +kernel
theorem dX11_back_38 : decode cX11_back 38 = .ok (.getfield 136, 3) := by decide +kernel
theorem dX11_back_41 : decode cX11_back 41 = .ok (.ireturn, 1) := by decide +kernel
set_option maxRecDepth 20000 in
theorem ggX11_sheet_X11_isSheet : GoodIn wsX11_sheet wsX11_isSheet := goodIn_r _ [5] rfl (by decide +kernel)
set_option maxRecDepth 20000 in
theorem gX11_sheet_X11_isSheet : GoodIn wsX11_sheet (va_wsS RX11 274 yX11_isSheet wsX11_isSheet) := goodIn_app (goodIn_of _ (by decide +kernel)) ggX11_sheet_X11_isSheet
set_option maxRecDepth 20000 in
theorem ggX11_sheet_X11_isLane : GoodIn wsX11_sheet wsX11_isLane := goodIn_r _ [8] rfl (by decide +kernel)
set_option maxRecDepth 20000 in
theorem gX11_sheet_X11_isLane : GoodIn wsX11_sheet (va_wsS RX11 277 yX11_isLane wsX11_isLane) := goodIn_app (goodIn_of _ (by decide +kernel)) ggX11_sheet_X11_isLane
set_option maxRecDepth 20000 in
theorem ggX11_sheet_X7_renew : GoodIn wsX11_sheet wsX7_renew := goodIn_r _ [13, 14, 15, 16, 17, 18, 19, 20, 36, 37, 38] rfl (by decide +kernel)
set_option maxRecDepth 20000 in
theorem gX11_sheet_X7_renew : GoodIn wsX11_sheet (wsV RX11 280 RX7 yX7_renew wsX7_renew) := goodIn_app (goodIn_of _ (by decide +kernel)) ggX11_sheet_X7_renew
theorem dX11_sheet_0 : decode cX11_sheet 0 = .ok (.iload_n 1, 1) := by decide +kernel
theorem dX11_sheet_1 : decode cX11_sheet 1 = .ok (.invokestatic 274, 3) := by decide +kernel
theorem dX11_sheet_4 : decode cX11_sheet 4 = .ok (.ifCond .eq 16, 3) := by decide +kernel
theorem dX11_sheet_7 : decode cX11_sheet 7 = .ok (.iload_n 2, 1) := by decide +kernel
theorem dX11_sheet_8 : decode cX11_sheet 8 = .ok (.invokestatic 277, 3) := by decide +kernel
theorem dX11_sheet_11 : decode cX11_sheet 11 = .ok (.ifCond .eq 9, 3) := by decide +kernel
theorem dX11_sheet_14 : decode cX11_sheet 14 = .ok (.iload_n 3, 1) := by decide +kernel
theorem dX11_sheet_15 : decode cX11_sheet 15 = .ok (.bipush 40, 2) := by decide +kernel
theorem dX11_sheet_17 : decode cX11_sheet 17 = .ok (.if_icmp .le 5, 3) := by decide +kernel
theorem dX11_sheet_20 : decode cX11_sheet 20 = .ok (.iconst (-1), 1) := by decide +kernel
theorem dX11_sheet_21 : decode cX11_sheet 21 = .ok (.ireturn, 1) := by decide +kernel
theorem dX11_sheet_22 : decode cX11_sheet 22 = .ok (.iload_n 3, 1) := by decide +kernel
theorem dX11_sheet_23 : decode cX11_sheet 23 = .ok (.ifCond .ge 6, 3) := by decide +kernel
theorem dX11_sheet_26 : decode cX11_sheet 26 = .ok (.bipush (-14), 2) := by decide +kernel
theorem dX11_sheet_28 : decode cX11_sheet 28 = .ok (.ireturn, 1) := by decide +kernel
theorem dX11_sheet_29 : decode cX11_sheet 29 = .ok (.aload_n 0, 1) := by decide +kernel
theorem dX11_sheet_30 : decode cX11_sheet 30 = .ok (.getfield 95, 3) := by decide +kernel
theorem dX11_sheet_33 : decode cX11_sheet 33 = .ok (.iload_n 1, 1) := by decide +kernel
theorem dX11_sheet_34 : decode cX11_sheet 34 = .ok (.aaload, 1) := by decide +kernel
theorem dX11_sheet_35 : decode cX11_sheet 35 = .ok (.iload_n 2, 1) := by decide +kernel
theorem dX11_sheet_36 : decode cX11_sheet 36 = .ok (.iload_n 3, 1) := by decide +kernel
theorem dX11_sheet_37 : decode cX11_sheet 37 = .ok (.invokevirtual 280, 3) := by decide +kernel
theorem dX11_sheet_40 : decode cX11_sheet 40 = .ok (.iconst 1, 1) := by decide +kernel
theorem dX11_sheet_41 : decode cX11_sheet 41 = .ok (.ireturn, 1) := by decide +kernel
set_option maxRecDepth 20000 in
theorem ggX11_lay_X11_isSheet : GoodIn wsX11_lay wsX11_isSheet := goodIn_r _ [6] rfl (by decide +kernel)
set_option maxRecDepth 20000 in
theorem gX11_lay_X11_isSheet : GoodIn wsX11_lay (va_wsS RX11 274 yX11_isSheet wsX11_isSheet) := goodIn_app (goodIn_of _ (by decide +kernel)) ggX11_lay_X11_isSheet
set_option maxRecDepth 20000 in
theorem ggX11_lay_X7_faultAt : GoodIn wsX11_lay wsX7_faultAt := goodIn_r _ [11, 12, 13, 14, 15, 16, 10, 17, 38, 39, 40] rfl (by decide +kernel)
set_option maxRecDepth 20000 in
theorem gX11_lay_X7_faultAt : GoodIn wsX11_lay (wsV RX11 287 RX7 yX7_faultAt wsX7_faultAt) := goodIn_app (goodIn_of _ (by decide +kernel)) ggX11_lay_X7_faultAt
set_option maxRecDepth 20000 in
theorem ggX11_lay_X7_put : GoodIn wsX11_lay wsX7_put := goodIn_r _ [21, 12, 22, 38, 39, 40] rfl (by decide +kernel)
set_option maxRecDepth 20000 in
theorem gX11_lay_X7_put : GoodIn wsX11_lay (wsV RX11 290 RX7 yX7_put wsX7_put) := goodIn_app (goodIn_of _ (by decide +kernel)) ggX11_lay_X7_put
theorem dX11_lay_0 : decode cX11_lay 0 = .ok (.iload_n 1, 1) := by decide +kernel
theorem dX11_lay_1 : decode cX11_lay 1 = .ok (.invokestatic 274, 3) := by decide +kernel
theorem dX11_lay_4 : decode cX11_lay 4 = .ok (.ifCond .ne 5, 3) := by decide +kernel
theorem dX11_lay_7 : decode cX11_lay 7 = .ok (.iconst (-1), 1) := by decide +kernel
theorem dX11_lay_8 : decode cX11_lay 8 = .ok (.ireturn, 1) := by decide +kernel
theorem dX11_lay_9 : decode cX11_lay 9 = .ok (.aload_n 0, 1) := by decide +kernel
theorem dX11_lay_10 : decode cX11_lay 10 = .ok (.getfield 95, 3) := by decide +kernel
theorem dX11_lay_13 : decode cX11_lay 13 = .ok (.iload_n 1, 1) := by decide +kernel
theorem dX11_lay_14 : decode cX11_lay 14 = .ok (.aaload, 1) := by decide +kernel
theorem dX11_lay_15 : decode cX11_lay 15 = .ok (.astore 4, 2) := by decide +kernel
theorem dX11_lay_17 : decode cX11_lay 17 = .ok (.aload 4, 2) := by decide +kernel
theorem dX11_lay_19 : decode cX11_lay 19 = .ok (.aload 4, 2) := by decide +kernel
theorem dX11_lay_21 : decode cX11_lay 21 = .ok (.getfield 284, 3) := by decide +kernel
theorem dX11_lay_24 : decode cX11_lay 24 = .ok (.iload_n 2, 1) := by decide +kernel
theorem dX11_lay_25 : decode cX11_lay 25 = .ok (.invokevirtual 287, 3) := by decide +kernel
theorem dX11_lay_28 : decode cX11_lay 28 = .ok (.istore 5, 2) := by decide +kernel
theorem dX11_lay_30 : decode cX11_lay 30 = .ok (.iload 5, 2) := by decide +kernel
theorem dX11_lay_32 : decode cX11_lay 32 = .ok (.ifCond .eq 9, 3) := by decide +kernel
theorem dX11_lay_35 : decode cX11_lay 35 = .ok (.bipush (-10), 2) := by decide +kernel
theorem dX11_lay_37 : decode cX11_lay 37 = .ok (.iload 5, 2) := by decide +kernel
theorem dX11_lay_39 : decode cX11_lay 39 = .ok (.isub, 1) := by decide +kernel
theorem dX11_lay_40 : decode cX11_lay 40 = .ok (.ireturn, 1) := by decide +kernel
theorem dX11_lay_41 : decode cX11_lay 41 = .ok (.aload 4, 2) := by decide +kernel
theorem dX11_lay_43 : decode cX11_lay 43 = .ok (.iload_n 2, 1) := by decide +kernel
theorem dX11_lay_44 : decode cX11_lay 44 = .ok (.iload_n 3, 1) := by decide +kernel
theorem dX11_lay_45 : decode cX11_lay 45 = .ok (.invokevirtual 290, 3) := by decide +kernel
theorem dX11_lay_48 : decode cX11_lay 48 = .ok (.iconst 1, 1) := by decide +kernel
theorem dX11_lay_49 : decode cX11_lay 49 = .ok (.ireturn, 1) := by decide +kernel
set_option maxRecDepth 20000 in
theorem ggX11_read_X11_isSheet : GoodIn wsX11_read wsX11_isSheet := goodIn_r _ [8] rfl (by decide +kernel)
set_option maxRecDepth 20000 in
theorem gX11_read_X11_isSheet : GoodIn wsX11_read (va_wsS RX11 274 yX11_isSheet wsX11_isSheet) := goodIn_app (goodIn_of _ (by decide +kernel)) ggX11_read_X11_isSheet
set_option maxRecDepth 20000 in
theorem ggX11_read_X11_isLane : GoodIn wsX11_read wsX11_isLane := goodIn_r _ [11] rfl (by decide +kernel)
set_option maxRecDepth 20000 in
theorem gX11_read_X11_isLane : GoodIn wsX11_read (va_wsS RX11 277 yX11_isLane wsX11_isLane) := goodIn_app (goodIn_of _ (by decide +kernel)) ggX11_read_X11_isLane
set_option maxRecDepth 20000 in
theorem ggX11_read_X7_faultAt : GoodIn wsX11_read wsX7_faultAt := goodIn_r _ [16, 17, 18, 19, 20, 21, 15, 22, 112, 113, 114] rfl (by decide +kernel)
set_option maxRecDepth 20000 in
theorem gX11_read_X7_faultAt : GoodIn wsX11_read (wsV RX11 287 RX7 yX7_faultAt wsX7_faultAt) := goodIn_app (goodIn_of _ (by decide +kernel)) ggX11_read_X7_faultAt
set_option maxRecDepth 20000 in
theorem ggX11_read_X11_canPass : GoodIn wsX11_read wsX11_canPass := goodIn_r _ [26, 27, 28, 29, 30, 31, 32, 33, 34, 35, 97, 98, 99, 100, 101, 102, 103, 104, 105, 106, 107, 108, 109, 110, 111, 115, 116, 117, 118, 119, 120, 121, 122, 123, 124, 125, 126, 127, 128, 129, 130] rfl (by decide +kernel)
set_option maxRecDepth 20000 in
theorem gX11_read_X11_canPass : GoodIn wsX11_read (wsV RX11 296 RX11 yX11_canPass wsX11_canPass) := goodIn_app (goodIn_of _ (by decide +kernel)) ggX11_read_X11_canPass
set_option maxRecDepth 20000 in
theorem ggX11_read_X2_passDay : GoodIn wsX11_read wsX2_passDay := goodIn_r _ [40, 41, 42, 43, 44, 45, 46, 47, 48, 49, 50, 51, 52, 53, 54, 55, 56, 39, 57, 58, 59, 60, 61, 62, 33, 63, 64, 65, 66, 67, 68, 69, 70, 71, 72, 73, 74, 75, 76, 77, 78, 79, 80, 81, 82, 83, 84, 85, 86, 87, 88, 89, 90, 91, 92, 93, 94, 95, 96, 131, 132, 133, 134, 135, 115, 116, 117, 118, 119, 120, 121, 122, 123, 124, 125, 126, 127, 128, 129, 130] rfl (by decide +kernel)
set_option maxRecDepth 20000 in
theorem gX11_read_X2_passDay : GoodIn wsX11_read (wsV RX11 196 RX2 yX2_passDay wsX2_passDay) := goodIn_app (goodIn_of _ (by decide +kernel)) ggX11_read_X2_passDay
theorem dX11_read_0 : decode cX11_read 0 = .ok (.iload_n 1, 1) := by decide +kernel
theorem dX11_read_1 : decode cX11_read 1 = .ok (.invokestatic 274, 3) := by decide +kernel
theorem dX11_read_4 : decode cX11_read 4 = .ok (.ifCond .eq 22, 3) := by decide +kernel
theorem dX11_read_7 : decode cX11_read 7 = .ok (.iload_n 2, 1) := by decide +kernel
theorem dX11_read_8 : decode cX11_read 8 = .ok (.invokestatic 277, 3) := by decide +kernel
theorem dX11_read_11 : decode cX11_read 11 = .ok (.ifCond .eq 15, 3) := by decide +kernel
theorem dX11_read_14 : decode cX11_read 14 = .ok (.iload 4, 2) := by decide +kernel
theorem dX11_read_16 : decode cX11_read 16 = .ok (.ifCond .lt 10, 3) := by decide +kernel
theorem dX11_read_19 : decode cX11_read 19 = .ok (.iload 4, 2) := by decide +kernel
theorem dX11_read_21 : decode cX11_read 21 = .ok (.bipush 20, 2) := by decide +kernel
theorem dX11_read_23 : decode cX11_read 23 = .ok (.if_icmp .le 5, 3) := by decide +kernel
theorem dX11_read_26 : decode cX11_read 26 = .ok (.iconst (-1), 1) := by decide +kernel
theorem dX11_read_27 : decode cX11_read 27 = .ok (.ireturn, 1) := by decide +kernel
theorem dX11_read_28 : decode cX11_read 28 = .ok (.aload_n 0, 1) := by decide +kernel
theorem dX11_read_29 : decode cX11_read 29 = .ok (.getfield 95, 3) := by decide +kernel
theorem dX11_read_32 : decode cX11_read 32 = .ok (.iload_n 1, 1) := by decide +kernel
theorem dX11_read_33 : decode cX11_read 33 = .ok (.aaload, 1) := by decide +kernel
theorem dX11_read_34 : decode cX11_read 34 = .ok (.astore 5, 2) := by decide +kernel
theorem dX11_read_36 : decode cX11_read 36 = .ok (.iconst 0, 1) := by decide +kernel
theorem dX11_read_37 : decode cX11_read 37 = .ok (.istore 6, 2) := by decide +kernel
theorem dX11_read_39 : decode cX11_read 39 = .ok (.iconst 0, 1) := by decide +kernel
theorem dX11_read_40 : decode cX11_read 40 = .ok (.istore 7, 2) := by decide +kernel
theorem dX11_read_42 : decode cX11_read 42 = .ok (.iconst 0, 1) := by decide +kernel
theorem dX11_read_43 : decode cX11_read 43 = .ok (.istore 8, 2) := by decide +kernel
theorem dX11_read_45 : decode cX11_read 45 = .ok (.iload 8, 2) := by decide +kernel
theorem dX11_read_47 : decode cX11_read 47 = .ok (.iload 4, 2) := by decide +kernel
theorem dX11_read_49 : decode cX11_read 49 = .ok (.if_icmp .ge 62, 3) := by decide +kernel
theorem dX11_read_52 : decode cX11_read 52 = .ok (.iload 6, 2) := by decide +kernel
theorem dX11_read_54 : decode cX11_read 54 = .ok (.ifCond .ne 57, 3) := by decide +kernel
theorem dX11_read_57 : decode cX11_read 57 = .ok (.aload 5, 2) := by decide +kernel
theorem dX11_read_59 : decode cX11_read 59 = .ok (.iload_n 2, 1) := by decide +kernel
theorem dX11_read_60 : decode cX11_read 60 = .ok (.iload_n 3, 1) := by decide +kernel
theorem dX11_read_61 : decode cX11_read 61 = .ok (.iload 8, 2) := by decide +kernel
theorem dX11_read_63 : decode cX11_read 63 = .ok (.iadd, 1) := by decide +kernel
theorem dX11_read_64 : decode cX11_read 64 = .ok (.invokevirtual 287, 3) := by decide +kernel
theorem dX11_read_67 : decode cX11_read 67 = .ok (.istore 6, 2) := by decide +kernel
theorem dX11_read_69 : decode cX11_read 69 = .ok (.iload 6, 2) := by decide +kernel
theorem dX11_read_71 : decode cX11_read 71 = .ok (.ifCond .ne 34, 3) := by decide +kernel
theorem dX11_read_74 : decode cX11_read 74 = .ok (.aload_n 0, 1) := by decide +kernel
theorem dX11_read_75 : decode cX11_read 75 = .ok (.aload 5, 2) := by decide +kernel
theorem dX11_read_77 : decode cX11_read 77 = .ok (.getfield 293, 3) := by decide +kernel
theorem dX11_read_80 : decode cX11_read 80 = .ok (.iload_n 3, 1) := by decide +kernel
theorem dX11_read_81 : decode cX11_read 81 = .ok (.iload 8, 2) := by decide +kernel
theorem dX11_read_83 : decode cX11_read 83 = .ok (.iadd, 1) := by decide +kernel
theorem dX11_read_84 : decode cX11_read 84 = .ok (.iaload, 1) := by decide +kernel
theorem dX11_read_85 : decode cX11_read 85 = .ok (.iload 8, 2) := by decide +kernel
theorem dX11_read_87 : decode cX11_read 87 = .ok (.invokevirtual 296, 3) := by decide +kernel
theorem dX11_read_90 : decode cX11_read 90 = .ok (.ifCond .ne 9, 3) := by decide +kernel
theorem dX11_read_93 : decode cX11_read 93 = .ok (.bipush (-20), 2) := by decide +kernel
theorem dX11_read_95 : decode cX11_read 95 = .ok (.iload 8, 2) := by decide +kernel
theorem dX11_read_97 : decode cX11_read 97 = .ok (.isub, 1) := by decide +kernel
theorem dX11_read_98 : decode cX11_read 98 = .ok (.ireturn, 1) := by decide +kernel
theorem dX11_read_99 : decode cX11_read 99 = .ok (.iload 8, 2) := by decide +kernel
theorem dX11_read_101 : decode cX11_read 101 = .ok (.iconst 1, 1) := by decide +kernel
theorem dX11_read_102 : decode cX11_read 102 = .ok (.iadd, 1) := by decide +kernel
theorem dX11_read_103 : decode cX11_read 103 = .ok (.istore 7, 2) := by decide +kernel
theorem dX11_read_105 : decode cX11_read 105 = .ok (.iinc 8 1, 3) := by decide +kernel
theorem dX11_read_108 : decode cX11_read 108 = .ok (.goto (-63), 3) := by decide +kernel
theorem dX11_read_111 : decode cX11_read 111 = .ok (.iconst 0, 1) := by decide +kernel
theorem dX11_read_112 : decode cX11_read 112 = .ok (.istore 8, 2) := by decide +kernel
theorem dX11_read_114 : decode cX11_read 114 = .ok (.iload 8, 2) := by decide +kernel
theorem dX11_read_116 : decode cX11_read 116 = .ok (.iload 7, 2) := by decide +kernel
theorem dX11_read_118 : decode cX11_read 118 = .ok (.if_icmp .ge 26, 3) := by decide +kernel
theorem dX11_read_121 : decode cX11_read 121 = .ok (.aload_n 0, 1) := by decide +kernel
theorem dX11_read_122 : decode cX11_read 122 = .ok (.getfield 44, 3) := by decide +kernel
theorem dX11_read_125 : decode cX11_read 125 = .ok (.aload 5, 2) := by decide +kernel
theorem dX11_read_127 : decode cX11_read 127 = .ok (.getfield 293, 3) := by decide +kernel
theorem dX11_read_130 : decode cX11_read 130 = .ok (.iload_n 3, 1) := by decide +kernel
theorem dX11_read_131 : decode cX11_read 131 = .ok (.iload 8, 2) := by decide +kernel
theorem dX11_read_133 : decode cX11_read 133 = .ok (.iadd, 1) := by decide +kernel
theorem dX11_read_134 : decode cX11_read 134 = .ok (.iaload, 1) := by decide +kernel
theorem dX11_read_135 : decode cX11_read 135 = .ok (.invokevirtual 196, 3) := by decide +kernel
theorem dX11_read_138 : decode cX11_read 138 = .ok (.iinc 8 1, 3) := by decide +kernel
theorem dX11_read_141 : decode cX11_read 141 = .ok (.goto (-27), 3) := by decide +kernel
theorem dX11_read_144 : decode cX11_read 144 = .ok (.aload_n 0, 1) := by decide +kernel
theorem dX11_read_145 : decode cX11_read 145 = .ok (.iload 6, 2) := by decide +kernel
theorem dX11_read_147 : decode cX11_read 147 = .ok (.putfield 103, 3) := by decide +kernel
theorem dX11_read_150 : decode cX11_read 150 = .ok (.iload 7, 2) := by decide +kernel
theorem dX11_read_152 : decode cX11_read 152 = .ok (.ireturn, 1) := by decide +kernel
theorem dX11_torn_0 : decode cX11_torn 0 = .ok (.aload_n 0, 1) := by decide +kernel
theorem dX11_torn_1 : decode cX11_torn 1 = .ok (.getfield 103, 3) := by decide +kernel
theorem dX11_torn_4 : decode cX11_torn 4 = .ok (.ireturn, 1) := by decide +kernel
set_option maxRecDepth 20000 in
theorem ggX11_count_X7_isNothing : GoodIn wsX11_count wsX7_isNothing := goodIn_r _ [12, 13, 52, 53, 54] rfl (by decide +kernel)
set_option maxRecDepth 20000 in
theorem gX11_count_X7_isNothing : GoodIn wsX11_count (wsV RX11 299 RX7 yX7_isNothing wsX7_isNothing) := goodIn_app (goodIn_of _ (by decide +kernel)) ggX11_count_X7_isNothing
set_option maxRecDepth 20000 in
theorem ggX11_count_X11_piecesInPot : GoodIn wsX11_count wsX11_piecesInPot := goodIn_r _ [18, 19, 20, 1, 21, 22, 23, 24, 25, 26, 27, 28, 29, 30, 31, 32, 33, 34, 35, 36, 55, 56, 57, 58, 59, 60, 61, 37, 38, 39, 40, 41, 42, 43, 44, 45] rfl (by decide +kernel)
set_option maxRecDepth 20000 in
theorem gX11_count_X11_piecesInPot : GoodIn wsX11_count (wsV RX11 306 RX11 yX11_piecesInPot wsX11_piecesInPot) := goodIn_app (goodIn_of _ (by decide +kernel)) ggX11_count_X11_piecesInPot
theorem dX11_count_0 : decode cX11_count 0 = .ok (.iload_n 1, 1) := by decide +kernel
theorem dX11_count_1 : decode cX11_count 1 = .ok (.tableswitch 113 0 4 #[35, 43, 73, 81, 108], 35) := by decide +kernel
theorem dX11_count_36 : decode cX11_count 36 = .ok (.aload_n 0, 1) := by decide +kernel
theorem dX11_count_37 : decode cX11_count 37 = .ok (.getfield 19, 3) := by decide +kernel
theorem dX11_count_40 : decode cX11_count 40 = .ok (.getfield 247, 3) := by decide +kernel
theorem dX11_count_43 : decode cX11_count 43 = .ok (.ireturn, 1) := by decide +kernel
theorem dX11_count_44 : decode cX11_count 44 = .ok (.aload_n 0, 1) := by decide +kernel
theorem dX11_count_45 : decode cX11_count 45 = .ok (.getfield 89, 3) := by decide +kernel
theorem dX11_count_48 : decode cX11_count 48 = .ok (.iconst 0, 1) := by decide +kernel
theorem dX11_count_49 : decode cX11_count 49 = .ok (.baload, 1) := by decide +kernel
theorem dX11_count_50 : decode cX11_count 50 = .ok (.ifCond .eq 7, 3) := by decide +kernel
theorem dX11_count_53 : decode cX11_count 53 = .ok (.iconst 1, 1) := by decide +kernel
theorem dX11_count_54 : decode cX11_count 54 = .ok (.goto 4, 3) := by decide +kernel
theorem dX11_count_57 : decode cX11_count 57 = .ok (.iconst 0, 1) := by decide +kernel
theorem dX11_count_58 : decode cX11_count 58 = .ok (.aload_n 0, 1) := by decide +kernel
theorem dX11_count_59 : decode cX11_count 59 = .ok (.getfield 89, 3) := by decide +kernel
theorem dX11_count_62 : decode cX11_count 62 = .ok (.iconst 1, 1) := by decide +kernel
theorem dX11_count_63 : decode cX11_count 63 = .ok (.baload, 1) := by decide +kernel
theorem dX11_count_64 : decode cX11_count 64 = .ok (.ifCond .eq 7, 3) := by decide +kernel
theorem dX11_count_67 : decode cX11_count 67 = .ok (.iconst 1, 1) := by decide +kernel
theorem dX11_count_68 : decode cX11_count 68 = .ok (.goto 4, 3) := by decide +kernel
theorem dX11_count_71 : decode cX11_count 71 = .ok (.iconst 0, 1) := by decide +kernel
theorem dX11_count_72 : decode cX11_count 72 = .ok (.iadd, 1) := by decide +kernel
theorem dX11_count_73 : decode cX11_count 73 = .ok (.ireturn, 1) := by decide +kernel
theorem dX11_count_74 : decode cX11_count 74 = .ok (.aload_n 0, 1) := by decide +kernel
theorem dX11_count_75 : decode cX11_count 75 = .ok (.getfield 26, 3) := by decide +kernel
theorem dX11_count_78 : decode cX11_count 78 = .ok (.getfield 111, 3) := by decide +kernel
theorem dX11_count_81 : decode cX11_count 81 = .ok (.ireturn, 1) := by decide +kernel
theorem dX11_count_82 : decode cX11_count 82 = .ok (.aload_n 0, 1) := by decide +kernel
theorem dX11_count_83 : decode cX11_count 83 = .ok (.getfield 95, 3) := by decide +kernel
theorem dX11_count_86 : decode cX11_count 86 = .ok (.iconst 0, 1) := by decide +kernel
theorem dX11_count_87 : decode cX11_count 87 = .ok (.aaload, 1) := by decide +kernel
theorem dX11_count_88 : decode cX11_count 88 = .ok (.invokevirtual 299, 3) := by decide +kernel
theorem dX11_count_91 : decode cX11_count 91 = .ok (.ifCond .eq 8, 3) := by decide +kernel
theorem dX11_count_94 : decode cX11_count 94 = .ok (.bipush (-4), 2) := by decide +kernel
theorem dX11_count_96 : decode cX11_count 96 = .ok (.goto 12, 3) := by decide +kernel
theorem dX11_count_99 : decode cX11_count 99 = .ok (.aload_n 0, 1) := by decide +kernel
theorem dX11_count_100 : decode cX11_count 100 = .ok (.getfield 95, 3) := by decide +kernel
theorem dX11_count_103 : decode cX11_count 103 = .ok (.iconst 0, 1) := by decide +kernel
theorem dX11_count_104 : decode cX11_count 104 = .ok (.aaload, 1) := by decide +kernel
theorem dX11_count_105 : decode cX11_count 105 = .ok (.getfield 303, 3) := by decide +kernel
theorem dX11_count_108 : decode cX11_count 108 = .ok (.ireturn, 1) := by decide +kernel
theorem dX11_count_109 : decode cX11_count 109 = .ok (.aload_n 0, 1) := by decide +kernel
theorem dX11_count_110 : decode cX11_count 110 = .ok (.invokevirtual 306, 3) := by decide +kernel
theorem dX11_count_113 : decode cX11_count 113 = .ok (.ireturn, 1) := by decide +kernel
theorem dX11_count_114 : decode cX11_count 114 = .ok (.iconst (-1), 1) := by decide +kernel
theorem dX11_count_115 : decode cX11_count 115 = .ok (.ireturn, 1) := by decide +kernel
theorem dX11_piecesInPot_0 : decode cX11_piecesInPot 0 = .ok (.iconst 0, 1) := by decide +kernel
theorem dX11_piecesInPot_1 : decode cX11_piecesInPot 1 = .ok (.istore_n 1, 1) := by decide +kernel
theorem dX11_piecesInPot_2 : decode cX11_piecesInPot 2 = .ok (.iconst 0, 1) := by decide +kernel
theorem dX11_piecesInPot_3 : decode cX11_piecesInPot 3 = .ok (.istore_n 2, 1) := by decide +kernel
theorem dX11_piecesInPot_4 : decode cX11_piecesInPot 4 = .ok (.iload_n 2, 1) := by decide +kernel
theorem dX11_piecesInPot_5 : decode cX11_piecesInPot 5 = .ok (.aload_n 0, 1) := by decide +kernel
theorem dX11_piecesInPot_6 : decode cX11_piecesInPot 6 = .ok (.getfield 10, 3) := by decide +kernel
theorem dX11_piecesInPot_9 : decode cX11_piecesInPot 9 = .ok (.getfield 130, 3) := by decide +kernel
theorem dX11_piecesInPot_12 : decode cX11_piecesInPot 12 = .ok (.if_icmp .ge 21, 3) := by decide +kernel
theorem dX11_piecesInPot_15 : decode cX11_piecesInPot 15 = .ok (.iload_n 1, 1) := by decide +kernel
theorem dX11_piecesInPot_16 : decode cX11_piecesInPot 16 = .ok (.aload_n 0, 1) := by decide +kernel
theorem dX11_piecesInPot_17 : decode cX11_piecesInPot 17 = .ok (.getfield 19, 3) := by decide +kernel
theorem dX11_piecesInPot_20 : decode cX11_piecesInPot 20 = .ok (.getfield 149, 3) := by decide +kernel
theorem dX11_piecesInPot_23 : decode cX11_piecesInPot 23 = .ok (.iload_n 2, 1) := by decide +kernel
theorem dX11_piecesInPot_24 : decode cX11_piecesInPot 24 = .ok (.iaload, 1) := by decide +kernel
theorem dX11_piecesInPot_25 : decode cX11_piecesInPot 25 = .ok (.iadd, 1) := by decide +kernel
theorem dX11_piecesInPot_26 : decode cX11_piecesInPot 26 = .ok (.istore_n 1, 1) := by decide +kernel
theorem dX11_piecesInPot_27 : decode cX11_piecesInPot 27 = .ok (.iinc 2 1, 3) := by decide +kernel
theorem dX11_piecesInPot_30 : decode cX11_piecesInPot 30 = .ok (.goto (-26), 3) := by decide +kernel
theorem dX11_piecesInPot_33 : decode cX11_piecesInPot 33 = .ok (.iload_n 1, 1) := by decide +kernel
theorem dX11_piecesInPot_34 : decode cX11_piecesInPot 34 = .ok (.ireturn, 1) := by decide +kernel
set_option maxRecDepth 20000 in
theorem ggX11_canPass_X6_hasStir : GoodIn wsX11_canPass wsX6_hasStir := goodIn_r _ [8, 9, 34, 35, 36, 37, 38, 39, 40] rfl (by decide +kernel)
set_option maxRecDepth 20000 in
theorem gX11_canPass_X6_hasStir : GoodIn wsX11_canPass (wsV RX11 165 RX6 yX6_hasStir wsX6_hasStir) := goodIn_app (goodIn_of _ (by decide +kernel)) ggX11_canPass_X6_hasStir
theorem dX11_canPass_0 : decode cX11_canPass 0 = .ok (.aload_n 0, 1) := by decide +kernel
theorem dX11_canPass_1 : decode cX11_canPass 1 = .ok (.getfield 10, 3) := by decide +kernel
theorem dX11_canPass_4 : decode cX11_canPass 4 = .ok (.iload_n 1, 1) := by decide +kernel
theorem dX11_canPass_5 : decode cX11_canPass 5 = .ok (.invokevirtual 165, 3) := by decide +kernel
theorem dX11_canPass_8 : decode cX11_canPass 8 = .ok (.ifCond .eq 22, 3) := by decide +kernel
theorem dX11_canPass_11 : decode cX11_canPass 11 = .ok (.aload_n 0, 1) := by decide +kernel
theorem dX11_canPass_12 : decode cX11_canPass 12 = .ok (.getfield 19, 3) := by decide +kernel
theorem dX11_canPass_15 : decode cX11_canPass 15 = .ok (.getfield 139, 3) := by decide +kernel
theorem dX11_canPass_18 : decode cX11_canPass 18 = .ok (.iload_n 2, 1) := by decide +kernel
theorem dX11_canPass_19 : decode cX11_canPass 19 = .ok (.iadd, 1) := by decide +kernel
theorem dX11_canPass_20 : decode cX11_canPass 20 = .ok (.sipush 999, 3) := by decide +kernel
theorem dX11_canPass_23 : decode cX11_canPass 23 = .ok (.if_icmp .ge 7, 3) := by decide +kernel
theorem dX11_canPass_26 : decode cX11_canPass 26 = .ok (.iconst 1, 1) := by decide +kernel
theorem dX11_canPass_27 : decode cX11_canPass 27 = .ok (.goto 4, 3) := by decide +kernel
theorem dX11_canPass_30 : decode cX11_canPass 30 = .ok (.iconst 0, 1) := by decide +kernel
theorem dX11_canPass_31 : decode cX11_canPass 31 = .ok (.ireturn, 1) := by decide +kernel
theorem dX11_isPart_0 : decode cX11_isPart 0 = .ok (.iload_n 0, 1) := by decide +kernel
theorem dX11_isPart_1 : decode cX11_isPart 1 = .ok (.ifCond .eq 8, 3) := by decide +kernel
theorem dX11_isPart_4 : decode cX11_isPart 4 = .ok (.iload_n 0, 1) := by decide +kernel
theorem dX11_isPart_5 : decode cX11_isPart 5 = .ok (.iconst 1, 1) := by decide +kernel
theorem dX11_isPart_6 : decode cX11_isPart 6 = .ok (.if_icmp .ne 7, 3) := by decide +kernel
theorem dX11_isPart_9 : decode cX11_isPart 9 = .ok (.iconst 1, 1) := by decide +kernel
theorem dX11_isPart_10 : decode cX11_isPart 10 = .ok (.goto 4, 3) := by decide +kernel
theorem dX11_isPart_13 : decode cX11_isPart 13 = .ok (.iconst 0, 1) := by decide +kernel
theorem dX11_isPart_14 : decode cX11_isPart 14 = .ok (.ireturn, 1) := by decide +kernel
theorem dX11_isRowQuestion_0 : decode cX11_isRowQuestion 0 = .ok (.iload_n 0, 1) := by decide +kernel
theorem dX11_isRowQuestion_1 : decode cX11_isRowQuestion 1 = .ok (.ifCond .eq 17, 3) := by decide +kernel
theorem dX11_isRowQuestion_4 : decode cX11_isRowQuestion 4 = .ok (.iload_n 0, 1) := by decide +kernel
theorem dX11_isRowQuestion_5 : decode cX11_isRowQuestion 5 = .ok (.bipush 10, 2) := by decide +kernel
theorem dX11_isRowQuestion_7 : decode cX11_isRowQuestion 7 = .ok (.if_icmp .lt 15, 3) := by decide +kernel
theorem dX11_isRowQuestion_10 : decode cX11_isRowQuestion 10 = .ok (.iload_n 0, 1) := by decide +kernel
theorem dX11_isRowQuestion_11 : decode cX11_isRowQuestion 11 = .ok (.bipush 10, 2) := by decide +kernel
theorem dX11_isRowQuestion_13 : decode cX11_isRowQuestion 13 = .ok (.iload_n 1, 1) := by decide +kernel
theorem dX11_isRowQuestion_14 : decode cX11_isRowQuestion 14 = .ok (.iadd, 1) := by decide +kernel
theorem dX11_isRowQuestion_15 : decode cX11_isRowQuestion 15 = .ok (.if_icmp .ge 7, 3) := by decide +kernel
theorem dX11_isRowQuestion_18 : decode cX11_isRowQuestion 18 = .ok (.iconst 1, 1) := by decide +kernel
theorem dX11_isRowQuestion_19 : decode cX11_isRowQuestion 19 = .ok (.goto 4, 3) := by decide +kernel
theorem dX11_isRowQuestion_22 : decode cX11_isRowQuestion 22 = .ok (.iconst 0, 1) := by decide +kernel
theorem dX11_isRowQuestion_23 : decode cX11_isRowQuestion 23 = .ok (.ireturn, 1) := by decide +kernel
theorem dX11_ofRow_0 : decode cX11_ofRow 0 = .ok (.iload_n 2, 1) := by decide +kernel
theorem dX11_ofRow_1 : decode cX11_ofRow 1 = .ok (.ifCond .lt 20, 3) := by decide +kernel
theorem dX11_ofRow_4 : decode cX11_ofRow 4 = .ok (.iload_n 2, 1) := by decide +kernel
theorem dX11_ofRow_5 : decode cX11_ofRow 5 = .ok (.iload_n 1, 1) := by decide +kernel
theorem dX11_ofRow_6 : decode cX11_ofRow 6 = .ok (.if_icmp .ge 15, 3) := by decide +kernel
theorem dX11_ofRow_9 : decode cX11_ofRow 9 = .ok (.iload_n 2, 1) := by decide +kernel
theorem dX11_ofRow_10 : decode cX11_ofRow 10 = .ok (.aload_n 0, 1) := by decide +kernel
theorem dX11_ofRow_11 : decode cX11_ofRow 11 = .ok (.arraylength, 1) := by decide +kernel
theorem dX11_ofRow_12 : decode cX11_ofRow 12 = .ok (.if_icmp .ge 9, 3) := by decide +kernel
theorem dX11_ofRow_15 : decode cX11_ofRow 15 = .ok (.aload_n 0, 1) := by decide +kernel
theorem dX11_ofRow_16 : decode cX11_ofRow 16 = .ok (.iload_n 2, 1) := by decide +kernel
theorem dX11_ofRow_17 : decode cX11_ofRow 17 = .ok (.iaload, 1) := by decide +kernel
theorem dX11_ofRow_18 : decode cX11_ofRow 18 = .ok (.goto 5, 3) := by decide +kernel
theorem dX11_ofRow_21 : decode cX11_ofRow 21 = .ok (.bipush (-4), 2) := by decide +kernel
theorem dX11_ofRow_23 : decode cX11_ofRow 23 = .ok (.ireturn, 1) := by decide +kernel
theorem dX11_isImage_0 : decode cX11_isImage 0 = .ok (.iload_n 0, 1) := by decide +kernel
theorem dX11_isImage_1 : decode cX11_isImage 1 = .ok (.ifCond .lt 12, 3) := by decide +kernel
theorem dX11_isImage_4 : decode cX11_isImage 4 = .ok (.iload_n 0, 1) := by decide +kernel
theorem dX11_isImage_5 : decode cX11_isImage 5 = .ok (.iconst 2, 1) := by decide +kernel
theorem dX11_isImage_6 : decode cX11_isImage 6 = .ok (.if_icmp .ge 7, 3) := by decide +kernel
theorem dX11_isImage_9 : decode cX11_isImage 9 = .ok (.iconst 1, 1) := by decide +kernel
theorem dX11_isImage_10 : decode cX11_isImage 10 = .ok (.goto 4, 3) := by decide +kernel
theorem dX11_isImage_13 : decode cX11_isImage 13 = .ok (.iconst 0, 1) := by decide +kernel
theorem dX11_isImage_14 : decode cX11_isImage 14 = .ok (.ireturn, 1) := by decide +kernel
theorem dX11_isSheet_0 : decode cX11_isSheet 0 = .ok (.iload_n 0, 1) := by decide +kernel
theorem dX11_isSheet_1 : decode cX11_isSheet 1 = .ok (.ifCond .lt 12, 3) := by decide +kernel
theorem dX11_isSheet_4 : decode cX11_isSheet 4 = .ok (.iload_n 0, 1) := by decide +kernel
theorem dX11_isSheet_5 : decode cX11_isSheet 5 = .ok (.iconst 4, 1) := by decide +kernel
theorem dX11_isSheet_6 : decode cX11_isSheet 6 = .ok (.if_icmp .ge 7, 3) := by decide +kernel
theorem dX11_isSheet_9 : decode cX11_isSheet 9 = .ok (.iconst 1, 1) := by decide +kernel
theorem dX11_isSheet_10 : decode cX11_isSheet 10 = .ok (.goto 4, 3) := by decide +kernel
theorem dX11_isSheet_13 : decode cX11_isSheet 13 = .ok (.iconst 0, 1) := by decide +kernel
theorem dX11_isSheet_14 : decode cX11_isSheet 14 = .ok (.ireturn, 1) := by decide +kernel
theorem dX11_isLane_0 : decode cX11_isLane 0 = .ok (.iload_n 0, 1) := by decide +kernel
theorem dX11_isLane_1 : decode cX11_isLane 1 = .ok (.ifCond .lt 12, 3) := by decide +kernel
theorem dX11_isLane_4 : decode cX11_isLane 4 = .ok (.iload_n 0, 1) := by decide +kernel
theorem dX11_isLane_5 : decode cX11_isLane 5 = .ok (.iconst 3, 1) := by decide +kernel
theorem dX11_isLane_6 : decode cX11_isLane 6 = .ok (.if_icmp .ge 7, 3) := by decide +kernel
theorem dX11_isLane_9 : decode cX11_isLane 9 = .ok (.iconst 1, 1) := by decide +kernel
theorem dX11_isLane_10 : decode cX11_isLane 10 = .ok (.goto 4, 3) := by decide +kernel
theorem dX11_isLane_13 : decode cX11_isLane 13 = .ok (.iconst 0, 1) := by decide +kernel
theorem dX11_isLane_14 : decode cX11_isLane 14 = .ok (.ireturn, 1) := by decide +kernel
set_option maxRecDepth 20000 in
theorem ggX12_init_X12_firstDraft : GoodIn wsX12_init wsX12_firstDraft := goodIn_r _ [34, 10, 12, 35, 36, 37, 38, 49, 50, 51, 52, 53, 54, 55, 56, 57, 58, 59, 60, 61, 62, 63, 64, 65, 66, 67, 68, 69, 70, 71, 72, 73, 74, 75, 76, 77, 78, 79, 80, 81, 82, 83, 84, 85] rfl (by decide +kernel)
set_option maxRecDepth 20000 in
theorem gX12_init_X12_firstDraft : GoodIn wsX12_init (wsV RX12 81 RX12 yX12_firstDraft wsX12_firstDraft) := goodIn_app (goodIn_of _ (by decide +kernel)) ggX12_init_X12_firstDraft
set_option maxRecDepth 20000 in
theorem ggX12_init_X12_keepDraft : GoodIn wsX12_init wsX12_keepDraft := goodIn_r _ [42, 5, 10, 35, 43, 36, 44, 9, 12, 8, 7, 45, 46, 47, 33, 48, 11, 49, 50, 51, 52, 53, 54, 55, 56, 57, 58, 59, 60, 61, 62, 63, 64, 65, 66, 67, 68, 69, 70, 71, 72, 73, 74, 75, 76, 77, 78, 79, 80, 81, 82, 83, 84, 85] rfl (by decide +kernel)
set_option maxRecDepth 20000 in
theorem gX12_init_X12_keepDraft : GoodIn wsX12_init (wsV RX12 84 RX12 yX12_keepDraft wsX12_keepDraft) := goodIn_app (goodIn_of _ (by decide +kernel)) ggX12_init_X12_keepDraft
theorem dX12_init_0 : decode cX12_init 0 = .ok (.aload_n 0, 1) := by decide +kernel
theorem dX12_init_1 : decode cX12_init 1 = .ok (.invokespecial 1, 3) := by decide +kernel
theorem dX12_init_4 : decode cX12_init 4 = .ok (.aload_n 0, 1) := by decide +kernel
theorem dX12_init_5 : decode cX12_init 5 = .ok (.sipush 152, 3) := by decide +kernel
theorem dX12_init_8 : decode cX12_init 8 = .ok (.newarray .int, 2) := by decide +kernel
theorem dX12_init_10 : decode cX12_init 10 = .ok (.putfield 7, 3) := by decide +kernel
theorem dX12_init_13 : decode cX12_init 13 = .ok (.aload_n 0, 1) := by decide +kernel
theorem dX12_init_14 : decode cX12_init 14 = .ok (.iconst 2, 1) := by decide +kernel
theorem dX12_init_15 : decode cX12_init 15 = .ok (.newarray .boolean, 2) := by decide +kernel
theorem dX12_init_17 : decode cX12_init 17 = .ok (.putfield 13, 3) := by decide +kernel
theorem dX12_init_20 : decode cX12_init 20 = .ok (.aload_n 0, 1) := by decide +kernel
theorem dX12_init_21 : decode cX12_init 21 = .ok (.bipush 35, 2) := by decide +kernel
theorem dX12_init_23 : decode cX12_init 23 = .ok (.newarray .int, 2) := by decide +kernel
theorem dX12_init_25 : decode cX12_init 25 = .ok (.putfield 17, 3) := by decide +kernel
theorem dX12_init_28 : decode cX12_init 28 = .ok (.aload_n 0, 1) := by decide +kernel
theorem dX12_init_29 : decode cX12_init 29 = .ok (.bipush 7, 2) := by decide +kernel
theorem dX12_init_31 : decode cX12_init 31 = .ok (.newarray .int, 2) := by decide +kernel
theorem dX12_init_33 : decode cX12_init 33 = .ok (.putfield 20, 3) := by decide +kernel
theorem dX12_init_36 : decode cX12_init 36 = .ok (.aload_n 0, 1) := by decide +kernel
theorem dX12_init_37 : decode cX12_init 37 = .ok (.bipush 38, 2) := by decide +kernel
theorem dX12_init_39 : decode cX12_init 39 = .ok (.newarray .int, 2) := by decide +kernel
theorem dX12_init_41 : decode cX12_init 41 = .ok (.putfield 23, 3) := by decide +kernel
theorem dX12_init_44 : decode cX12_init 44 = .ok (.aload_n 0, 1) := by decide +kernel
theorem dX12_init_45 : decode cX12_init 45 = .ok (.bipush 15, 2) := by decide +kernel
theorem dX12_init_47 : decode cX12_init 47 = .ok (.newarray .int, 2) := by decide +kernel
theorem dX12_init_49 : decode cX12_init 49 = .ok (.putfield 26, 3) := by decide +kernel
theorem dX12_init_52 : decode cX12_init 52 = .ok (.aload_n 0, 1) := by decide +kernel
theorem dX12_init_53 : decode cX12_init 53 = .ok (.bipush 7, 2) := by decide +kernel
theorem dX12_init_55 : decode cX12_init 55 = .ok (.newarray .int, 2) := by decide +kernel
theorem dX12_init_57 : decode cX12_init 57 = .ok (.putfield 29, 3) := by decide +kernel
theorem dX12_init_60 : decode cX12_init 60 = .ok (.aload_n 0, 1) := by decide +kernel
theorem dX12_init_61 : decode cX12_init 61 = .ok (.sipush 320, 3) := by decide +kernel
theorem dX12_init_64 : decode cX12_init 64 = .ok (.newarray .int, 2) := by decide +kernel
theorem dX12_init_66 : decode cX12_init 66 = .ok (.putfield 32, 3) := by decide +kernel
theorem dX12_init_69 : decode cX12_init 69 = .ok (.aload_n 0, 1) := by decide +kernel
theorem dX12_init_70 : decode cX12_init 70 = .ok (.bipush 7, 2) := by decide +kernel
theorem dX12_init_72 : decode cX12_init 72 = .ok (.newarray .int, 2) := by decide +kernel
theorem dX12_init_74 : decode cX12_init 74 = .ok (.putfield 35, 3) := by decide +kernel
theorem dX12_init_77 : decode cX12_init 77 = .ok (.aload_n 0, 1) := by decide +kernel
theorem dX12_init_78 : decode cX12_init 78 = .ok (.bipush 7, 2) := by decide +kernel
theorem dX12_init_80 : decode cX12_init 80 = .ok (.newarray .int, 2) := by decide +kernel
theorem dX12_init_82 : decode cX12_init 82 = .ok (.putfield 38, 3) := by decide +kernel
theorem dX12_init_85 : decode cX12_init 85 = .ok (.aload_n 0, 1) := by decide +kernel
theorem dX12_init_86 : decode cX12_init 86 = .ok (.bipush 49, 2) := by decide +kernel
theorem dX12_init_88 : decode cX12_init 88 = .ok (.newarray .long, 2) := by decide +kernel
theorem dX12_init_90 : decode cX12_init 90 = .ok (.putfield 41, 3) := by decide +kernel
theorem dX12_init_93 : decode cX12_init 93 = .ok (.aload_n 0, 1) := by decide +kernel
theorem dX12_init_94 : decode cX12_init 94 = .ok (.bipush 49, 2) := by decide +kernel
theorem dX12_init_96 : decode cX12_init 96 = .ok (.newarray .long, 2) := by decide +kernel
theorem dX12_init_98 : decode cX12_init 98 = .ok (.putfield 45, 3) := by decide +kernel
theorem dX12_init_101 : decode cX12_init 101 = .ok (.aload_n 0, 1) := by decide +kernel
theorem dX12_init_102 : decode cX12_init 102 = .ok (.sipush 539, 3) := by decide +kernel
theorem dX12_init_105 : decode cX12_init 105 = .ok (.newarray .int, 2) := by decide +kernel
theorem dX12_init_107 : decode cX12_init 107 = .ok (.putfield 48, 3) := by decide +kernel
theorem dX12_init_110 : decode cX12_init 110 = .ok (.aload_n 0, 1) := by decide +kernel
theorem dX12_init_111 : decode cX12_init 111 = .ok (.bipush 49, 2) := by decide +kernel
theorem dX12_init_113 : decode cX12_init 113 = .ok (.newarray .int, 2) := by decide +kernel
theorem dX12_init_115 : decode cX12_init 115 = .ok (.putfield 51, 3) := by decide +kernel
theorem dX12_init_118 : decode cX12_init 118 = .ok (.aload_n 0, 1) := by decide +kernel
theorem dX12_init_119 : decode cX12_init 119 = .ok (.bipush 7, 2) := by decide +kernel
theorem dX12_init_121 : decode cX12_init 121 = .ok (.newarray .int, 2) := by decide +kernel
theorem dX12_init_123 : decode cX12_init 123 = .ok (.putfield 54, 3) := by decide +kernel
theorem dX12_init_126 : decode cX12_init 126 = .ok (.aload_n 0, 1) := by decide +kernel
theorem dX12_init_127 : decode cX12_init 127 = .ok (.bipush 7, 2) := by decide +kernel
theorem dX12_init_129 : decode cX12_init 129 = .ok (.newarray .int, 2) := by decide +kernel
theorem dX12_init_131 : decode cX12_init 131 = .ok (.putfield 57, 3) := by decide +kernel
theorem dX12_init_134 : decode cX12_init 134 = .ok (.aload_n 0, 1) := by decide +kernel
theorem dX12_init_135 : decode cX12_init 135 = .ok (.sipush 343, 3) := by decide +kernel
theorem dX12_init_138 : decode cX12_init 138 = .ok (.newarray .int, 2) := by decide +kernel
theorem dX12_init_140 : decode cX12_init 140 = .ok (.putfield 60, 3) := by decide +kernel
theorem dX12_init_143 : decode cX12_init 143 = .ok (.aload_n 0, 1) := by decide +kernel
theorem dX12_init_144 : decode cX12_init 144 = .ok (.bipush 49, 2) := by decide +kernel
theorem dX12_init_146 : decode cX12_init 146 = .ok (.newarray .boolean, 2) := by decide +kernel
theorem dX12_init_148 : decode cX12_init 148 = .ok (.putfield 63, 3) := by decide +kernel
theorem dX12_init_151 : decode cX12_init 151 = .ok (.aload_n 0, 1) := by decide +kernel
theorem dX12_init_152 : decode cX12_init 152 = .ok (.bipush 49, 2) := by decide +kernel
theorem dX12_init_154 : decode cX12_init 154 = .ok (.newarray .boolean, 2) := by decide +kernel
theorem dX12_init_156 : decode cX12_init 156 = .ok (.putfield 66, 3) := by decide +kernel
theorem dX12_init_159 : decode cX12_init 159 = .ok (.aload_n 0, 1) := by decide +kernel
theorem dX12_init_160 : decode cX12_init 160 = .ok (.iconst 4, 1) := by decide +kernel
theorem dX12_init_161 : decode cX12_init 161 = .ok (.newarray .int, 2) := by decide +kernel
theorem dX12_init_163 : decode cX12_init 163 = .ok (.putfield 69, 3) := by decide +kernel
theorem dX12_init_166 : decode cX12_init 166 = .ok (.aload_n 0, 1) := by decide +kernel
theorem dX12_init_167 : decode cX12_init 167 = .ok (.iconst 4, 1) := by decide +kernel
theorem dX12_init_168 : decode cX12_init 168 = .ok (.newarray .int, 2) := by decide +kernel
theorem dX12_init_170 : decode cX12_init 170 = .ok (.putfield 72, 3) := by decide +kernel
theorem dX12_init_173 : decode cX12_init 173 = .ok (.aload_n 0, 1) := by decide +kernel
theorem dX12_init_174 : decode cX12_init 174 = .ok (.iconst 4, 1) := by decide +kernel
theorem dX12_init_175 : decode cX12_init 175 = .ok (.newarray .int, 2) := by decide +kernel
theorem dX12_init_177 : decode cX12_init 177 = .ok (.putfield 75, 3) := by decide +kernel
theorem dX12_init_180 : decode cX12_init 180 = .ok (.aload_n 0, 1) := by decide +kernel
theorem dX12_init_181 : decode cX12_init 181 = .ok (.sipush 160, 3) := by decide +kernel
theorem dX12_init_184 : decode cX12_init 184 = .ok (.newarray .int, 2) := by decide +kernel
theorem dX12_init_186 : decode cX12_init 186 = .ok (.putfield 78, 3) := by decide +kernel
theorem dX12_init_189 : decode cX12_init 189 = .ok (.iconst 0, 1) := by decide +kernel
theorem dX12_init_190 : decode cX12_init 190 = .ok (.istore_n 1, 1) := by decide +kernel
theorem dX12_init_191 : decode cX12_init 191 = .ok (.iload_n 1, 1) := by decide +kernel
theorem dX12_init_192 : decode cX12_init 192 = .ok (.iconst 4, 1) := by decide +kernel
theorem dX12_init_193 : decode cX12_init 193 = .ok (.if_icmp .ge 17, 3) := by decide +kernel
theorem dX12_init_196 : decode cX12_init 196 = .ok (.aload_n 0, 1) := by decide +kernel
theorem dX12_init_197 : decode cX12_init 197 = .ok (.getfield 72, 3) := by decide +kernel
theorem dX12_init_200 : decode cX12_init 200 = .ok (.iload_n 1, 1) := by decide +kernel
theorem dX12_init_201 : decode cX12_init 201 = .ok (.bipush (-4), 2) := by decide +kernel
theorem dX12_init_203 : decode cX12_init 203 = .ok (.iastore, 1) := by decide +kernel
theorem dX12_init_204 : decode cX12_init 204 = .ok (.iinc 1 1, 3) := by decide +kernel
theorem dX12_init_207 : decode cX12_init 207 = .ok (.goto (-16), 3) := by decide +kernel
theorem dX12_init_210 : decode cX12_init 210 = .ok (.aload_n 0, 1) := by decide +kernel
theorem dX12_init_211 : decode cX12_init 211 = .ok (.invokevirtual 81, 3) := by decide +kernel
theorem dX12_init_214 : decode cX12_init 214 = .ok (.aload_n 0, 1) := by decide +kernel
theorem dX12_init_215 : decode cX12_init 215 = .ok (.invokevirtual 84, 3) := by decide +kernel
theorem dX12_init_218 : decode cX12_init 218 = .ok (.return_, 1) := by decide +kernel
theorem dX12_in_0 : decode cX12_in 0 = .ok (.lload_n 0, 1) := by decide +kernel
theorem dX12_in_1 : decode cX12_in 1 = .ok (.lload_n 2, 1) := by decide +kernel
theorem dX12_in_2 : decode cX12_in 2 = .ok (.lcmp, 1) := by decide +kernel
theorem dX12_in_3 : decode cX12_in 3 = .ok (.ifCond .lt 14, 3) := by decide +kernel
theorem dX12_in_6 : decode cX12_in 6 = .ok (.lload_n 0, 1) := by decide +kernel
theorem dX12_in_7 : decode cX12_in 7 = .ok (.lload 4, 2) := by decide +kernel
theorem dX12_in_9 : decode cX12_in 9 = .ok (.lcmp, 1) := by decide +kernel
theorem dX12_in_10 : decode cX12_in 10 = .ok (.ifCond .gt 7, 3) := by decide +kernel
theorem dX12_in_13 : decode cX12_in 13 = .ok (.iconst 1, 1) := by decide +kernel
theorem dX12_in_14 : decode cX12_in 14 = .ok (.goto 4, 3) := by decide +kernel
theorem dX12_in_17 : decode cX12_in 17 = .ok (.iconst 0, 1) := by decide +kernel
theorem dX12_in_18 : decode cX12_in 18 = .ok (.ireturn, 1) := by decide +kernel
theorem dX12_flag_0 : decode cX12_flag 0 = .ok (.iload_n 0, 1) := by decide +kernel
theorem dX12_flag_1 : decode cX12_flag 1 = .ok (.ifCond .eq 7, 3) := by decide +kernel
theorem dX12_flag_4 : decode cX12_flag 4 = .ok (.iconst 1, 1) := by decide +kernel
theorem dX12_flag_5 : decode cX12_flag 5 = .ok (.goto 4, 3) := by decide +kernel
theorem dX12_flag_8 : decode cX12_flag 8 = .ok (.iconst 0, 1) := by decide +kernel
theorem dX12_flag_9 : decode cX12_flag 9 = .ok (.ireturn, 1) := by decide +kernel
theorem dX12_firstDraft_0 : decode cX12_firstDraft 0 = .ok (.iconst 0, 1) := by decide +kernel
theorem dX12_firstDraft_1 : decode cX12_firstDraft 1 = .ok (.istore_n 1, 1) := by decide +kernel
theorem dX12_firstDraft_2 : decode cX12_firstDraft 2 = .ok (.iload_n 1, 1) := by decide +kernel
theorem dX12_firstDraft_3 : decode cX12_firstDraft 3 = .ok (.bipush 38, 2) := by decide +kernel
theorem dX12_firstDraft_5 : decode cX12_firstDraft 5 = .ok (.if_icmp .ge 32, 3) := by decide +kernel
theorem dX12_firstDraft_8 : decode cX12_firstDraft 8 = .ok (.aload_n 0, 1) := by decide +kernel
theorem dX12_firstDraft_9 : decode cX12_firstDraft 9 = .ok (.getfield 23, 3) := by decide +kernel
theorem dX12_firstDraft_12 : decode cX12_firstDraft 12 = .ok (.iload_n 1, 1) := by decide +kernel
theorem dX12_firstDraft_13 : decode cX12_firstDraft 13 = .ok (.iload_n 1, 1) := by decide +kernel
theorem dX12_firstDraft_14 : decode cX12_firstDraft 14 = .ok (.bipush 16, 2) := by decide +kernel
theorem dX12_firstDraft_16 : decode cX12_firstDraft 16 = .ok (.if_icmp .lt 13, 3) := by decide +kernel
theorem dX12_firstDraft_19 : decode cX12_firstDraft 19 = .ok (.iload_n 1, 1) := by decide +kernel
theorem dX12_firstDraft_20 : decode cX12_firstDraft 20 = .ok (.bipush 23, 2) := by decide +kernel
theorem dX12_firstDraft_22 : decode cX12_firstDraft 22 = .ok (.if_icmp .ge 7, 3) := by decide +kernel
theorem dX12_firstDraft_25 : decode cX12_firstDraft 25 = .ok (.iconst 1, 1) := by decide +kernel
theorem dX12_firstDraft_26 : decode cX12_firstDraft 26 = .ok (.goto 4, 3) := by decide +kernel
theorem dX12_firstDraft_29 : decode cX12_firstDraft 29 = .ok (.iconst 0, 1) := by decide +kernel
theorem dX12_firstDraft_30 : decode cX12_firstDraft 30 = .ok (.iastore, 1) := by decide +kernel
theorem dX12_firstDraft_31 : decode cX12_firstDraft 31 = .ok (.iinc 1 1, 3) := by decide +kernel
theorem dX12_firstDraft_34 : decode cX12_firstDraft 34 = .ok (.goto (-32), 3) := by decide +kernel
theorem dX12_firstDraft_37 : decode cX12_firstDraft 37 = .ok (.iconst 0, 1) := by decide +kernel
theorem dX12_firstDraft_38 : decode cX12_firstDraft 38 = .ok (.istore_n 1, 1) := by decide +kernel
theorem dX12_firstDraft_39 : decode cX12_firstDraft 39 = .ok (.iload_n 1, 1) := by decide +kernel
theorem dX12_firstDraft_40 : decode cX12_firstDraft 40 = .ok (.bipush 7, 2) := by decide +kernel
theorem dX12_firstDraft_42 : decode cX12_firstDraft 42 = .ok (.if_icmp .ge 16, 3) := by decide +kernel
theorem dX12_firstDraft_45 : decode cX12_firstDraft 45 = .ok (.aload_n 0, 1) := by decide +kernel
theorem dX12_firstDraft_46 : decode cX12_firstDraft 46 = .ok (.getfield 29, 3) := by decide +kernel
theorem dX12_firstDraft_49 : decode cX12_firstDraft 49 = .ok (.iload_n 1, 1) := by decide +kernel
theorem dX12_firstDraft_50 : decode cX12_firstDraft 50 = .ok (.iconst 0, 1) := by decide +kernel
theorem dX12_firstDraft_51 : decode cX12_firstDraft 51 = .ok (.iastore, 1) := by decide +kernel
theorem dX12_firstDraft_52 : decode cX12_firstDraft 52 = .ok (.iinc 1 1, 3) := by decide +kernel
theorem dX12_firstDraft_55 : decode cX12_firstDraft 55 = .ok (.goto (-16), 3) := by decide +kernel
theorem dX12_firstDraft_58 : decode cX12_firstDraft 58 = .ok (.aload_n 0, 1) := by decide +kernel
theorem dX12_firstDraft_59 : decode cX12_firstDraft 59 = .ok (.iconst 4, 1) := by decide +kernel
theorem dX12_firstDraft_60 : decode cX12_firstDraft 60 = .ok (.putfield 87, 3) := by decide +kernel
theorem dX12_firstDraft_63 : decode cX12_firstDraft 63 = .ok (.aload_n 0, 1) := by decide +kernel
theorem dX12_firstDraft_64 : decode cX12_firstDraft 64 = .ok (.iconst 0, 1) := by decide +kernel
theorem dX12_firstDraft_65 : decode cX12_firstDraft 65 = .ok (.putfield 91, 3) := by decide +kernel
theorem dX12_firstDraft_68 : decode cX12_firstDraft 68 = .ok (.aload_n 0, 1) := by decide +kernel
theorem dX12_firstDraft_69 : decode cX12_firstDraft 69 = .ok (.iconst 0, 1) := by decide +kernel
theorem dX12_firstDraft_70 : decode cX12_firstDraft 70 = .ok (.putfield 94, 3) := by decide +kernel
theorem dX12_firstDraft_73 : decode cX12_firstDraft 73 = .ok (.aload_n 0, 1) := by decide +kernel
theorem dX12_firstDraft_74 : decode cX12_firstDraft 74 = .ok (.bipush (-4), 2) := by decide +kernel
theorem dX12_firstDraft_76 : decode cX12_firstDraft 76 = .ok (.putfield 97, 3) := by decide +kernel
theorem dX12_firstDraft_79 : decode cX12_firstDraft 79 = .ok (.return_, 1) := by decide +kernel
theorem dX12_broughtTo_0 : decode cX12_broughtTo 0 = .ok (.aload_n 0, 1) := by decide +kernel
theorem dX12_broughtTo_1 : decode cX12_broughtTo 1 = .ok (.getfield 26, 3) := by decide +kernel
theorem dX12_broughtTo_4 : decode cX12_broughtTo 4 = .ok (.iconst 3, 1) := by decide +kernel
theorem dX12_broughtTo_5 : decode cX12_broughtTo 5 = .ok (.iload_n 1, 1) := by decide +kernel
theorem dX12_broughtTo_6 : decode cX12_broughtTo 6 = .ok (.imul, 1) := by decide +kernel
theorem dX12_broughtTo_7 : decode cX12_broughtTo 7 = .ok (.iconst 1, 1) := by decide +kernel
theorem dX12_broughtTo_8 : decode cX12_broughtTo 8 = .ok (.iadd, 1) := by decide +kernel
theorem dX12_broughtTo_9 : decode cX12_broughtTo 9 = .ok (.iaload, 1) := by decide +kernel
theorem dX12_broughtTo_10 : decode cX12_broughtTo 10 = .ok (.istore_n 3, 1) := by decide +kernel
theorem dX12_broughtTo_11 : decode cX12_broughtTo 11 = .ok (.aload_n 0, 1) := by decide +kernel
theorem dX12_broughtTo_12 : decode cX12_broughtTo 12 = .ok (.getfield 26, 3) := by decide +kernel
theorem dX12_broughtTo_15 : decode cX12_broughtTo 15 = .ok (.iconst 3, 1) := by decide +kernel
theorem dX12_broughtTo_16 : decode cX12_broughtTo 16 = .ok (.iload_n 1, 1) := by decide +kernel
theorem dX12_broughtTo_17 : decode cX12_broughtTo 17 = .ok (.imul, 1) := by decide +kernel
theorem dX12_broughtTo_18 : decode cX12_broughtTo 18 = .ok (.iconst 2, 1) := by decide +kernel
theorem dX12_broughtTo_19 : decode cX12_broughtTo 19 = .ok (.iadd, 1) := by decide +kernel
theorem dX12_broughtTo_20 : decode cX12_broughtTo 20 = .ok (.iaload, 1) := by decide +kernel
theorem dX12_broughtTo_21 : decode cX12_broughtTo 21 = .ok (.istore 4, 2) := by decide +kernel
theorem dX12_broughtTo_23 : decode cX12_broughtTo 23 = .ok (.aload_n 0, 1) := by decide +kernel
theorem dX12_broughtTo_24 : decode cX12_broughtTo 24 = .ok (.getfield 26, 3) := by decide +kernel
theorem dX12_broughtTo_27 : decode cX12_broughtTo 27 = .ok (.iconst 3, 1) := by decide +kernel
theorem dX12_broughtTo_28 : decode cX12_broughtTo 28 = .ok (.iload_n 1, 1) := by decide +kernel
theorem dX12_broughtTo_29 : decode cX12_broughtTo 29 = .ok (.imul, 1) := by decide +kernel
theorem dX12_broughtTo_30 : decode cX12_broughtTo 30 = .ok (.iaload, 1) := by decide +kernel
theorem dX12_broughtTo_31 : decode cX12_broughtTo 31 = .ok (.tableswitch 65 0 2 #[25, 34, 43], 25) := by decide +kernel
theorem dX12_broughtTo_56 : decode cX12_broughtTo 56 = .ok (.iload_n 2, 1) := by decide +kernel
theorem dX12_broughtTo_57 : decode cX12_broughtTo 57 = .ok (.iload_n 3, 1) := by decide +kernel
theorem dX12_broughtTo_58 : decode cX12_broughtTo 58 = .ok (.iadd, 1) := by decide +kernel
theorem dX12_broughtTo_59 : decode cX12_broughtTo 59 = .ok (.aload_n 0, 1) := by decide +kernel
theorem dX12_broughtTo_60 : decode cX12_broughtTo 60 = .ok (.getfield 87, 3) := by decide +kernel
theorem dX12_broughtTo_63 : decode cX12_broughtTo 63 = .ok (.irem, 1) := by decide +kernel
theorem dX12_broughtTo_64 : decode cX12_broughtTo 64 = .ok (.ireturn, 1) := by decide +kernel
theorem dX12_broughtTo_65 : decode cX12_broughtTo 65 = .ok (.aload_n 0, 1) := by decide +kernel
theorem dX12_broughtTo_66 : decode cX12_broughtTo 66 = .ok (.getfield 87, 3) := by decide +kernel
theorem dX12_broughtTo_69 : decode cX12_broughtTo 69 = .ok (.iconst 1, 1) := by decide +kernel
theorem dX12_broughtTo_70 : decode cX12_broughtTo 70 = .ok (.isub, 1) := by decide +kernel
theorem dX12_broughtTo_71 : decode cX12_broughtTo 71 = .ok (.iload_n 2, 1) := by decide +kernel
theorem dX12_broughtTo_72 : decode cX12_broughtTo 72 = .ok (.isub, 1) := by decide +kernel
theorem dX12_broughtTo_73 : decode cX12_broughtTo 73 = .ok (.ireturn, 1) := by decide +kernel
theorem dX12_broughtTo_74 : decode cX12_broughtTo 74 = .ok (.iload_n 2, 1) := by decide +kernel
theorem dX12_broughtTo_75 : decode cX12_broughtTo 75 = .ok (.iload_n 3, 1) := by decide +kernel
theorem dX12_broughtTo_76 : decode cX12_broughtTo 76 = .ok (.if_icmp .ne 8, 3) := by decide +kernel
theorem dX12_broughtTo_79 : decode cX12_broughtTo 79 = .ok (.iload 4, 2) := by decide +kernel
theorem dX12_broughtTo_81 : decode cX12_broughtTo 81 = .ok (.goto 14, 3) := by decide +kernel
theorem dX12_broughtTo_84 : decode cX12_broughtTo 84 = .ok (.iload_n 2, 1) := by decide +kernel
theorem dX12_broughtTo_85 : decode cX12_broughtTo 85 = .ok (.iload 4, 2) := by decide +kernel
theorem dX12_broughtTo_87 : decode cX12_broughtTo 87 = .ok (.if_icmp .ne 7, 3) := by decide +kernel
theorem dX12_broughtTo_90 : decode cX12_broughtTo 90 = .ok (.iload_n 3, 1) := by decide +kernel
theorem dX12_broughtTo_91 : decode cX12_broughtTo 91 = .ok (.goto 4, 3) := by decide +kernel
theorem dX12_broughtTo_94 : decode cX12_broughtTo 94 = .ok (.iload_n 2, 1) := by decide +kernel
theorem dX12_broughtTo_95 : decode cX12_broughtTo 95 = .ok (.ireturn, 1) := by decide +kernel
theorem dX12_broughtTo_96 : decode cX12_broughtTo 96 = .ok (.iload_n 2, 1) := by decide +kernel
theorem dX12_broughtTo_97 : decode cX12_broughtTo 97 = .ok (.iload_n 3, 1) := by decide +kernel
