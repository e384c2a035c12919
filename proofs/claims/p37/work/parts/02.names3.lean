theorem dX11_firm_60 : decode cX11_firm 60 = .ok (.ior, 1) := op_128 kcX11_firm (Nat.le_of_ble_eq_true rfl) rfl
theorem dX11_firm_61 : decode cX11_firm 61 = .ok (.istore_n 2, 1) := op_61 kcX11_firm (Nat.le_of_ble_eq_true rfl) rfl
theorem dX11_firm_62 : decode cX11_firm 62 = .ok (.iinc 3 1, 3) := by decide +kernel
theorem dX11_firm_65 : decode cX11_firm 65 = .ok (.goto (-33), 3) := op_167 (a := 255) (b := 223) kcX11_firm (Nat.le_of_ble_eq_true rfl) rfl rfl rfl (by decide)
theorem dX11_firm_68 : decode cX11_firm 68 = .ok (.iload_n 2, 1) := op_28 kcX11_firm (Nat.le_of_ble_eq_true rfl) rfl
theorem dX11_firm_69 : decode cX11_firm 69 = .ok (.ireturn, 1) := op_172 kcX11_firm (Nat.le_of_ble_eq_true rfl) rfl
set_option maxRecDepth 20000 in
theorem ggX11_see_X6_hasSeat : GoodIn wsX11_see wsX6_hasSeat := goodIn_r _ [9, 10, 35, 36, 37, 38, 39, 40, 41] rfl gw_wsX6_hasSeat
set_option maxRecDepth 20000 in
theorem gX11_see_X6_hasSeat : GoodIn wsX11_see (wsV RX11 145 RX6 yX6_hasSeat wsX6_hasSeat) := goodIn_app (goodIn_of _ (by decide +kernel)) ggX11_see_X6_hasSeat
theorem kcX11_see : (cX11_see).data.toList = cbs 0xacf700b41300b42af700b56004f700b4591300b42a4f1bf700b41300b42afa00b41300b42aacfd100600a10610f700b41300b42aac0205009a9100b61b0a00b42a 65 := by decide +kernel
theorem dX11_see_0 : decode cX11_see 0 = .ok (.aload_n 0, 1) := op_42 kcX11_see (Nat.le_of_ble_eq_true rfl) rfl
theorem dX11_see_1 : decode cX11_see 1 = .ok (.getfield 10, 3) := op_180 (a := 0) (b := 10) kcX11_see (Nat.le_of_ble_eq_true rfl) rfl rfl rfl
theorem dX11_see_4 : decode cX11_see 4 = .ok (.iload_n 1, 1) := op_27 kcX11_see (Nat.le_of_ble_eq_true rfl) rfl
theorem dX11_see_5 : decode cX11_see 5 = .ok (.invokevirtual 145, 3) := op_182 (a := 0) (b := 145) kcX11_see (Nat.le_of_ble_eq_true rfl) rfl rfl rfl
theorem dX11_see_8 : decode cX11_see 8 = .ok (.ifCond .ne 5, 3) := op_154 (a := 0) (b := 5) kcX11_see (Nat.le_of_ble_eq_true rfl) rfl rfl rfl (by decide)
theorem dX11_see_11 : decode cX11_see 11 = .ok (.iconst (-1), 1) := op_2 kcX11_see (Nat.le_of_ble_eq_true rfl) rfl
theorem dX11_see_12 : decode cX11_see 12 = .ok (.ireturn, 1) := op_172 kcX11_see (Nat.le_of_ble_eq_true rfl) rfl
theorem dX11_see_13 : decode cX11_see 13 = .ok (.aload_n 0, 1) := op_42 kcX11_see (Nat.le_of_ble_eq_true rfl) rfl
theorem dX11_see_14 : decode cX11_see 14 = .ok (.getfield 19, 3) := op_180 (a := 0) (b := 19) kcX11_see (Nat.le_of_ble_eq_true rfl) rfl rfl rfl
theorem dX11_see_17 : decode cX11_see 17 = .ok (.getfield 247, 3) := op_180 (a := 0) (b := 247) kcX11_see (Nat.le_of_ble_eq_true rfl) rfl rfl rfl
theorem dX11_see_20 : decode cX11_see 20 = .ok (.bipush 6, 2) := op_16 (a := 6) kcX11_see (Nat.le_of_ble_eq_true rfl) rfl rfl (by decide)
theorem dX11_see_22 : decode cX11_see 22 = .ok (.if_icmp .lt 6, 3) := op_161 (a := 0) (b := 6) kcX11_see (Nat.le_of_ble_eq_true rfl) rfl rfl rfl (by decide)
theorem dX11_see_25 : decode cX11_see 25 = .ok (.bipush (-3), 2) := op_16 (a := 253) kcX11_see (Nat.le_of_ble_eq_true rfl) rfl rfl (by decide)
theorem dX11_see_27 : decode cX11_see 27 = .ok (.ireturn, 1) := op_172 kcX11_see (Nat.le_of_ble_eq_true rfl) rfl
theorem dX11_see_28 : decode cX11_see 28 = .ok (.aload_n 0, 1) := op_42 kcX11_see (Nat.le_of_ble_eq_true rfl) rfl
theorem dX11_see_29 : decode cX11_see 29 = .ok (.getfield 19, 3) := op_180 (a := 0) (b := 19) kcX11_see (Nat.le_of_ble_eq_true rfl) rfl rfl rfl
theorem dX11_see_32 : decode cX11_see 32 = .ok (.getfield 250, 3) := op_180 (a := 0) (b := 250) kcX11_see (Nat.le_of_ble_eq_true rfl) rfl rfl rfl
theorem dX11_see_35 : decode cX11_see 35 = .ok (.aload_n 0, 1) := op_42 kcX11_see (Nat.le_of_ble_eq_true rfl) rfl
theorem dX11_see_36 : decode cX11_see 36 = .ok (.getfield 19, 3) := op_180 (a := 0) (b := 19) kcX11_see (Nat.le_of_ble_eq_true rfl) rfl rfl rfl
theorem dX11_see_39 : decode cX11_see 39 = .ok (.getfield 247, 3) := op_180 (a := 0) (b := 247) kcX11_see (Nat.le_of_ble_eq_true rfl) rfl rfl rfl
theorem dX11_see_42 : decode cX11_see 42 = .ok (.iload_n 1, 1) := op_27 kcX11_see (Nat.le_of_ble_eq_true rfl) rfl
theorem dX11_see_43 : decode cX11_see 43 = .ok (.iastore, 1) := op_79 kcX11_see (Nat.le_of_ble_eq_true rfl) rfl
theorem dX11_see_44 : decode cX11_see 44 = .ok (.aload_n 0, 1) := op_42 kcX11_see (Nat.le_of_ble_eq_true rfl) rfl
theorem dX11_see_45 : decode cX11_see 45 = .ok (.getfield 19, 3) := op_180 (a := 0) (b := 19) kcX11_see (Nat.le_of_ble_eq_true rfl) rfl rfl rfl
theorem dX11_see_48 : decode cX11_see 48 = .ok (.dup, 1) := op_89 kcX11_see (Nat.le_of_ble_eq_true rfl) rfl
theorem dX11_see_49 : decode cX11_see 49 = .ok (.getfield 247, 3) := op_180 (a := 0) (b := 247) kcX11_see (Nat.le_of_ble_eq_true rfl) rfl rfl rfl
theorem dX11_see_52 : decode cX11_see 52 = .ok (.iconst 1, 1) := op_4 kcX11_see (Nat.le_of_ble_eq_true rfl) rfl
theorem dX11_see_53 : decode cX11_see 53 = .ok (.iadd, 1) := op_96 kcX11_see (Nat.le_of_ble_eq_true rfl) rfl
theorem dX11_see_54 : decode cX11_see 54 = .ok (.putfield 247, 3) := op_181 (a := 0) (b := 247) kcX11_see (Nat.le_of_ble_eq_true rfl) rfl rfl rfl
theorem dX11_see_57 : decode cX11_see 57 = .ok (.aload_n 0, 1) := op_42 kcX11_see (Nat.le_of_ble_eq_true rfl) rfl
theorem dX11_see_58 : decode cX11_see 58 = .ok (.getfield 19, 3) := op_180 (a := 0) (b := 19) kcX11_see (Nat.le_of_ble_eq_true rfl) rfl rfl rfl
theorem dX11_see_61 : decode cX11_see 61 = .ok (.getfield 247, 3) := op_180 (a := 0) (b := 247) kcX11_see (Nat.le_of_ble_eq_true rfl) rfl rfl rfl
theorem dX11_see_64 : decode cX11_see 64 = .ok (.ireturn, 1) := op_172 kcX11_see (Nat.le_of_ble_eq_true rfl) rfl
theorem kcX11_forget : (cX11_forget).data.toList = cbs 0xac1cf700b51b1300b42a3df700b41300b42aac020500a4f700b41300b42a1b0e009b1b 35 := by decide +kernel
theorem dX11_forget_0 : decode cX11_forget 0 = .ok (.iload_n 1, 1) := op_27 kcX11_forget (Nat.le_of_ble_eq_true rfl) rfl
theorem dX11_forget_1 : decode cX11_forget 1 = .ok (.ifCond .lt 14, 3) := op_155 (a := 0) (b := 14) kcX11_forget (Nat.le_of_ble_eq_true rfl) rfl rfl rfl (by decide)
theorem dX11_forget_4 : decode cX11_forget 4 = .ok (.iload_n 1, 1) := op_27 kcX11_forget (Nat.le_of_ble_eq_true rfl) rfl
theorem dX11_forget_5 : decode cX11_forget 5 = .ok (.aload_n 0, 1) := op_42 kcX11_forget (Nat.le_of_ble_eq_true rfl) rfl
theorem dX11_forget_6 : decode cX11_forget 6 = .ok (.getfield 19, 3) := op_180 (a := 0) (b := 19) kcX11_forget (Nat.le_of_ble_eq_true rfl) rfl rfl rfl
theorem dX11_forget_9 : decode cX11_forget 9 = .ok (.getfield 247, 3) := op_180 (a := 0) (b := 247) kcX11_forget (Nat.le_of_ble_eq_true rfl) rfl rfl rfl
theorem dX11_forget_12 : decode cX11_forget 12 = .ok (.if_icmp .le 5, 3) := op_164 (a := 0) (b := 5) kcX11_forget (Nat.le_of_ble_eq_true rfl) rfl rfl rfl (by decide)
theorem dX11_forget_15 : decode cX11_forget 15 = .ok (.iconst (-1), 1) := op_2 kcX11_forget (Nat.le_of_ble_eq_true rfl) rfl
theorem dX11_forget_16 : decode cX11_forget 16 = .ok (.ireturn, 1) := op_172 kcX11_forget (Nat.le_of_ble_eq_true rfl) rfl
theorem dX11_forget_17 : decode cX11_forget 17 = .ok (.aload_n 0, 1) := op_42 kcX11_forget (Nat.le_of_ble_eq_true rfl) rfl
theorem dX11_forget_18 : decode cX11_forget 18 = .ok (.getfield 19, 3) := op_180 (a := 0) (b := 19) kcX11_forget (Nat.le_of_ble_eq_true rfl) rfl rfl rfl
theorem dX11_forget_21 : decode cX11_forget 21 = .ok (.getfield 247, 3) := op_180 (a := 0) (b := 247) kcX11_forget (Nat.le_of_ble_eq_true rfl) rfl rfl rfl
theorem dX11_forget_24 : decode cX11_forget 24 = .ok (.istore_n 2, 1) := op_61 kcX11_forget (Nat.le_of_ble_eq_true rfl) rfl
theorem dX11_forget_25 : decode cX11_forget 25 = .ok (.aload_n 0, 1) := op_42 kcX11_forget (Nat.le_of_ble_eq_true rfl) rfl
theorem dX11_forget_26 : decode cX11_forget 26 = .ok (.getfield 19, 3) := op_180 (a := 0) (b := 19) kcX11_forget (Nat.le_of_ble_eq_true rfl) rfl rfl rfl
theorem dX11_forget_29 : decode cX11_forget 29 = .ok (.iload_n 1, 1) := op_27 kcX11_forget (Nat.le_of_ble_eq_true rfl) rfl
theorem dX11_forget_30 : decode cX11_forget 30 = .ok (.putfield 247, 3) := op_181 (a := 0) (b := 247) kcX11_forget (Nat.le_of_ble_eq_true rfl) rfl rfl rfl
theorem dX11_forget_33 : decode cX11_forget 33 = .ok (.iload_n 2, 1) := op_28 kcX11_forget (Nat.le_of_ble_eq_true rfl) rfl
theorem dX11_forget_34 : decode cX11_forget 34 = .ok (.ireturn, 1) := op_172 kcX11_forget (Nat.le_of_ble_eq_true rfl) rfl
set_option maxRecDepth 20000 in
theorem ggX11_histories_X11_isRowQuestion : GoodIn wsX11_histories wsX11_isRowQuestion := goodIn_r _ [5] rfl gw_wsX11_isRowQuestion
set_option maxRecDepth 20000 in
theorem gX11_histories_X11_isRowQuestion : GoodIn wsX11_histories (va_wsS RX11 221 yX11_isRowQuestion wsX11_isRowQuestion) := goodIn_app (goodIn_of _ (by decide +kernel)) ggX11_histories_X11_isRowQuestion
set_option maxRecDepth 20000 in
theorem ggX11_histories_X4_howMany : GoodIn wsX11_histories wsX4_howMany := goodIn_r _ [10, 11, 12, 13, 14, 15, 16, 17, 18, 19, 20, 21, 22, 23, 24, 25, 26, 27, 28, 29, 30, 31, 32, 33, 34, 35, 36, 37, 38, 39, 40, 41, 42, 43, 44, 45, 46, 9, 47, 48, 49, 50, 51, 52, 53, 54, 55, 56, 57, 58, 59, 60, 61, 86, 87, 88, 89, 90, 91, 92, 93, 94, 95, 96, 97, 98, 99, 100, 101, 102, 103, 104, 105, 106, 107, 108] rfl gw_wsX4_howMany
set_option maxRecDepth 20000 in
theorem gX11_histories_X4_howMany : GoodIn wsX11_histories (wsV RX11 253 RX4 yX4_howMany wsX4_howMany) := goodIn_app (goodIn_of _ (by decide +kernel)) ggX11_histories_X4_howMany
set_option maxRecDepth 20000 in
theorem gw_wsX4_firstStirOfDay : (wsX4_firstStirOfDay).all goodWord = true := by decide +kernel
set_option maxRecDepth 20000 in
theorem ggX11_histories_X4_firstStirOfDay : GoodIn wsX11_histories wsX4_firstStirOfDay := goodIn_r _ [65, 11, 48, 49, 66, 67, 68, 9, 69, 12, 15, 17, 70, 7, 8, 10, 13, 14, 16, 18, 19, 20, 21, 22, 23, 24, 25, 26, 27, 28, 29, 30, 31, 32, 33, 34, 35, 36, 37, 38, 39, 40, 41, 42, 43, 44, 45, 46, 47, 50, 51, 52, 53, 54, 55, 56, 57, 58, 59, 60, 61, 86, 87, 88, 89, 90, 91, 92, 102, 103, 104, 105, 106, 107, 108, 93, 94, 95, 96, 97, 98, 99, 100, 101] rfl gw_wsX4_firstStirOfDay
set_option maxRecDepth 20000 in
theorem gX11_histories_X4_firstStirOfDay : GoodIn wsX11_histories (wsV RX11 256 RX4 yX4_firstStirOfDay wsX4_firstStirOfDay) := goodIn_app (goodIn_of _ (by decide +kernel)) ggX11_histories_X4_firstStirOfDay
theorem kcX11_histories : (cX11_histories).data.toList = cbs 0xac0001b6640a101b4a00b42a0e00a7fd00b64a00b42a0d009a1bac0205009add00b806101b 37 := by decide +kernel
theorem dX11_histories_0 : decode cX11_histories 0 = .ok (.iload_n 1, 1) := op_27 kcX11_histories (Nat.le_of_ble_eq_true rfl) rfl
theorem dX11_histories_1 : decode cX11_histories 1 = .ok (.bipush 6, 2) := op_16 (a := 6) kcX11_histories (Nat.le_of_ble_eq_true rfl) rfl rfl (by decide)
theorem dX11_histories_3 : decode cX11_histories 3 = .ok (.invokestatic 221, 3) := op_184 (a := 0) (b := 221) kcX11_histories (Nat.le_of_ble_eq_true rfl) rfl rfl rfl
theorem dX11_histories_6 : decode cX11_histories 6 = .ok (.ifCond .ne 5, 3) := op_154 (a := 0) (b := 5) kcX11_histories (Nat.le_of_ble_eq_true rfl) rfl rfl rfl (by decide)
theorem dX11_histories_9 : decode cX11_histories 9 = .ok (.iconst (-1), 1) := op_2 kcX11_histories (Nat.le_of_ble_eq_true rfl) rfl
theorem dX11_histories_10 : decode cX11_histories 10 = .ok (.ireturn, 1) := op_172 kcX11_histories (Nat.le_of_ble_eq_true rfl) rfl
theorem dX11_histories_11 : decode cX11_histories 11 = .ok (.iload_n 1, 1) := op_27 kcX11_histories (Nat.le_of_ble_eq_true rfl) rfl
theorem dX11_histories_12 : decode cX11_histories 12 = .ok (.ifCond .ne 13, 3) := op_154 (a := 0) (b := 13) kcX11_histories (Nat.le_of_ble_eq_true rfl) rfl rfl rfl (by decide)
theorem dX11_histories_15 : decode cX11_histories 15 = .ok (.aload_n 0, 1) := op_42 kcX11_histories (Nat.le_of_ble_eq_true rfl) rfl
theorem dX11_histories_16 : decode cX11_histories 16 = .ok (.getfield 74, 3) := op_180 (a := 0) (b := 74) kcX11_histories (Nat.le_of_ble_eq_true rfl) rfl rfl rfl
theorem dX11_histories_19 : decode cX11_histories 19 = .ok (.invokevirtual 253, 3) := op_182 (a := 0) (b := 253) kcX11_histories (Nat.le_of_ble_eq_true rfl) rfl rfl rfl
theorem dX11_histories_22 : decode cX11_histories 22 = .ok (.goto 14, 3) := op_167 (a := 0) (b := 14) kcX11_histories (Nat.le_of_ble_eq_true rfl) rfl rfl rfl (by decide)
theorem dX11_histories_25 : decode cX11_histories 25 = .ok (.aload_n 0, 1) := op_42 kcX11_histories (Nat.le_of_ble_eq_true rfl) rfl
theorem dX11_histories_26 : decode cX11_histories 26 = .ok (.getfield 74, 3) := op_180 (a := 0) (b := 74) kcX11_histories (Nat.le_of_ble_eq_true rfl) rfl rfl rfl
theorem dX11_histories_29 : decode cX11_histories 29 = .ok (.iload_n 1, 1) := op_27 kcX11_histories (Nat.le_of_ble_eq_true rfl) rfl
theorem dX11_histories_30 : decode cX11_histories 30 = .ok (.bipush 10, 2) := op_16 (a := 10) kcX11_histories (Nat.le_of_ble_eq_true rfl) rfl rfl (by decide)
theorem dX11_histories_32 : decode cX11_histories 32 = .ok (.isub, 1) := op_100 kcX11_histories (Nat.le_of_ble_eq_true rfl) rfl
theorem dX11_histories_33 : decode cX11_histories 33 = .ok (.invokevirtual 256, 3) := op_182 (a := 1) (b := 0) kcX11_histories (Nat.le_of_ble_eq_true rfl) rfl rfl rfl
theorem dX11_histories_36 : decode cX11_histories 36 = .ok (.ireturn, 1) := op_172 kcX11_histories (Nat.le_of_ble_eq_true rfl) rfl
set_option maxRecDepth 20000 in
theorem ggX11_could_X4_stirsOfDay : GoodIn wsX11_could wsX4_stirsOfDay := goodIn_r _ [8, 9, 10, 11, 12, 13, 14, 15, 7, 16, 17, 18, 19, 20, 21, 22, 23, 24, 25, 26, 27, 28, 29, 30, 31, 32, 33, 34, 35, 36, 37, 38, 39, 40, 41, 42, 43, 44, 45, 46, 47, 48, 49, 50, 51, 52, 53, 54, 55, 56, 57, 58, 59, 60, 61, 62, 63, 88, 89, 90, 91, 92, 93, 94, 79, 80, 81, 82, 83, 84, 85, 86, 87, 95, 96, 97, 98, 99, 100, 101] rfl gw_wsX4_stirsOfDay
set_option maxRecDepth 20000 in
theorem gX11_could_X4_stirsOfDay : GoodIn wsX11_could (wsV RX11 259 RX4 yX4_stirsOfDay wsX4_stirsOfDay) := goodIn_app (goodIn_of _ (by decide +kernel)) ggX11_could_X4_stirsOfDay
theorem kcX11_could : (cX11_could).data.toList = cbs 0xac0301b61b4a00b42aac020500a1f700b41300b42a1b0e009b1b 26 := by decide +kernel
theorem dX11_could_0 : decode cX11_could 0 = .ok (.iload_n 1, 1) := op_27 kcX11_could (Nat.le_of_ble_eq_true rfl) rfl
theorem dX11_could_1 : decode cX11_could 1 = .ok (.ifCond .lt 14, 3) := op_155 (a := 0) (b := 14) kcX11_could (Nat.le_of_ble_eq_true rfl) rfl rfl rfl (by decide)
theorem dX11_could_4 : decode cX11_could 4 = .ok (.iload_n 1, 1) := op_27 kcX11_could (Nat.le_of_ble_eq_true rfl) rfl
theorem dX11_could_5 : decode cX11_could 5 = .ok (.aload_n 0, 1) := op_42 kcX11_could (Nat.le_of_ble_eq_true rfl) rfl
theorem dX11_could_6 : decode cX11_could 6 = .ok (.getfield 19, 3) := op_180 (a := 0) (b := 19) kcX11_could (Nat.le_of_ble_eq_true rfl) rfl rfl rfl
theorem dX11_could_9 : decode cX11_could 9 = .ok (.getfield 247, 3) := op_180 (a := 0) (b := 247) kcX11_could (Nat.le_of_ble_eq_true rfl) rfl rfl rfl
theorem dX11_could_12 : decode cX11_could 12 = .ok (.if_icmp .lt 5, 3) := op_161 (a := 0) (b := 5) kcX11_could (Nat.le_of_ble_eq_true rfl) rfl rfl rfl (by decide)
theorem dX11_could_15 : decode cX11_could 15 = .ok (.iconst (-1), 1) := op_2 kcX11_could (Nat.le_of_ble_eq_true rfl) rfl
theorem dX11_could_16 : decode cX11_could 16 = .ok (.ireturn, 1) := op_172 kcX11_could (Nat.le_of_ble_eq_true rfl) rfl
theorem dX11_could_17 : decode cX11_could 17 = .ok (.aload_n 0, 1) := op_42 kcX11_could (Nat.le_of_ble_eq_true rfl) rfl
theorem dX11_could_18 : decode cX11_could 18 = .ok (.getfield 74, 3) := op_180 (a := 0) (b := 74) kcX11_could (Nat.le_of_ble_eq_true rfl) rfl rfl rfl
theorem dX11_could_21 : decode cX11_could 21 = .ok (.iload_n 1, 1) := op_27 kcX11_could (Nat.le_of_ble_eq_true rfl) rfl
theorem dX11_could_22 : decode cX11_could 22 = .ok (.invokevirtual 259, 3) := op_182 (a := 1) (b := 3) kcX11_could (Nat.le_of_ble_eq_true rfl) rfl rfl rfl
theorem dX11_could_25 : decode cX11_could 25 = .ok (.ireturn, 1) := op_172 kcX11_could (Nat.le_of_ble_eq_true rfl) rfl
set_option maxRecDepth 20000 in
theorem ggX11_blind_X11_isPart : GoodIn wsX11_blind wsX11_isPart := goodIn_r _ [8] rfl gw_wsX11_isPart
set_option maxRecDepth 20000 in
theorem gX11_blind_X11_isPart : GoodIn wsX11_blind (va_wsS RX11 199 yX11_isPart wsX11_isPart) := goodIn_app (goodIn_of _ (by decide +kernel)) ggX11_blind_X11_isPart
set_option maxRecDepth 20000 in
theorem gw_wsX3_triesWithFinds : (wsX3_triesWithFinds).all goodWord = true := by decide +kernel
set_option maxRecDepth 20000 in
theorem ggX11_blind_X3_triesWithFinds : GoodIn wsX11_blind wsX3_triesWithFinds := goodIn_r _ [13, 14, 15, 16, 17, 18, 19, 20, 21, 53, 54, 55, 56, 57, 58, 59, 60, 61, 46, 47, 48, 49, 50, 51, 52] rfl gw_wsX3_triesWithFinds
set_option maxRecDepth 20000 in
theorem gX11_blind_X3_triesWithFinds : GoodIn wsX11_blind (wsV RX11 262 RX3 yX3_triesWithFinds wsX3_triesWithFinds) := goodIn_app (goodIn_of _ (by decide +kernel)) ggX11_blind_X3_triesWithFinds
set_option maxRecDepth 20000 in
theorem ggX11_blind_X3_power : GoodIn wsX11_blind wsX3_power := goodIn_r _ [24] rfl gw_wsX3_power
set_option maxRecDepth 20000 in
theorem gX11_blind_X3_power : GoodIn wsX11_blind (va_wsS RX11 210 yX3_power wsX3_power) := goodIn_app (goodIn_of _ (by decide +kernel)) ggX11_blind_X3_power
set_option maxRecDepth 20000 in
theorem ggX11_blind_X3_part : GoodIn wsX11_blind wsX3_part := goodIn_r _ [27, 28, 29, 12, 30] rfl gw_wsX3_part
set_option maxRecDepth 20000 in
theorem gX11_blind_X3_part : GoodIn wsX11_blind (va_wsS RX11 213 yX3_part wsX3_part) := goodIn_app (goodIn_of _ (by decide +kernel)) ggX11_blind_X3_part
theorem kcX11_blind : (cX11_blind).data.toList = cbs 0xadd500b81dd200b81c8200b40a00b42a0601b61c1b3500b42aadca001407009ac700b81d0a00a31c1b0f009b1b1300a30c101c1900a1041c 56 := by decide +kernel
theorem dX11_blind_0 : decode cX11_blind 0 = .ok (.iload_n 2, 1) := op_28 kcX11_blind (Nat.le_of_ble_eq_true rfl) rfl
theorem dX11_blind_1 : decode cX11_blind 1 = .ok (.iconst 1, 1) := op_4 kcX11_blind (Nat.le_of_ble_eq_true rfl) rfl
theorem dX11_blind_2 : decode cX11_blind 2 = .ok (.if_icmp .lt 25, 3) := op_161 (a := 0) (b := 25) kcX11_blind (Nat.le_of_ble_eq_true rfl) rfl rfl rfl (by decide)
theorem dX11_blind_5 : decode cX11_blind 5 = .ok (.iload_n 2, 1) := op_28 kcX11_blind (Nat.le_of_ble_eq_true rfl) rfl
theorem dX11_blind_6 : decode cX11_blind 6 = .ok (.bipush 12, 2) := op_16 (a := 12) kcX11_blind (Nat.le_of_ble_eq_true rfl) rfl rfl (by decide)
theorem dX11_blind_8 : decode cX11_blind 8 = .ok (.if_icmp .gt 19, 3) := op_163 (a := 0) (b := 19) kcX11_blind (Nat.le_of_ble_eq_true rfl) rfl rfl rfl (by decide)
theorem dX11_blind_11 : decode cX11_blind 11 = .ok (.iload_n 1, 1) := op_27 kcX11_blind (Nat.le_of_ble_eq_true rfl) rfl
theorem dX11_blind_12 : decode cX11_blind 12 = .ok (.ifCond .lt 15, 3) := op_155 (a := 0) (b := 15) kcX11_blind (Nat.le_of_ble_eq_true rfl) rfl rfl rfl (by decide)
theorem dX11_blind_15 : decode cX11_blind 15 = .ok (.iload_n 1, 1) := op_27 kcX11_blind (Nat.le_of_ble_eq_true rfl) rfl
theorem dX11_blind_16 : decode cX11_blind 16 = .ok (.iload_n 2, 1) := op_28 kcX11_blind (Nat.le_of_ble_eq_true rfl) rfl
theorem dX11_blind_17 : decode cX11_blind 17 = .ok (.if_icmp .gt 10, 3) := op_163 (a := 0) (b := 10) kcX11_blind (Nat.le_of_ble_eq_true rfl) rfl rfl rfl (by decide)
theorem dX11_blind_20 : decode cX11_blind 20 = .ok (.iload_n 3, 1) := op_29 kcX11_blind (Nat.le_of_ble_eq_true rfl) rfl
theorem dX11_blind_21 : decode cX11_blind 21 = .ok (.invokestatic 199, 3) := op_184 (a := 0) (b := 199) kcX11_blind (Nat.le_of_ble_eq_true rfl) rfl rfl rfl
theorem dX11_blind_24 : decode cX11_blind 24 = .ok (.ifCond .ne 7, 3) := op_154 (a := 0) (b := 7) kcX11_blind (Nat.le_of_ble_eq_true rfl) rfl rfl rfl (by decide)
theorem dX11_blind_27 : decode cX11_blind 27 = .ok (.ldc2_w 202, 3) := op_20 (a := 0) (b := 202) kcX11_blind (Nat.le_of_ble_eq_true rfl) rfl rfl rfl
theorem dX11_blind_30 : decode cX11_blind 30 = .ok (.lreturn, 1) := op_173 kcX11_blind (Nat.le_of_ble_eq_true rfl) rfl
theorem dX11_blind_31 : decode cX11_blind 31 = .ok (.aload_n 0, 1) := op_42 kcX11_blind (Nat.le_of_ble_eq_true rfl) rfl
theorem dX11_blind_32 : decode cX11_blind 32 = .ok (.getfield 53, 3) := op_180 (a := 0) (b := 53) kcX11_blind (Nat.le_of_ble_eq_true rfl) rfl rfl rfl
theorem dX11_blind_35 : decode cX11_blind 35 = .ok (.iload_n 1, 1) := op_27 kcX11_blind (Nat.le_of_ble_eq_true rfl) rfl
theorem dX11_blind_36 : decode cX11_blind 36 = .ok (.iload_n 2, 1) := op_28 kcX11_blind (Nat.le_of_ble_eq_true rfl) rfl
theorem dX11_blind_37 : decode cX11_blind 37 = .ok (.invokevirtual 262, 3) := op_182 (a := 1) (b := 6) kcX11_blind (Nat.le_of_ble_eq_true rfl) rfl rfl rfl
theorem dX11_blind_40 : decode cX11_blind 40 = .ok (.aload_n 0, 1) := op_42 kcX11_blind (Nat.le_of_ble_eq_true rfl) rfl
theorem dX11_blind_41 : decode cX11_blind 41 = .ok (.getfield 10, 3) := op_180 (a := 0) (b := 10) kcX11_blind (Nat.le_of_ble_eq_true rfl) rfl rfl rfl
theorem dX11_blind_44 : decode cX11_blind 44 = .ok (.getfield 130, 3) := op_180 (a := 0) (b := 130) kcX11_blind (Nat.le_of_ble_eq_true rfl) rfl rfl rfl
theorem dX11_blind_47 : decode cX11_blind 47 = .ok (.iload_n 2, 1) := op_28 kcX11_blind (Nat.le_of_ble_eq_true rfl) rfl
theorem dX11_blind_48 : decode cX11_blind 48 = .ok (.invokestatic 210, 3) := op_184 (a := 0) (b := 210) kcX11_blind (Nat.le_of_ble_eq_true rfl) rfl rfl rfl
theorem dX11_blind_51 : decode cX11_blind 51 = .ok (.iload_n 3, 1) := op_29 kcX11_blind (Nat.le_of_ble_eq_true rfl) rfl
theorem dX11_blind_52 : decode cX11_blind 52 = .ok (.invokestatic 213, 3) := op_184 (a := 0) (b := 213) kcX11_blind (Nat.le_of_ble_eq_true rfl) rfl rfl rfl
theorem dX11_blind_55 : decode cX11_blind 55 = .ok (.lreturn, 1) := op_173 kcX11_blind (Nat.le_of_ble_eq_true rfl) rfl
set_option maxRecDepth 20000 in
theorem ggX11_fair_X11_isRowQuestion : GoodIn wsX11_fair wsX11_isRowQuestion := goodIn_r _ [8] rfl gw_wsX11_isRowQuestion
set_option maxRecDepth 20000 in
theorem gX11_fair_X11_isRowQuestion : GoodIn wsX11_fair (va_wsS RX11 221 yX11_isRowQuestion wsX11_isRowQuestion) := goodIn_app (goodIn_of _ (by decide +kernel)) ggX11_fair_X11_isRowQuestion
set_option maxRecDepth 20000 in
theorem gw_wsX1_leastSpread : (wsX1_leastSpread).all goodWord = true := by decide +kernel
set_option maxRecDepth 20000 in
theorem ggX11_fair_X1_leastSpread : GoodIn wsX11_fair wsX1_leastSpread := goodIn_r _ [13, 14, 15, 16, 17, 18, 19, 20, 21, 22, 12, 23, 24, 25, 26, 27, 28, 29, 30, 31, 32, 33, 34, 35, 36, 37, 38, 39, 40, 41, 42, 43, 44, 45, 46, 47, 48, 49, 50, 51, 52, 53, 54, 55, 56, 57, 58, 59, 60, 61, 62, 63, 64, 65, 66, 67, 68, 69, 70, 71, 72, 73, 74, 75, 76, 77, 78, 79, 80, 81, 82, 83, 84, 85, 86, 87, 88, 89, 90, 91, 92, 93, 94, 95, 96, 97, 98, 99, 125, 126, 127, 128, 129, 130, 131, 132, 133, 134, 135, 136, 137, 138, 139, 140, 141, 142, 143, 144, 145, 146, 147, 118, 119, 120, 121, 122, 123, 124] rfl gw_wsX1_leastSpread
set_option maxRecDepth 20000 in
theorem gX11_fair_X1_leastSpread : GoodIn wsX11_fair (wsV RX11 265 RX1 yX1_leastSpread wsX1_leastSpread) := goodIn_app (goodIn_of _ (by decide +kernel)) ggX11_fair_X1_leastSpread
set_option maxRecDepth 20000 in
theorem ggX11_fair_X11_ofRow : GoodIn wsX11_fair wsX11_ofRow := goodIn_r _ [102] rfl gw_wsX11_ofRow
set_option maxRecDepth 20000 in
theorem gX11_fair_X11_ofRow : GoodIn wsX11_fair (va_wsS RX11 231 yX11_ofRow wsX11_ofRow) := goodIn_app (goodIn_of _ (by decide +kernel)) ggX11_fair_X11_ofRow
theorem kcX11_fair : (cX11_fair).data.toList = cbs 0xace700b8640a101c1b0c01b45100b42a1200a71d07009a1c3e0901b61b5100b42aacfc100600a1601b0a101cacfe1006009a8500b40a00b42aac0205009add00b8071c0b00a3071b1000a1041b 77 := by decide +kernel
theorem dX11_fair_0 : decode cX11_fair 0 = .ok (.iload_n 1, 1) := op_27 kcX11_fair (Nat.le_of_ble_eq_true rfl) rfl
theorem dX11_fair_1 : decode cX11_fair 1 = .ok (.iconst 1, 1) := op_4 kcX11_fair (Nat.le_of_ble_eq_true rfl) rfl
theorem dX11_fair_2 : decode cX11_fair 2 = .ok (.if_icmp .lt 16, 3) := op_161 (a := 0) (b := 16) kcX11_fair (Nat.le_of_ble_eq_true rfl) rfl rfl rfl (by decide)
theorem dX11_fair_5 : decode cX11_fair 5 = .ok (.iload_n 1, 1) := op_27 kcX11_fair (Nat.le_of_ble_eq_true rfl) rfl
theorem dX11_fair_6 : decode cX11_fair 6 = .ok (.iconst 4, 1) := op_7 kcX11_fair (Nat.le_of_ble_eq_true rfl) rfl
theorem dX11_fair_7 : decode cX11_fair 7 = .ok (.if_icmp .gt 11, 3) := op_163 (a := 0) (b := 11) kcX11_fair (Nat.le_of_ble_eq_true rfl) rfl rfl rfl (by decide)
theorem dX11_fair_10 : decode cX11_fair 10 = .ok (.iload_n 2, 1) := op_28 kcX11_fair (Nat.le_of_ble_eq_true rfl) rfl
theorem dX11_fair_11 : decode cX11_fair 11 = .ok (.iconst 4, 1) := op_7 kcX11_fair (Nat.le_of_ble_eq_true rfl) rfl
theorem dX11_fair_12 : decode cX11_fair 12 = .ok (.invokestatic 221, 3) := op_184 (a := 0) (b := 221) kcX11_fair (Nat.le_of_ble_eq_true rfl) rfl rfl rfl
theorem dX11_fair_15 : decode cX11_fair 15 = .ok (.ifCond .ne 5, 3) := op_154 (a := 0) (b := 5) kcX11_fair (Nat.le_of_ble_eq_true rfl) rfl rfl rfl (by decide)
theorem dX11_fair_18 : decode cX11_fair 18 = .ok (.iconst (-1), 1) := op_2 kcX11_fair (Nat.le_of_ble_eq_true rfl) rfl
theorem dX11_fair_19 : decode cX11_fair 19 = .ok (.ireturn, 1) := op_172 kcX11_fair (Nat.le_of_ble_eq_true rfl) rfl
theorem dX11_fair_20 : decode cX11_fair 20 = .ok (.aload_n 0, 1) := op_42 kcX11_fair (Nat.le_of_ble_eq_true rfl) rfl
theorem dX11_fair_21 : decode cX11_fair 21 = .ok (.getfield 10, 3) := op_180 (a := 0) (b := 10) kcX11_fair (Nat.le_of_ble_eq_true rfl) rfl rfl rfl
theorem dX11_fair_24 : decode cX11_fair 24 = .ok (.getfield 133, 3) := op_180 (a := 0) (b := 133) kcX11_fair (Nat.le_of_ble_eq_true rfl) rfl rfl rfl
theorem dX11_fair_27 : decode cX11_fair 27 = .ok (.ifCond .ne 6, 3) := op_154 (a := 0) (b := 6) kcX11_fair (Nat.le_of_ble_eq_true rfl) rfl rfl rfl (by decide)
theorem dX11_fair_30 : decode cX11_fair 30 = .ok (.bipush (-2), 2) := op_16 (a := 254) kcX11_fair (Nat.le_of_ble_eq_true rfl) rfl rfl (by decide)
theorem dX11_fair_32 : decode cX11_fair 32 = .ok (.ireturn, 1) := op_172 kcX11_fair (Nat.le_of_ble_eq_true rfl) rfl
theorem dX11_fair_33 : decode cX11_fair 33 = .ok (.iload_n 2, 1) := op_28 kcX11_fair (Nat.le_of_ble_eq_true rfl) rfl
theorem dX11_fair_34 : decode cX11_fair 34 = .ok (.bipush 10, 2) := op_16 (a := 10) kcX11_fair (Nat.le_of_ble_eq_true rfl) rfl rfl (by decide)
theorem dX11_fair_36 : decode cX11_fair 36 = .ok (.iload_n 1, 1) := op_27 kcX11_fair (Nat.le_of_ble_eq_true rfl) rfl
theorem dX11_fair_37 : decode cX11_fair 37 = .ok (.iadd, 1) := op_96 kcX11_fair (Nat.le_of_ble_eq_true rfl) rfl
theorem dX11_fair_38 : decode cX11_fair 38 = .ok (.if_icmp .lt 6, 3) := op_161 (a := 0) (b := 6) kcX11_fair (Nat.le_of_ble_eq_true rfl) rfl rfl rfl (by decide)
theorem dX11_fair_41 : decode cX11_fair 41 = .ok (.bipush (-4), 2) := op_16 (a := 252) kcX11_fair (Nat.le_of_ble_eq_true rfl) rfl rfl (by decide)
theorem dX11_fair_43 : decode cX11_fair 43 = .ok (.ireturn, 1) := op_172 kcX11_fair (Nat.le_of_ble_eq_true rfl) rfl
theorem dX11_fair_44 : decode cX11_fair 44 = .ok (.aload_n 0, 1) := op_42 kcX11_fair (Nat.le_of_ble_eq_true rfl) rfl
theorem dX11_fair_45 : decode cX11_fair 45 = .ok (.getfield 81, 3) := op_180 (a := 0) (b := 81) kcX11_fair (Nat.le_of_ble_eq_true rfl) rfl rfl rfl
theorem dX11_fair_48 : decode cX11_fair 48 = .ok (.iload_n 1, 1) := op_27 kcX11_fair (Nat.le_of_ble_eq_true rfl) rfl
theorem dX11_fair_49 : decode cX11_fair 49 = .ok (.invokevirtual 265, 3) := op_182 (a := 1) (b := 9) kcX11_fair (Nat.le_of_ble_eq_true rfl) rfl rfl rfl
theorem dX11_fair_52 : decode cX11_fair 52 = .ok (.istore_n 3, 1) := op_62 kcX11_fair (Nat.le_of_ble_eq_true rfl) rfl
theorem dX11_fair_53 : decode cX11_fair 53 = .ok (.iload_n 2, 1) := op_28 kcX11_fair (Nat.le_of_ble_eq_true rfl) rfl
theorem dX11_fair_54 : decode cX11_fair 54 = .ok (.ifCond .ne 7, 3) := op_154 (a := 0) (b := 7) kcX11_fair (Nat.le_of_ble_eq_true rfl) rfl rfl rfl (by decide)
theorem dX11_fair_57 : decode cX11_fair 57 = .ok (.iload_n 3, 1) := op_29 kcX11_fair (Nat.le_of_ble_eq_true rfl) rfl
theorem dX11_fair_58 : decode cX11_fair 58 = .ok (.goto 18, 3) := op_167 (a := 0) (b := 18) kcX11_fair (Nat.le_of_ble_eq_true rfl) rfl rfl rfl (by decide)
theorem dX11_fair_61 : decode cX11_fair 61 = .ok (.aload_n 0, 1) := op_42 kcX11_fair (Nat.le_of_ble_eq_true rfl) rfl
theorem dX11_fair_62 : decode cX11_fair 62 = .ok (.getfield 81, 3) := op_180 (a := 0) (b := 81) kcX11_fair (Nat.le_of_ble_eq_true rfl) rfl rfl rfl
theorem dX11_fair_65 : decode cX11_fair 65 = .ok (.getfield 268, 3) := op_180 (a := 1) (b := 12) kcX11_fair (Nat.le_of_ble_eq_true rfl) rfl rfl rfl
theorem dX11_fair_68 : decode cX11_fair 68 = .ok (.iload_n 1, 1) := op_27 kcX11_fair (Nat.le_of_ble_eq_true rfl) rfl
theorem dX11_fair_69 : decode cX11_fair 69 = .ok (.iload_n 2, 1) := op_28 kcX11_fair (Nat.le_of_ble_eq_true rfl) rfl
theorem dX11_fair_70 : decode cX11_fair 70 = .ok (.bipush 10, 2) := op_16 (a := 10) kcX11_fair (Nat.le_of_ble_eq_true rfl) rfl rfl (by decide)
theorem dX11_fair_72 : decode cX11_fair 72 = .ok (.isub, 1) := op_100 kcX11_fair (Nat.le_of_ble_eq_true rfl) rfl
theorem dX11_fair_73 : decode cX11_fair 73 = .ok (.invokestatic 231, 3) := op_184 (a := 0) (b := 231) kcX11_fair (Nat.le_of_ble_eq_true rfl) rfl rfl rfl
theorem dX11_fair_76 : decode cX11_fair 76 = .ok (.ireturn, 1) := op_172 kcX11_fair (Nat.le_of_ble_eq_true rfl) rfl
set_option maxRecDepth 20000 in
theorem gw_wsX11_isImage : (wsX11_isImage).all goodWord = true := by decide +kernel
set_option maxRecDepth 20000 in
theorem ggX11_keep_X11_isImage : GoodIn wsX11_keep wsX11_isImage := goodIn_r _ [7] rfl gw_wsX11_isImage
set_option maxRecDepth 20000 in
theorem gX11_keep_X11_isImage : GoodIn wsX11_keep (va_wsS RX11 271 yX11_isImage wsX11_isImage) := goodIn_app (goodIn_of _ (by decide +kernel)) ggX11_keep_X11_isImage
set_option maxRecDepth 20000 in
theorem ggX11_keep_X8_copy : GoodIn wsX11_keep wsX8_copy := goodIn_r _ [12, 13, 14, 15, 16, 17, 18, 19, 20, 21, 22, 23, 24, 25, 41, 42, 43, 44, 45, 46, 47, 48, 49] rfl gw_wsX8_copy
set_option maxRecDepth 20000 in
theorem gX11_keep_X8_copy : GoodIn wsX11_keep (wsV RX11 127 RX8 yX8_copy wsX8_copy) := goodIn_app (goodIn_of _ (by decide +kernel)) ggX11_keep_X8_copy
theorem kcX11_keep : (cX11_keep).data.toList = cbs 0xac1c54041b5900b42a7f00b61300b42a321b5500b42a3d030400a704070099331b5900b42aac0205009a0f01b81b 46 := by decide +kernel
theorem dX11_keep_0 : decode cX11_keep 0 = .ok (.iload_n 1, 1) := op_27 kcX11_keep (Nat.le_of_ble_eq_true rfl) rfl
theorem dX11_keep_1 : decode cX11_keep 1 = .ok (.invokestatic 271, 3) := op_184 (a := 1) (b := 15) kcX11_keep (Nat.le_of_ble_eq_true rfl) rfl rfl rfl
theorem dX11_keep_4 : decode cX11_keep 4 = .ok (.ifCond .ne 5, 3) := op_154 (a := 0) (b := 5) kcX11_keep (Nat.le_of_ble_eq_true rfl) rfl rfl rfl (by decide)
theorem dX11_keep_7 : decode cX11_keep 7 = .ok (.iconst (-1), 1) := op_2 kcX11_keep (Nat.le_of_ble_eq_true rfl) rfl
theorem dX11_keep_8 : decode cX11_keep 8 = .ok (.ireturn, 1) := op_172 kcX11_keep (Nat.le_of_ble_eq_true rfl) rfl
theorem dX11_keep_9 : decode cX11_keep 9 = .ok (.aload_n 0, 1) := op_42 kcX11_keep (Nat.le_of_ble_eq_true rfl) rfl
theorem dX11_keep_10 : decode cX11_keep 10 = .ok (.getfield 89, 3) := op_180 (a := 0) (b := 89) kcX11_keep (Nat.le_of_ble_eq_true rfl) rfl rfl rfl
theorem dX11_keep_13 : decode cX11_keep 13 = .ok (.iload_n 1, 1) := op_27 kcX11_keep (Nat.le_of_ble_eq_true rfl) rfl
theorem dX11_keep_14 : decode cX11_keep 14 = .ok (.baload, 1) := op_51 kcX11_keep (Nat.le_of_ble_eq_true rfl) rfl
theorem dX11_keep_15 : decode cX11_keep 15 = .ok (.ifCond .eq 7, 3) := op_153 (a := 0) (b := 7) kcX11_keep (Nat.le_of_ble_eq_true rfl) rfl rfl rfl (by decide)
theorem dX11_keep_18 : decode cX11_keep 18 = .ok (.iconst 1, 1) := op_4 kcX11_keep (Nat.le_of_ble_eq_true rfl) rfl
theorem dX11_keep_19 : decode cX11_keep 19 = .ok (.goto 4, 3) := op_167 (a := 0) (b := 4) kcX11_keep (Nat.le_of_ble_eq_true rfl) rfl rfl rfl (by decide)
theorem dX11_keep_22 : decode cX11_keep 22 = .ok (.iconst 0, 1) := op_3 kcX11_keep (Nat.le_of_ble_eq_true rfl) rfl
theorem dX11_keep_23 : decode cX11_keep 23 = .ok (.istore_n 2, 1) := op_61 kcX11_keep (Nat.le_of_ble_eq_true rfl) rfl
theorem dX11_keep_24 : decode cX11_keep 24 = .ok (.aload_n 0, 1) := op_42 kcX11_keep (Nat.le_of_ble_eq_true rfl) rfl
theorem dX11_keep_25 : decode cX11_keep 25 = .ok (.getfield 85, 3) := op_180 (a := 0) (b := 85) kcX11_keep (Nat.le_of_ble_eq_true rfl) rfl rfl rfl
theorem dX11_keep_28 : decode cX11_keep 28 = .ok (.iload_n 1, 1) := op_27 kcX11_keep (Nat.le_of_ble_eq_true rfl) rfl
theorem dX11_keep_29 : decode cX11_keep 29 = .ok (.aaload, 1) := op_50 kcX11_keep (Nat.le_of_ble_eq_true rfl) rfl
theorem dX11_keep_30 : decode cX11_keep 30 = .ok (.aload_n 0, 1) := op_42 kcX11_keep (Nat.le_of_ble_eq_true rfl) rfl
theorem dX11_keep_31 : decode cX11_keep 31 = .ok (.getfield 19, 3) := op_180 (a := 0) (b := 19) kcX11_keep (Nat.le_of_ble_eq_true rfl) rfl rfl rfl
theorem dX11_keep_34 : decode cX11_keep 34 = .ok (.invokevirtual 127, 3) := op_182 (a := 0) (b := 127) kcX11_keep (Nat.le_of_ble_eq_true rfl) rfl rfl rfl
theorem dX11_keep_37 : decode cX11_keep 37 = .ok (.aload_n 0, 1) := op_42 kcX11_keep (Nat.le_of_ble_eq_true rfl) rfl
theorem dX11_keep_38 : decode cX11_keep 38 = .ok (.getfield 89, 3) := op_180 (a := 0) (b := 89) kcX11_keep (Nat.le_of_ble_eq_true rfl) rfl rfl rfl
theorem dX11_keep_41 : decode cX11_keep 41 = .ok (.iload_n 1, 1) := op_27 kcX11_keep (Nat.le_of_ble_eq_true rfl) rfl
theorem dX11_keep_42 : decode cX11_keep 42 = .ok (.iconst 1, 1) := op_4 kcX11_keep (Nat.le_of_ble_eq_true rfl) rfl
theorem dX11_keep_43 : decode cX11_keep 43 = .ok (.bastore, 1) := op_84 kcX11_keep (Nat.le_of_ble_eq_true rfl) rfl
theorem dX11_keep_44 : decode cX11_keep 44 = .ok (.iload_n 2, 1) := op_28 kcX11_keep (Nat.le_of_ble_eq_true rfl) rfl
theorem dX11_keep_45 : decode cX11_keep 45 = .ok (.ireturn, 1) := op_172 kcX11_keep (Nat.le_of_ble_eq_true rfl) rfl
set_option maxRecDepth 20000 in
theorem ggX11_back_X11_isImage : GoodIn wsX11_back wsX11_isImage := goodIn_r _ [8] rfl gw_wsX11_isImage
set_option maxRecDepth 20000 in
theorem gX11_back_X11_isImage : GoodIn wsX11_back (va_wsS RX11 271 yX11_isImage wsX11_isImage) := goodIn_app (goodIn_of _ (by decide +kernel)) ggX11_back_X11_isImage
set_option maxRecDepth 20000 in
theorem ggX11_back_X8_copy : GoodIn wsX11_back wsX8_copy := goodIn_r _ [13, 14, 15, 16, 17, 18, 19, 20, 21, 22, 23, 24, 25, 26, 42, 43, 44, 45, 46, 47, 48, 49, 50] rfl gw_wsX8_copy
set_option maxRecDepth 20000 in
theorem gX11_back_X8_copy : GoodIn wsX11_back (wsV RX11 127 RX8 yX8_copy wsX8_copy) := goodIn_app (goodIn_of _ (by decide +kernel)) ggX11_back_X8_copy
theorem kcX11_back : (cX11_back).data.toList = cbs 0xac8800b41300b42a7f00b6321b5500b42a1300b42aacfe1006009a331b5900b42aac0205009a0f01b81b 42 := by decide +kernel
theorem dX11_back_0 : decode cX11_back 0 = .ok (.iload_n 1, 1) := op_27 kcX11_back (Nat.le_of_ble_eq_true rfl) rfl
theorem dX11_back_1 : decode cX11_back 1 = .ok (.invokestatic 271, 3) := op_184 (a := 1) (b := 15) kcX11_back (Nat.le_of_ble_eq_true rfl) rfl rfl rfl
theorem dX11_back_4 : decode cX11_back 4 = .ok (.ifCond .ne 5, 3) := op_154 (a := 0) (b := 5) kcX11_back (Nat.le_of_ble_eq_true rfl) rfl rfl rfl (by decide)
theorem dX11_back_7 : decode cX11_back 7 = .ok (.iconst (-1), 1) := op_2 kcX11_back (Nat.le_of_ble_eq_true rfl) rfl
theorem dX11_back_8 : decode cX11_back 8 = .ok (.ireturn, 1) := op_172 kcX11_back (Nat.le_of_ble_eq_true rfl) rfl
theorem dX11_back_9 : decode cX11_back 9 = .ok (.aload_n 0, 1) := op_42 kcX11_back (Nat.le_of_ble_eq_true rfl) rfl
theorem dX11_back_10 : decode cX11_back 10 = .ok (.getfield 89, 3) := op_180 (a := 0) (b := 89) kcX11_back (Nat.le_of_ble_eq_true rfl) rfl rfl rfl
theorem dX11_back_13 : decode cX11_back 13 = .ok (.iload_n 1, 1) := op_27 kcX11_back (Nat.le_of_ble_eq_true rfl) rfl
theorem dX11_back_14 : decode cX11_back 14 = .ok (.baload, 1) := op_51 kcX11_back (Nat.le_of_ble_eq_true rfl) rfl
theorem dX11_back_15 : decode cX11_back 15 = .ok (.ifCond .ne 6, 3) := op_154 (a := 0) (b := 6) kcX11_back (Nat.le_of_ble_eq_true rfl) rfl rfl rfl (by decide)
theorem dX11_back_18 : decode cX11_back 18 = .ok (.bipush (-2), 2) := op_16 (a := 254) kcX11_back (Nat.le_of_ble_eq_true rfl) rfl rfl (by decide)
theorem dX11_back_20 : decode cX11_back 20 = .ok (.ireturn, 1) := op_172 kcX11_back (Nat.le_of_ble_eq_true rfl) rfl
theorem dX11_back_21 : decode cX11_back 21 = .ok (.aload_n 0, 1) := op_42 kcX11_back (Nat.le_of_ble_eq_true rfl) rfl
theorem dX11_back_22 : decode cX11_back 22 = .ok (.getfield 19, 3) := op_180 (a := 0) (b := 19) kcX11_back (Nat.le_of_ble_eq_true rfl) rfl rfl rfl
theorem dX11_back_25 : decode cX11_back 25 = .ok (.aload_n 0, 1) := op_42 kcX11_back (Nat.le_of_ble_eq_true rfl) rfl
theorem dX11_back_26 : decode cX11_back 26 = .ok (.getfield 85, 3) := op_180 (a := 0) (b := 85) kcX11_back (Nat.le_of_ble_eq_true rfl) rfl rfl rfl
theorem dX11_back_29 : decode cX11_back 29 = .ok (.iload_n 1, 1) := op_27 kcX11_back (Nat.le_of_ble_eq_true rfl) rfl
theorem dX11_back_30 : decode cX11_back 30 = .ok (.aaload, 1) := op_50 kcX11_back (Nat.le_of_ble_eq_true rfl) rfl
theorem dX11_back_31 : decode cX11_back 31 = .ok (.invokevirtual 127, 3) := op_182 (a := 0) (b := 127) kcX11_back (Nat.le_of_ble_eq_true rfl) rfl rfl rfl
theorem dX11_back_34 : decode cX11_back 34 = .ok (.aload_n 0, 1) := op_42 kcX11_back (Nat.le_of_ble_eq_true rfl) rfl
theorem dX11_back_35 : decode cX11_back 35 = .ok (.getfield 19, 3) := op_180 (a := 0) (b := 19) kcX11_back (Nat.le_of_ble_eq_true rfl) rfl rfl rfl
theorem dX11_back_38 : decode cX11_back 38 = .ok (.getfield 136, 3) := op_180 (a := 0) (b := 136) kcX11_back (Nat.le_of_ble_eq_true rfl) rfl rfl rfl
theorem dX11_back_41 : decode cX11_back 41 = .ok (.ireturn, 1) := op_172 kcX11_back (Nat.le_of_ble_eq_true rfl) rfl
set_option maxRecDepth 20000 in
theorem gw_wsX11_isSheet : (wsX11_isSheet).all goodWord = true := by decide +kernel
set_option maxRecDepth 20000 in
theorem ggX11_sheet_X11_isSheet : GoodIn wsX11_sheet wsX11_isSheet := goodIn_r _ [5] rfl gw_wsX11_isSheet
set_option maxRecDepth 20000 in
theorem gX11_sheet_X11_isSheet : GoodIn wsX11_sheet (va_wsS RX11 274 yX11_isSheet wsX11_isSheet) := goodIn_app (goodIn_of _ (by decide +kernel)) ggX11_sheet_X11_isSheet
set_option maxRecDepth 20000 in
theorem gw_wsX11_isLane : (wsX11_isLane).all goodWord = true := by decide +kernel
set_option maxRecDepth 20000 in
theorem ggX11_sheet_X11_isLane : GoodIn wsX11_sheet wsX11_isLane := goodIn_r _ [8] rfl gw_wsX11_isLane
set_option maxRecDepth 20000 in
theorem gX11_sheet_X11_isLane : GoodIn wsX11_sheet (va_wsS RX11 277 yX11_isLane wsX11_isLane) := goodIn_app (goodIn_of _ (by decide +kernel)) ggX11_sheet_X11_isLane
set_option maxRecDepth 20000 in
theorem gw_wsX7_renew : (wsX7_renew).all goodWord = true := by decide +kernel
set_option maxRecDepth 20000 in
theorem ggX11_sheet_X7_renew : GoodIn wsX11_sheet wsX7_renew := goodIn_r _ [13, 14, 15, 16, 17, 18, 19, 20, 36, 37, 38] rfl gw_wsX7_renew
set_option maxRecDepth 20000 in
theorem gX11_sheet_X7_renew : GoodIn wsX11_sheet (wsV RX11 280 RX7 yX7_renew wsX7_renew) := goodIn_app (goodIn_of _ (by decide +kernel)) ggX11_sheet_X7_renew
theorem kcX11_sheet : (cX11_sheet).data.toList = cbs 0xac041801b61d1c321b5f00b42aacf21006009c1dac020500a428101d0900991501b81c1000991201b81b 42 := by decide +kernel
theorem dX11_sheet_0 : decode cX11_sheet 0 = .ok (.iload_n 1, 1) := op_27 kcX11_sheet (Nat.le_of_ble_eq_true rfl) rfl
theorem dX11_sheet_1 : decode cX11_sheet 1 = .ok (.invokestatic 274, 3) := op_184 (a := 1) (b := 18) kcX11_sheet (Nat.le_of_ble_eq_true rfl) rfl rfl rfl
theorem dX11_sheet_4 : decode cX11_sheet 4 = .ok (.ifCond .eq 16, 3) := op_153 (a := 0) (b := 16) kcX11_sheet (Nat.le_of_ble_eq_true rfl) rfl rfl rfl (by decide)
theorem dX11_sheet_7 : decode cX11_sheet 7 = .ok (.iload_n 2, 1) := op_28 kcX11_sheet (Nat.le_of_ble_eq_true rfl) rfl
theorem dX11_sheet_8 : decode cX11_sheet 8 = .ok (.invokestatic 277, 3) := op_184 (a := 1) (b := 21) kcX11_sheet (Nat.le_of_ble_eq_true rfl) rfl rfl rfl
theorem dX11_sheet_11 : decode cX11_sheet 11 = .ok (.ifCond .eq 9, 3) := op_153 (a := 0) (b := 9) kcX11_sheet (Nat.le_of_ble_eq_true rfl) rfl rfl rfl (by decide)
theorem dX11_sheet_14 : decode cX11_sheet 14 = .ok (.iload_n 3, 1) := op_29 kcX11_sheet (Nat.le_of_ble_eq_true rfl) rfl
theorem dX11_sheet_15 : decode cX11_sheet 15 = .ok (.bipush 40, 2) := op_16 (a := 40) kcX11_sheet (Nat.le_of_ble_eq_true rfl) rfl rfl (by decide)
theorem dX11_sheet_17 : decode cX11_sheet 17 = .ok (.if_icmp .le 5, 3) := op_164 (a := 0) (b := 5) kcX11_sheet (Nat.le_of_ble_eq_true rfl) rfl rfl rfl (by decide)
theorem dX11_sheet_20 : decode cX11_sheet 20 = .ok (.iconst (-1), 1) := op_2 kcX11_sheet (Nat.le_of_ble_eq_true rfl) rfl
theorem dX11_sheet_21 : decode cX11_sheet 21 = .ok (.ireturn, 1) := op_172 kcX11_sheet (Nat.le_of_ble_eq_true rfl) rfl
theorem dX11_sheet_22 : decode cX11_sheet 22 = .ok (.iload_n 3, 1) := op_29 kcX11_sheet (Nat.le_of_ble_eq_true rfl) rfl
theorem dX11_sheet_23 : decode cX11_sheet 23 = .ok (.ifCond .ge 6, 3) := op_156 (a := 0) (b := 6) kcX11_sheet (Nat.le_of_ble_eq_true rfl) rfl rfl rfl (by decide)
theorem dX11_sheet_26 : decode cX11_sheet 26 = .ok (.bipush (-14), 2) := op_16 (a := 242) kcX11_sheet (Nat.le_of_ble_eq_true rfl) rfl rfl (by decide)
theorem dX11_sheet_28 : decode cX11_sheet 28 = .ok (.ireturn, 1) := op_172 kcX11_sheet (Nat.le_of_ble_eq_true rfl) rfl
theorem dX11_sheet_29 : decode cX11_sheet 29 = .ok (.aload_n 0, 1) := op_42 kcX11_sheet (Nat.le_of_ble_eq_true rfl) rfl
theorem dX11_sheet_30 : decode cX11_sheet 30 = .ok (.getfield 95, 3) := op_180 (a := 0) (b := 95) kcX11_sheet (Nat.le_of_ble_eq_true rfl) rfl rfl rfl
theorem dX11_sheet_33 : decode cX11_sheet 33 = .ok (.iload_n 1, 1) := op_27 kcX11_sheet (Nat.le_of_ble_eq_true rfl) rfl
theorem dX11_sheet_34 : decode cX11_sheet 34 = .ok (.aaload, 1) := op_50 kcX11_sheet (Nat.le_of_ble_eq_true rfl) rfl
theorem dX11_sheet_35 : decode cX11_sheet 35 = .ok (.iload_n 2, 1) := op_28 kcX11_sheet (Nat.le_of_ble_eq_true rfl) rfl
theorem dX11_sheet_36 : decode cX11_sheet 36 = .ok (.iload_n 3, 1) := op_29 kcX11_sheet (Nat.le_of_ble_eq_true rfl) rfl
theorem dX11_sheet_37 : decode cX11_sheet 37 = .ok (.invokevirtual 280, 3) := op_182 (a := 1) (b := 24) kcX11_sheet (Nat.le_of_ble_eq_true rfl) rfl rfl rfl
theorem dX11_sheet_40 : decode cX11_sheet 40 = .ok (.iconst 1, 1) := op_4 kcX11_sheet (Nat.le_of_ble_eq_true rfl) rfl
theorem dX11_sheet_41 : decode cX11_sheet 41 = .ok (.ireturn, 1) := op_172 kcX11_sheet (Nat.le_of_ble_eq_true rfl) rfl
set_option maxRecDepth 20000 in
theorem ggX11_lay_X11_isSheet : GoodIn wsX11_lay wsX11_isSheet := goodIn_r _ [6] rfl gw_wsX11_isSheet
set_option maxRecDepth 20000 in
theorem gX11_lay_X11_isSheet : GoodIn wsX11_lay (va_wsS RX11 274 yX11_isSheet wsX11_isSheet) := goodIn_app (goodIn_of _ (by decide +kernel)) ggX11_lay_X11_isSheet
set_option maxRecDepth 20000 in
theorem gw_wsX7_faultAt : (wsX7_faultAt).all goodWord = true := by decide +kernel
set_option maxRecDepth 20000 in
theorem ggX11_lay_X7_faultAt : GoodIn wsX11_lay wsX7_faultAt := goodIn_r _ [11, 12, 13, 14, 15, 16, 10, 17, 38, 39, 40] rfl gw_wsX7_faultAt
set_option maxRecDepth 20000 in
theorem gX11_lay_X7_faultAt : GoodIn wsX11_lay (wsV RX11 287 RX7 yX7_faultAt wsX7_faultAt) := goodIn_app (goodIn_of _ (by decide +kernel)) ggX11_lay_X7_faultAt
set_option maxRecDepth 20000 in
theorem gw_wsX7_put : (wsX7_put).all goodWord = true := by decide +kernel
set_option maxRecDepth 20000 in
theorem ggX11_lay_X7_put : GoodIn wsX11_lay wsX7_put := goodIn_r _ [21, 12, 22, 38, 39, 40] rfl gw_wsX7_put
set_option maxRecDepth 20000 in
theorem gX11_lay_X7_put : GoodIn wsX11_lay (wsV RX11 290 RX7 yX7_put wsX7_put) := goodIn_app (goodIn_of _ (by decide +kernel)) ggX11_lay_X7_put
theorem kcX11_lay : (cX11_lay).data.toList = cbs 0xac042201b61d1c0419ac640515f610090099051505361f01b61c1c01b404190419043a321b5f00b42aac0205009a1201b81b 50 := by decide +kernel
theorem dX11_lay_0 : decode cX11_lay 0 = .ok (.iload_n 1, 1) := op_27 kcX11_lay (Nat.le_of_ble_eq_true rfl) rfl
theorem dX11_lay_1 : decode cX11_lay 1 = .ok (.invokestatic 274, 3) := op_184 (a := 1) (b := 18) kcX11_lay (Nat.le_of_ble_eq_true rfl) rfl rfl rfl
theorem dX11_lay_4 : decode cX11_lay 4 = .ok (.ifCond .ne 5, 3) := op_154 (a := 0) (b := 5) kcX11_lay (Nat.le_of_ble_eq_true rfl) rfl rfl rfl (by decide)
theorem dX11_lay_7 : decode cX11_lay 7 = .ok (.iconst (-1), 1) := op_2 kcX11_lay (Nat.le_of_ble_eq_true rfl) rfl
theorem dX11_lay_8 : decode cX11_lay 8 = .ok (.ireturn, 1) := op_172 kcX11_lay (Nat.le_of_ble_eq_true rfl) rfl
theorem dX11_lay_9 : decode cX11_lay 9 = .ok (.aload_n 0, 1) := op_42 kcX11_lay (Nat.le_of_ble_eq_true rfl) rfl
theorem dX11_lay_10 : decode cX11_lay 10 = .ok (.getfield 95, 3) := op_180 (a := 0) (b := 95) kcX11_lay (Nat.le_of_ble_eq_true rfl) rfl rfl rfl
theorem dX11_lay_13 : decode cX11_lay 13 = .ok (.iload_n 1, 1) := op_27 kcX11_lay (Nat.le_of_ble_eq_true rfl) rfl
theorem dX11_lay_14 : decode cX11_lay 14 = .ok (.aaload, 1) := op_50 kcX11_lay (Nat.le_of_ble_eq_true rfl) rfl
theorem dX11_lay_15 : decode cX11_lay 15 = .ok (.astore 4, 2) := op_58 (a := 4) kcX11_lay (Nat.le_of_ble_eq_true rfl) rfl rfl
theorem dX11_lay_17 : decode cX11_lay 17 = .ok (.aload 4, 2) := op_25 (a := 4) kcX11_lay (Nat.le_of_ble_eq_true rfl) rfl rfl
theorem dX11_lay_19 : decode cX11_lay 19 = .ok (.aload 4, 2) := op_25 (a := 4) kcX11_lay (Nat.le_of_ble_eq_true rfl) rfl rfl
theorem dX11_lay_21 : decode cX11_lay 21 = .ok (.getfield 284, 3) := op_180 (a := 1) (b := 28) kcX11_lay (Nat.le_of_ble_eq_true rfl) rfl rfl rfl
theorem dX11_lay_24 : decode cX11_lay 24 = .ok (.iload_n 2, 1) := op_28 kcX11_lay (Nat.le_of_ble_eq_true rfl) rfl
theorem dX11_lay_25 : decode cX11_lay 25 = .ok (.invokevirtual 287, 3) := op_182 (a := 1) (b := 31) kcX11_lay (Nat.le_of_ble_eq_true rfl) rfl rfl rfl
theorem dX11_lay_28 : decode cX11_lay 28 = .ok (.istore 5, 2) := op_54 (a := 5) kcX11_lay (Nat.le_of_ble_eq_true rfl) rfl rfl
theorem dX11_lay_30 : decode cX11_lay 30 = .ok (.iload 5, 2) := op_21 (a := 5) kcX11_lay (Nat.le_of_ble_eq_true rfl) rfl rfl
theorem dX11_lay_32 : decode cX11_lay 32 = .ok (.ifCond .eq 9, 3) := op_153 (a := 0) (b := 9) kcX11_lay (Nat.le_of_ble_eq_true rfl) rfl rfl rfl (by decide)
theorem dX11_lay_35 : decode cX11_lay 35 = .ok (.bipush (-10), 2) := op_16 (a := 246) kcX11_lay (Nat.le_of_ble_eq_true rfl) rfl rfl (by decide)
theorem dX11_lay_37 : decode cX11_lay 37 = .ok (.iload 5, 2) := op_21 (a := 5) kcX11_lay (Nat.le_of_ble_eq_true rfl) rfl rfl
theorem dX11_lay_39 : decode cX11_lay 39 = .ok (.isub, 1) := op_100 kcX11_lay (Nat.le_of_ble_eq_true rfl) rfl
theorem dX11_lay_40 : decode cX11_lay 40 = .ok (.ireturn, 1) := op_172 kcX11_lay (Nat.le_of_ble_eq_true rfl) rfl
theorem dX11_lay_41 : decode cX11_lay 41 = .ok (.aload 4, 2) := op_25 (a := 4) kcX11_lay (Nat.le_of_ble_eq_true rfl) rfl rfl
theorem dX11_lay_43 : decode cX11_lay 43 = .ok (.iload_n 2, 1) := op_28 kcX11_lay (Nat.le_of_ble_eq_true rfl) rfl
theorem dX11_lay_44 : decode cX11_lay 44 = .ok (.iload_n 3, 1) := op_29 kcX11_lay (Nat.le_of_ble_eq_true rfl) rfl
theorem dX11_lay_45 : decode cX11_lay 45 = .ok (.invokevirtual 290, 3) := op_182 (a := 1) (b := 34) kcX11_lay (Nat.le_of_ble_eq_true rfl) rfl rfl rfl
theorem dX11_lay_48 : decode cX11_lay 48 = .ok (.iconst 1, 1) := op_4 kcX11_lay (Nat.le_of_ble_eq_true rfl) rfl
theorem dX11_lay_49 : decode cX11_lay 49 = .ok (.ireturn, 1) := op_172 kcX11_lay (Nat.le_of_ble_eq_true rfl) rfl
set_option maxRecDepth 20000 in
theorem ggX11_read_X11_isSheet : GoodIn wsX11_read wsX11_isSheet := goodIn_r _ [8] rfl gw_wsX11_isSheet
set_option maxRecDepth 20000 in
theorem gX11_read_X11_isSheet : GoodIn wsX11_read (va_wsS RX11 274 yX11_isSheet wsX11_isSheet) := goodIn_app (goodIn_of _ (by decide +kernel)) ggX11_read_X11_isSheet
set_option maxRecDepth 20000 in
theorem ggX11_read_X11_isLane : GoodIn wsX11_read wsX11_isLane := goodIn_r _ [11] rfl gw_wsX11_isLane
set_option maxRecDepth 20000 in
theorem gX11_read_X11_isLane : GoodIn wsX11_read (va_wsS RX11 277 yX11_isLane wsX11_isLane) := goodIn_app (goodIn_of _ (by decide +kernel)) ggX11_read_X11_isLane
set_option maxRecDepth 20000 in
theorem ggX11_read_X7_faultAt : GoodIn wsX11_read wsX7_faultAt := goodIn_r _ [16, 17, 18, 19, 20, 21, 15, 22, 112, 113, 114] rfl gw_wsX7_faultAt
set_option maxRecDepth 20000 in
theorem gX11_read_X7_faultAt : GoodIn wsX11_read (wsV RX11 287 RX7 yX7_faultAt wsX7_faultAt) := goodIn_app (goodIn_of _ (by decide +kernel)) ggX11_read_X7_faultAt
set_option maxRecDepth 20000 in
theorem gw_wsX11_canPass : (wsX11_canPass).all goodWord = true := by decide +kernel
set_option maxRecDepth 20000 in
theorem ggX11_read_X11_canPass : GoodIn wsX11_read wsX11_canPass := goodIn_r _ [26, 27, 28, 29, 30, 31, 32, 33, 34, 35, 97, 98, 99, 100, 101, 102, 103, 104, 105, 106, 107, 108, 109, 110, 111, 115, 116, 117, 118, 119, 120, 121, 122, 123, 124, 125, 126, 127, 128, 129, 130] rfl gw_wsX11_canPass
set_option maxRecDepth 20000 in
theorem gX11_read_X11_canPass : GoodIn wsX11_read (wsV RX11 296 RX11 yX11_canPass wsX11_canPass) := goodIn_app (goodIn_of _ (by decide +kernel)) ggX11_read_X11_canPass
set_option maxRecDepth 20000 in
theorem ggX11_read_X2_passDay : GoodIn wsX11_read wsX2_passDay := goodIn_r _ [40, 41, 42, 43, 44, 45, 46, 47, 48, 49, 50, 51, 52, 53, 54, 55, 56, 39, 57, 58, 59, 60, 61, 62, 33, 63, 64, 65, 66, 67, 68, 69, 70, 71, 72, 73, 74, 75, 76, 77, 78, 79, 80, 81, 82, 83, 84, 85, 86, 87, 88, 89, 90, 91, 92, 93, 94, 95, 96, 131, 132, 133, 134, 135, 115, 116, 117, 118, 119, 120, 121, 122, 123, 124, 125, 126, 127, 128, 129, 130] rfl gw_wsX2_passDay
set_option maxRecDepth 20000 in
theorem gX11_read_X2_passDay : GoodIn wsX11_read (wsV RX11 196 RX2 yX2_passDay wsX2_passDay) := goodIn_app (goodIn_of _ (by decide +kernel)) ggX11_read_X2_passDay
theorem kcX11_read : (cX11_read).data.toList = cbs 0xac07156700b506152ae5ffa7010884c400b62e6008151d2501b405192c00b42a1a00a207150815083603c1ffa7010884073660040815ac640815ec1009009a2801b608152e6008151d2501b405192a22009a061506361f01b66008151d1c051939009a06153e00a204150815083603073603063603053a321b5f00b42aac020500a4141004150a009b04150f00991501b81c1600991201b81b 153 := by decide +kernel
theorem dX11_read_0 : decode cX11_read 0 = .ok (.iload_n 1, 1) := op_27 kcX11_read (Nat.le_of_ble_eq_true rfl) rfl
theorem dX11_read_1 : decode cX11_read 1 = .ok (.invokestatic 274, 3) := op_184 (a := 1) (b := 18) kcX11_read (Nat.le_of_ble_eq_true rfl) rfl rfl rfl
theorem dX11_read_4 : decode cX11_read 4 = .ok (.ifCond .eq 22, 3) := op_153 (a := 0) (b := 22) kcX11_read (Nat.le_of_ble_eq_true rfl) rfl rfl rfl (by decide)
theorem dX11_read_7 : decode cX11_read 7 = .ok (.iload_n 2, 1) := op_28 kcX11_read (Nat.le_of_ble_eq_true rfl) rfl
theorem dX11_read_8 : decode cX11_read 8 = .ok (.invokestatic 277, 3) := op_184 (a := 1) (b := 21) kcX11_read (Nat.le_of_ble_eq_true rfl) rfl rfl rfl
theorem dX11_read_11 : decode cX11_read 11 = .ok (.ifCond .eq 15, 3) := op_153 (a := 0) (b := 15) kcX11_read (Nat.le_of_ble_eq_true rfl) rfl rfl rfl (by decide)
theorem dX11_read_14 : decode cX11_read 14 = .ok (.iload 4, 2) := op_21 (a := 4) kcX11_read (Nat.le_of_ble_eq_true rfl) rfl rfl
theorem dX11_read_16 : decode cX11_read 16 = .ok (.ifCond .lt 10, 3) := op_155 (a := 0) (b := 10) kcX11_read (Nat.le_of_ble_eq_true rfl) rfl rfl rfl (by decide)
theorem dX11_read_19 : decode cX11_read 19 = .ok (.iload 4, 2) := op_21 (a := 4) kcX11_read (Nat.le_of_ble_eq_true rfl) rfl rfl
theorem dX11_read_21 : decode cX11_read 21 = .ok (.bipush 20, 2) := op_16 (a := 20) kcX11_read (Nat.le_of_ble_eq_true rfl) rfl rfl (by decide)
theorem dX11_read_23 : decode cX11_read 23 = .ok (.if_icmp .le 5, 3) := op_164 (a := 0) (b := 5) kcX11_read (Nat.le_of_ble_eq_true rfl) rfl rfl rfl (by decide)
theorem dX11_read_26 : decode cX11_read 26 = .ok (.iconst (-1), 1) := op_2 kcX11_read (Nat.le_of_ble_eq_true rfl) rfl
theorem dX11_read_27 : decode cX11_read 27 = .ok (.ireturn, 1) := op_172 kcX11_read (Nat.le_of_ble_eq_true rfl) rfl
theorem dX11_read_28 : decode cX11_read 28 = .ok (.aload_n 0, 1) := op_42 kcX11_read (Nat.le_of_ble_eq_true rfl) rfl
theorem dX11_read_29 : decode cX11_read 29 = .ok (.getfield 95, 3) := op_180 (a := 0) (b := 95) kcX11_read (Nat.le_of_ble_eq_true rfl) rfl rfl rfl
theorem dX11_read_32 : decode cX11_read 32 = .ok (.iload_n 1, 1) := op_27 kcX11_read (Nat.le_of_ble_eq_true rfl) rfl
theorem dX11_read_33 : decode cX11_read 33 = .ok (.aaload, 1) := op_50 kcX11_read (Nat.le_of_ble_eq_true rfl) rfl
theorem dX11_read_34 : decode cX11_read 34 = .ok (.astore 5, 2) := op_58 (a := 5) kcX11_read (Nat.le_of_ble_eq_true rfl) rfl rfl
theorem dX11_read_36 : decode cX11_read 36 = .ok (.iconst 0, 1) := op_3 kcX11_read (Nat.le_of_ble_eq_true rfl) rfl
theorem dX11_read_37 : decode cX11_read 37 = .ok (.istore 6, 2) := op_54 (a := 6) kcX11_read (Nat.le_of_ble_eq_true rfl) rfl rfl
theorem dX11_read_39 : decode cX11_read 39 = .ok (.iconst 0, 1) := op_3 kcX11_read (Nat.le_of_ble_eq_true rfl) rfl
theorem dX11_read_40 : decode cX11_read 40 = .ok (.istore 7, 2) := op_54 (a := 7) kcX11_read (Nat.le_of_ble_eq_true rfl) rfl rfl
theorem dX11_read_42 : decode cX11_read 42 = .ok (.iconst 0, 1) := op_3 kcX11_read (Nat.le_of_ble_eq_true rfl) rfl
theorem dX11_read_43 : decode cX11_read 43 = .ok (.istore 8, 2) := op_54 (a := 8) kcX11_read (Nat.le_of_ble_eq_true rfl) rfl rfl
theorem dX11_read_45 : decode cX11_read 45 = .ok (.iload 8, 2) := op_21 (a := 8) kcX11_read (Nat.le_of_ble_eq_true rfl) rfl rfl
theorem dX11_read_47 : decode cX11_read 47 = .ok (.iload 4, 2) := op_21 (a := 4) kcX11_read (Nat.le_of_ble_eq_true rfl) rfl rfl
theorem dX11_read_49 : decode cX11_read 49 = .ok (.if_icmp .ge 62, 3) := op_162 (a := 0) (b := 62) kcX11_read (Nat.le_of_ble_eq_true rfl) rfl rfl rfl (by decide)
theorem dX11_read_52 : decode cX11_read 52 = .ok (.iload 6, 2) := op_21 (a := 6) kcX11_read (Nat.le_of_ble_eq_true rfl) rfl rfl
theorem dX11_read_54 : decode cX11_read 54 = .ok (.ifCond .ne 57, 3) := op_154 (a := 0) (b := 57) kcX11_read (Nat.le_of_ble_eq_true rfl) rfl rfl rfl (by decide)
theorem dX11_read_57 : decode cX11_read 57 = .ok (.aload 5, 2) := op_25 (a := 5) kcX11_read (Nat.le_of_ble_eq_true rfl) rfl rfl
theorem dX11_read_59 : decode cX11_read 59 = .ok (.iload_n 2, 1) := op_28 kcX11_read (Nat.le_of_ble_eq_true rfl) rfl
theorem dX11_read_60 : decode cX11_read 60 = .ok (.iload_n 3, 1) := op_29 kcX11_read (Nat.le_of_ble_eq_true rfl) rfl
theorem dX11_read_61 : decode cX11_read 61 = .ok (.iload 8, 2) := op_21 (a := 8) kcX11_read (Nat.le_of_ble_eq_true rfl) rfl rfl
theorem dX11_read_63 : decode cX11_read 63 = .ok (.iadd, 1) := op_96 kcX11_read (Nat.le_of_ble_eq_true rfl) rfl
theorem dX11_read_64 : decode cX11_read 64 = .ok (.invokevirtual 287, 3) := op_182 (a := 1) (b := 31) kcX11_read (Nat.le_of_ble_eq_true rfl) rfl rfl rfl
theorem dX11_read_67 : decode cX11_read 67 = .ok (.istore 6, 2) := op_54 (a := 6) kcX11_read (Nat.le_of_ble_eq_true rfl) rfl rfl
theorem dX11_read_69 : decode cX11_read 69 = .ok (.iload 6, 2) := op_21 (a := 6) kcX11_read (Nat.le_of_ble_eq_true rfl) rfl rfl
theorem dX11_read_71 : decode cX11_read 71 = .ok (.ifCond .ne 34, 3) := op_154 (a := 0) (b := 34) kcX11_read (Nat.le_of_ble_eq_true rfl) rfl rfl rfl (by decide)
theorem dX11_read_74 : decode cX11_read 74 = .ok (.aload_n 0, 1) := op_42 kcX11_read (Nat.le_of_ble_eq_true rfl) rfl
theorem dX11_read_75 : decode cX11_read 75 = .ok (.aload 5, 2) := op_25 (a := 5) kcX11_read (Nat.le_of_ble_eq_true rfl) rfl rfl
theorem dX11_read_77 : decode cX11_read 77 = .ok (.getfield 293, 3) := op_180 (a := 1) (b := 37) kcX11_read (Nat.le_of_ble_eq_true rfl) rfl rfl rfl
theorem dX11_read_80 : decode cX11_read 80 = .ok (.iload_n 3, 1) := op_29 kcX11_read (Nat.le_of_ble_eq_true rfl) rfl
theorem dX11_read_81 : decode cX11_read 81 = .ok (.iload 8, 2) := op_21 (a := 8) kcX11_read (Nat.le_of_ble_eq_true rfl) rfl rfl
theorem dX11_read_83 : decode cX11_read 83 = .ok (.iadd, 1) := op_96 kcX11_read (Nat.le_of_ble_eq_true rfl) rfl
theorem dX11_read_84 : decode cX11_read 84 = .ok (.iaload, 1) := op_46 kcX11_read (Nat.le_of_ble_eq_true rfl) rfl
theorem dX11_read_85 : decode cX11_read 85 = .ok (.iload 8, 2) := op_21 (a := 8) kcX11_read (Nat.le_of_ble_eq_true rfl) rfl rfl
theorem dX11_read_87 : decode cX11_read 87 = .ok (.invokevirtual 296, 3) := op_182 (a := 1) (b := 40) kcX11_read (Nat.le_of_ble_eq_true rfl) rfl rfl rfl
theorem dX11_read_90 : decode cX11_read 90 = .ok (.ifCond .ne 9, 3) := op_154 (a := 0) (b := 9) kcX11_read (Nat.le_of_ble_eq_true rfl) rfl rfl rfl (by decide)
theorem dX11_read_93 : decode cX11_read 93 = .ok (.bipush (-20), 2) := op_16 (a := 236) kcX11_read (Nat.le_of_ble_eq_true rfl) rfl rfl (by decide)
theorem dX11_read_95 : decode cX11_read 95 = .ok (.iload 8, 2) := op_21 (a := 8) kcX11_read (Nat.le_of_ble_eq_true rfl) rfl rfl
theorem dX11_read_97 : decode cX11_read 97 = .ok (.isub, 1) := op_100 kcX11_read (Nat.le_of_ble_eq_true rfl) rfl
theorem dX11_read_98 : decode cX11_read 98 = .ok (.ireturn, 1) := op_172 kcX11_read (Nat.le_of_ble_eq_true rfl) rfl
theorem dX11_read_99 : decode cX11_read 99 = .ok (.iload 8, 2) := op_21 (a := 8) kcX11_read (Nat.le_of_ble_eq_true rfl) rfl rfl
theorem dX11_read_101 : decode cX11_read 101 = .ok (.iconst 1, 1) := op_4 kcX11_read (Nat.le_of_ble_eq_true rfl) rfl
theorem dX11_read_102 : decode cX11_read 102 = .ok (.iadd, 1) := op_96 kcX11_read (Nat.le_of_ble_eq_true rfl) rfl
theorem dX11_read_103 : decode cX11_read 103 = .ok (.istore 7, 2) := op_54 (a := 7) kcX11_read (Nat.le_of_ble_eq_true rfl) rfl rfl
theorem dX11_read_105 : decode cX11_read 105 = .ok (.iinc 8 1, 3) := by decide +kernel
theorem dX11_read_108 : decode cX11_read 108 = .ok (.goto (-63), 3) := op_167 (a := 255) (b := 193) kcX11_read (Nat.le_of_ble_eq_true rfl) rfl rfl rfl (by decide)
theorem dX11_read_111 : decode cX11_read 111 = .ok (.iconst 0, 1) := op_3 kcX11_read (Nat.le_of_ble_eq_true rfl) rfl
theorem dX11_read_112 : decode cX11_read 112 = .ok (.istore 8, 2) := op_54 (a := 8) kcX11_read (Nat.le_of_ble_eq_true rfl) rfl rfl
theorem dX11_read_114 : decode cX11_read 114 = .ok (.iload 8, 2) := op_21 (a := 8) kcX11_read (Nat.le_of_ble_eq_true rfl) rfl rfl
theorem dX11_read_116 : decode cX11_read 116 = .ok (.iload 7, 2) := op_21 (a := 7) kcX11_read (Nat.le_of_ble_eq_true rfl) rfl rfl
theorem dX11_read_118 : decode cX11_read 118 = .ok (.if_icmp .ge 26, 3) := op_162 (a := 0) (b := 26) kcX11_read (Nat.le_of_ble_eq_true rfl) rfl rfl rfl (by decide)
theorem dX11_read_121 : decode cX11_read 121 = .ok (.aload_n 0, 1) := op_42 kcX11_read (Nat.le_of_ble_eq_true rfl) rfl
theorem dX11_read_122 : decode cX11_read 122 = .ok (.getfield 44, 3) := op_180 (a := 0) (b := 44) kcX11_read (Nat.le_of_ble_eq_true rfl) rfl rfl rfl
theorem dX11_read_125 : decode cX11_read 125 = .ok (.aload 5, 2) := op_25 (a := 5) kcX11_read (Nat.le_of_ble_eq_true rfl) rfl rfl
theorem dX11_read_127 : decode cX11_read 127 = .ok (.getfield 293, 3) := op_180 (a := 1) (b := 37) kcX11_read (Nat.le_of_ble_eq_true rfl) rfl rfl rfl
theorem dX11_read_130 : decode cX11_read 130 = .ok (.iload_n 3, 1) := op_29 kcX11_read (Nat.le_of_ble_eq_true rfl) rfl
theorem dX11_read_131 : decode cX11_read 131 = .ok (.iload 8, 2) := op_21 (a := 8) kcX11_read (Nat.le_of_ble_eq_true rfl) rfl rfl
theorem dX11_read_133 : decode cX11_read 133 = .ok (.iadd, 1) := op_96 kcX11_read (Nat.le_of_ble_eq_true rfl) rfl
theorem dX11_read_134 : decode cX11_read 134 = .ok (.iaload, 1) := op_46 kcX11_read (Nat.le_of_ble_eq_true rfl) rfl
theorem dX11_read_135 : decode cX11_read 135 = .ok (.invokevirtual 196, 3) := op_182 (a := 0) (b := 196) kcX11_read (Nat.le_of_ble_eq_true rfl) rfl rfl rfl
theorem dX11_read_138 : decode cX11_read 138 = .ok (.iinc 8 1, 3) := by decide +kernel
theorem dX11_read_141 : decode cX11_read 141 = .ok (.goto (-27), 3) := op_167 (a := 255) (b := 229) kcX11_read (Nat.le_of_ble_eq_true rfl) rfl rfl rfl (by decide)
theorem dX11_read_144 : decode cX11_read 144 = .ok (.aload_n 0, 1) := op_42 kcX11_read (Nat.le_of_ble_eq_true rfl) rfl
theorem dX11_read_145 : decode cX11_read 145 = .ok (.iload 6, 2) := op_21 (a := 6) kcX11_read (Nat.le_of_ble_eq_true rfl) rfl rfl
theorem dX11_read_147 : decode cX11_read 147 = .ok (.putfield 103, 3) := op_181 (a := 0) (b := 103) kcX11_read (Nat.le_of_ble_eq_true rfl) rfl rfl rfl
theorem dX11_read_150 : decode cX11_read 150 = .ok (.iload 7, 2) := op_21 (a := 7) kcX11_read (Nat.le_of_ble_eq_true rfl) rfl rfl
theorem dX11_read_152 : decode cX11_read 152 = .ok (.ireturn, 1) := op_172 kcX11_read (Nat.le_of_ble_eq_true rfl) rfl
theorem kcX11_torn : (cX11_torn).data.toList = cbs 0xac6700b42a 5 := by decide +kernel
theorem dX11_torn_0 : decode cX11_torn 0 = .ok (.aload_n 0, 1) := op_42 kcX11_torn (Nat.le_of_ble_eq_true rfl) rfl
theorem dX11_torn_1 : decode cX11_torn 1 = .ok (.getfield 103, 3) := op_180 (a := 0) (b := 103) kcX11_torn (Nat.le_of_ble_eq_true rfl) rfl rfl rfl
theorem dX11_torn_4 : decode cX11_torn 4 = .ok (.ireturn, 1) := op_172 kcX11_torn (Nat.le_of_ble_eq_true rfl) rfl
set_option maxRecDepth 20000 in
theorem ggX11_count_X7_isNothing : GoodIn wsX11_count wsX7_isNothing := goodIn_r _ [12, 13, 52, 53, 54] rfl gw_wsX7_isNothing
set_option maxRecDepth 20000 in
theorem gX11_count_X7_isNothing : GoodIn wsX11_count (wsV RX11 299 RX7 yX7_isNothing wsX7_isNothing) := goodIn_app (goodIn_of _ (by decide +kernel)) ggX11_count_X7_isNothing
set_option maxRecDepth 20000 in
theorem gw_wsX11_piecesInPot : (wsX11_piecesInPot).all goodWord = true := by decide +kernel
set_option maxRecDepth 20000 in
theorem ggX11_count_X11_piecesInPot : GoodIn wsX11_count wsX11_piecesInPot := goodIn_r _ [18, 19, 20, 1, 21, 22, 23, 24, 25, 26, 27, 28, 29, 30, 31, 32, 33, 34, 35, 36, 55, 56, 57, 58, 59, 60, 61, 37, 38, 39, 40, 41, 42, 43, 44, 45] rfl gw_wsX11_piecesInPot
set_option maxRecDepth 20000 in
theorem gX11_count_X11_piecesInPot : GoodIn wsX11_count (wsV RX11 306 RX11 yX11_piecesInPot wsX11_piecesInPot) := goodIn_app (goodIn_of _ (by decide +kernel)) ggX11_count_X11_piecesInPot
theorem kcX11_count : (cX11_count).data.toList = cbs 0xac02ac3201b62aac2f01b432035f00b42a0c00a7fc100800992b01b632035f00b42aac6f00b41a00b42aac60030400a70407009933045900b42a030400a70407009933035900b42aacf700b41300b42a6c00000051000000490000002b000000230000000400000000000000710000000000aa1b 116 := by decide +kernel
theorem dX11_count_0 : decode cX11_count 0 = .ok (.iload_n 1, 1) := op_27 kcX11_count (Nat.le_of_ble_eq_true rfl) rfl
theorem dX11_count_1 : decode cX11_count 1 = .ok (.tableswitch 113 0 4 #[35, 43, 73, 81, 108], 35) := by decide +kernel
theorem dX11_count_36 : decode cX11_count 36 = .ok (.aload_n 0, 1) := op_42 kcX11_count (Nat.le_of_ble_eq_true rfl) rfl
theorem dX11_count_37 : decode cX11_count 37 = .ok (.getfield 19, 3) := op_180 (a := 0) (b := 19) kcX11_count (Nat.le_of_ble_eq_true rfl) rfl rfl rfl
theorem dX11_count_40 : decode cX11_count 40 = .ok (.getfield 247, 3) := op_180 (a := 0) (b := 247) kcX11_count (Nat.le_of_ble_eq_true rfl) rfl rfl rfl
theorem dX11_count_43 : decode cX11_count 43 = .ok (.ireturn, 1) := op_172 kcX11_count (Nat.le_of_ble_eq_true rfl) rfl
theorem dX11_count_44 : decode cX11_count 44 = .ok (.aload_n 0, 1) := op_42 kcX11_count (Nat.le_of_ble_eq_true rfl) rfl
theorem dX11_count_45 : decode cX11_count 45 = .ok (.getfield 89, 3) := op_180 (a := 0) (b := 89) kcX11_count (Nat.le_of_ble_eq_true rfl) rfl rfl rfl
theorem dX11_count_48 : decode cX11_count 48 = .ok (.iconst 0, 1) := op_3 kcX11_count (Nat.le_of_ble_eq_true rfl) rfl
theorem dX11_count_49 : decode cX11_count 49 = .ok (.baload, 1) := op_51 kcX11_count (Nat.le_of_ble_eq_true rfl) rfl
theorem dX11_count_50 : decode cX11_count 50 = .ok (.ifCond .eq 7, 3) := op_153 (a := 0) (b := 7) kcX11_count (Nat.le_of_ble_eq_true rfl) rfl rfl rfl (by decide)
theorem dX11_count_53 : decode cX11_count 53 = .ok (.iconst 1, 1) := op_4 kcX11_count (Nat.le_of_ble_eq_true rfl) rfl
theorem dX11_count_54 : decode cX11_count 54 = .ok (.goto 4, 3) := op_167 (a := 0) (b := 4) kcX11_count (Nat.le_of_ble_eq_true rfl) rfl rfl rfl (by decide)
theorem dX11_count_57 : decode cX11_count 57 = .ok (.iconst 0, 1) := op_3 kcX11_count (Nat.le_of_ble_eq_true rfl) rfl
theorem dX11_count_58 : decode cX11_count 58 = .ok (.aload_n 0, 1) := op_42 kcX11_count (Nat.le_of_ble_eq_true rfl) rfl
theorem dX11_count_59 : decode cX11_count 59 = .ok (.getfield 89, 3) := op_180 (a := 0) (b := 89) kcX11_count (Nat.le_of_ble_eq_true rfl) rfl rfl rfl
theorem dX11_count_62 : decode cX11_count 62 = .ok (.iconst 1, 1) := op_4 kcX11_count (Nat.le_of_ble_eq_true rfl) rfl
theorem dX11_count_63 : decode cX11_count 63 = .ok (.baload, 1) := op_51 kcX11_count (Nat.le_of_ble_eq_true rfl) rfl
theorem dX11_count_64 : decode cX11_count 64 = .ok (.ifCond .eq 7, 3) := op_153 (a := 0) (b := 7) kcX11_count (Nat.le_of_ble_eq_true rfl) rfl rfl rfl (by decide)
theorem dX11_count_67 : decode cX11_count 67 = .ok (.iconst 1, 1) := op_4 kcX11_count (Nat.le_of_ble_eq_true rfl) rfl
theorem dX11_count_68 : decode cX11_count 68 = .ok (.goto 4, 3) := op_167 (a := 0) (b := 4) kcX11_count (Nat.le_of_ble_eq_true rfl) rfl rfl rfl (by decide)
theorem dX11_count_71 : decode cX11_count 71 = .ok (.iconst 0, 1) := op_3 kcX11_count (Nat.le_of_ble_eq_true rfl) rfl
theorem dX11_count_72 : decode cX11_count 72 = .ok (.iadd, 1) := op_96 kcX11_count (Nat.le_of_ble_eq_true rfl) rfl
theorem dX11_count_73 : decode cX11_count 73 = .ok (.ireturn, 1) := op_172 kcX11_count (Nat.le_of_ble_eq_true rfl) rfl
theorem dX11_count_74 : decode cX11_count 74 = .ok (.aload_n 0, 1) := op_42 kcX11_count (Nat.le_of_ble_eq_true rfl) rfl
theorem dX11_count_75 : decode cX11_count 75 = .ok (.getfield 26, 3) := op_180 (a := 0) (b := 26) kcX11_count (Nat.le_of_ble_eq_true rfl) rfl rfl rfl
theorem dX11_count_78 : decode cX11_count 78 = .ok (.getfield 111, 3) := op_180 (a := 0) (b := 111) kcX11_count (Nat.le_of_ble_eq_true rfl) rfl rfl rfl
theorem dX11_count_81 : decode cX11_count 81 = .ok (.ireturn, 1) := op_172 kcX11_count (Nat.le_of_ble_eq_true rfl) rfl
theorem dX11_count_82 : decode cX11_count 82 = .ok (.aload_n 0, 1) := op_42 kcX11_count (Nat.le_of_ble_eq_true rfl) rfl
theorem dX11_count_83 : decode cX11_count 83 = .ok (.getfield 95, 3) := op_180 (a := 0) (b := 95) kcX11_count (Nat.le_of_ble_eq_true rfl) rfl rfl rfl
theorem dX11_count_86 : decode cX11_count 86 = .ok (.iconst 0, 1) := op_3 kcX11_count (Nat.le_of_ble_eq_true rfl) rfl
theorem dX11_count_87 : decode cX11_count 87 = .ok (.aaload, 1) := op_50 kcX11_count (Nat.le_of_ble_eq_true rfl) rfl
theorem dX11_count_88 : decode cX11_count 88 = .ok (.invokevirtual 299, 3) := op_182 (a := 1) (b := 43) kcX11_count (Nat.le_of_ble_eq_true rfl) rfl rfl rfl
theorem dX11_count_91 : decode cX11_count 91 = .ok (.ifCond .eq 8, 3) := op_153 (a := 0) (b := 8) kcX11_count (Nat.le_of_ble_eq_true rfl) rfl rfl rfl (by decide)
theorem dX11_count_94 : decode cX11_count 94 = .ok (.bipush (-4), 2) := op_16 (a := 252) kcX11_count (Nat.le_of_ble_eq_true rfl) rfl rfl (by decide)
theorem dX11_count_96 : decode cX11_count 96 = .ok (.goto 12, 3) := op_167 (a := 0) (b := 12) kcX11_count (Nat.le_of_ble_eq_true rfl) rfl rfl rfl (by decide)
theorem dX11_count_99 : decode cX11_count 99 = .ok (.aload_n 0, 1) := op_42 kcX11_count (Nat.le_of_ble_eq_true rfl) rfl
theorem dX11_count_100 : decode cX11_count 100 = .ok (.getfield 95, 3) := op_180 (a := 0) (b := 95) kcX11_count (Nat.le_of_ble_eq_true rfl) rfl rfl rfl
theorem dX11_count_103 : decode cX11_count 103 = .ok (.iconst 0, 1) := op_3 kcX11_count (Nat.le_of_ble_eq_true rfl) rfl
theorem dX11_count_104 : decode cX11_count 104 = .ok (.aaload, 1) := op_50 kcX11_count (Nat.le_of_ble_eq_true rfl) rfl
theorem dX11_count_105 : decode cX11_count 105 = .ok (.getfield 303, 3) := op_180 (a := 1) (b := 47) kcX11_count (Nat.le_of_ble_eq_true rfl) rfl rfl rfl
theorem dX11_count_108 : decode cX11_count 108 = .ok (.ireturn, 1) := op_172 kcX11_count (Nat.le_of_ble_eq_true rfl) rfl
theorem dX11_count_109 : decode cX11_count 109 = .ok (.aload_n 0, 1) := op_42 kcX11_count (Nat.le_of_ble_eq_true rfl) rfl
theorem dX11_count_110 : decode cX11_count 110 = .ok (.invokevirtual 306, 3) := op_182 (a := 1) (b := 50) kcX11_count (Nat.le_of_ble_eq_true rfl) rfl rfl rfl
theorem dX11_count_113 : decode cX11_count 113 = .ok (.ireturn, 1) := op_172 kcX11_count (Nat.le_of_ble_eq_true rfl) rfl
theorem dX11_count_114 : decode cX11_count 114 = .ok (.iconst (-1), 1) := op_2 kcX11_count (Nat.le_of_ble_eq_true rfl) rfl
theorem dX11_count_115 : decode cX11_count 115 = .ok (.ireturn, 1) := op_172 kcX11_count (Nat.le_of_ble_eq_true rfl) rfl
theorem kcX11_piecesInPot : (cX11_piecesInPot).data.toList = cbs 0xac1be6ffa70102843c602e1c9500b41300b42a1b1500a28200b40a00b42a1c3d033c03 35 := by decide +kernel
theorem dX11_piecesInPot_0 : decode cX11_piecesInPot 0 = .ok (.iconst 0, 1) := op_3 kcX11_piecesInPot (Nat.le_of_ble_eq_true rfl) rfl
theorem dX11_piecesInPot_1 : decode cX11_piecesInPot 1 = .ok (.istore_n 1, 1) := op_60 kcX11_piecesInPot (Nat.le_of_ble_eq_true rfl) rfl
theorem dX11_piecesInPot_2 : decode cX11_piecesInPot 2 = .ok (.iconst 0, 1) := op_3 kcX11_piecesInPot (Nat.le_of_ble_eq_true rfl) rfl
theorem dX11_piecesInPot_3 : decode cX11_piecesInPot 3 = .ok (.istore_n 2, 1) := op_61 kcX11_piecesInPot (Nat.le_of_ble_eq_true rfl) rfl
theorem dX11_piecesInPot_4 : decode cX11_piecesInPot 4 = .ok (.iload_n 2, 1) := op_28 kcX11_piecesInPot (Nat.le_of_ble_eq_true rfl) rfl
theorem dX11_piecesInPot_5 : decode cX11_piecesInPot 5 = .ok (.aload_n 0, 1) := op_42 kcX11_piecesInPot (Nat.le_of_ble_eq_true rfl) rfl
theorem dX11_piecesInPot_6 : decode cX11_piecesInPot 6 = .ok (.getfield 10, 3) := op_180 (a := 0) (b := 10) kcX11_piecesInPot (Nat.le_of_ble_eq_true rfl) rfl rfl rfl
theorem dX11_piecesInPot_9 : decode cX11_piecesInPot 9 = .ok (.getfield 130, 3) := op_180 (a := 0) (b := 130) kcX11_piecesInPot (Nat.le_of_ble_eq_true rfl) rfl rfl rfl
theorem dX11_piecesInPot_12 : decode cX11_piecesInPot 12 = .ok (.if_icmp .ge 21, 3) := op_162 (a := 0) (b := 21) kcX11_piecesInPot (Nat.le_of_ble_eq_true rfl) rfl rfl rfl (by decide)
theorem dX11_piecesInPot_15 : decode cX11_piecesInPot 15 = .ok (.iload_n 1, 1) := op_27 kcX11_piecesInPot (Nat.le_of_ble_eq_true rfl) rfl
theorem dX11_piecesInPot_16 : decode cX11_piecesInPot 16 = .ok (.aload_n 0, 1) := op_42 kcX11_piecesInPot (Nat.le_of_ble_eq_true rfl) rfl
theorem dX11_piecesInPot_17 : decode cX11_piecesInPot 17 = .ok (.getfield 19, 3) := op_180 (a := 0) (b := 19) kcX11_piecesInPot (Nat.le_of_ble_eq_true rfl) rfl rfl rfl
theorem dX11_piecesInPot_20 : decode cX11_piecesInPot 20 = .ok (.getfield 149, 3) := op_180 (a := 0) (b := 149) kcX11_piecesInPot (Nat.le_of_ble_eq_true rfl) rfl rfl rfl
theorem dX11_piecesInPot_23 : decode cX11_piecesInPot 23 = .ok (.iload_n 2, 1) := op_28 kcX11_piecesInPot (Nat.le_of_ble_eq_true rfl) rfl
theorem dX11_piecesInPot_24 : decode cX11_piecesInPot 24 = .ok (.iaload, 1) := op_46 kcX11_piecesInPot (Nat.le_of_ble_eq_true rfl) rfl
theorem dX11_piecesInPot_25 : decode cX11_piecesInPot 25 = .ok (.iadd, 1) := op_96 kcX11_piecesInPot (Nat.le_of_ble_eq_true rfl) rfl
theorem dX11_piecesInPot_26 : decode cX11_piecesInPot 26 = .ok (.istore_n 1, 1) := op_60 kcX11_piecesInPot (Nat.le_of_ble_eq_true rfl) rfl
theorem dX11_piecesInPot_27 : decode cX11_piecesInPot 27 = .ok (.iinc 2 1, 3) := by decide +kernel
theorem dX11_piecesInPot_30 : decode cX11_piecesInPot 30 = .ok (.goto (-26), 3) := op_167 (a := 255) (b := 230) kcX11_piecesInPot (Nat.le_of_ble_eq_true rfl) rfl rfl rfl (by decide)
theorem dX11_piecesInPot_33 : decode cX11_piecesInPot 33 = .ok (.iload_n 1, 1) := op_27 kcX11_piecesInPot (Nat.le_of_ble_eq_true rfl) rfl
theorem dX11_piecesInPot_34 : decode cX11_piecesInPot 34 = .ok (.ireturn, 1) := op_172 kcX11_piecesInPot (Nat.le_of_ble_eq_true rfl) rfl
set_option maxRecDepth 20000 in
theorem ggX11_canPass_X6_hasStir : GoodIn wsX11_canPass wsX6_hasStir := goodIn_r _ [8, 9, 34, 35, 36, 37, 38, 39, 40] rfl gw_wsX6_hasStir
set_option maxRecDepth 20000 in
theorem gX11_canPass_X6_hasStir : GoodIn wsX11_canPass (wsV RX11 165 RX6 yX6_hasStir wsX6_hasStir) := goodIn_app (goodIn_of _ (by decide +kernel)) ggX11_canPass_X6_hasStir
theorem kcX11_canPass : (cX11_canPass).data.toList = cbs 0xac030400a7040700a2e70311601c8b00b41300b42a160099a500b61b0a00b42a 32 := by decide +kernel
theorem dX11_canPass_0 : decode cX11_canPass 0 = .ok (.aload_n 0, 1) := op_42 kcX11_canPass (Nat.le_of_ble_eq_true rfl) rfl
theorem dX11_canPass_1 : decode cX11_canPass 1 = .ok (.getfield 10, 3) := op_180 (a := 0) (b := 10) kcX11_canPass (Nat.le_of_ble_eq_true rfl) rfl rfl rfl
theorem dX11_canPass_4 : decode cX11_canPass 4 = .ok (.iload_n 1, 1) := op_27 kcX11_canPass (Nat.le_of_ble_eq_true rfl) rfl
theorem dX11_canPass_5 : decode cX11_canPass 5 = .ok (.invokevirtual 165, 3) := op_182 (a := 0) (b := 165) kcX11_canPass (Nat.le_of_ble_eq_true rfl) rfl rfl rfl
theorem dX11_canPass_8 : decode cX11_canPass 8 = .ok (.ifCond .eq 22, 3) := op_153 (a := 0) (b := 22) kcX11_canPass (Nat.le_of_ble_eq_true rfl) rfl rfl rfl (by decide)
theorem dX11_canPass_11 : decode cX11_canPass 11 = .ok (.aload_n 0, 1) := op_42 kcX11_canPass (Nat.le_of_ble_eq_true rfl) rfl
theorem dX11_canPass_12 : decode cX11_canPass 12 = .ok (.getfield 19, 3) := op_180 (a := 0) (b := 19) kcX11_canPass (Nat.le_of_ble_eq_true rfl) rfl rfl rfl
theorem dX11_canPass_15 : decode cX11_canPass 15 = .ok (.getfield 139, 3) := op_180 (a := 0) (b := 139) kcX11_canPass (Nat.le_of_ble_eq_true rfl) rfl rfl rfl
theorem dX11_canPass_18 : decode cX11_canPass 18 = .ok (.iload_n 2, 1) := op_28 kcX11_canPass (Nat.le_of_ble_eq_true rfl) rfl
theorem dX11_canPass_19 : decode cX11_canPass 19 = .ok (.iadd, 1) := op_96 kcX11_canPass (Nat.le_of_ble_eq_true rfl) rfl
theorem dX11_canPass_20 : decode cX11_canPass 20 = .ok (.sipush 999, 3) := by decide +kernel
theorem dX11_canPass_23 : decode cX11_canPass 23 = .ok (.if_icmp .ge 7, 3) := op_162 (a := 0) (b := 7) kcX11_canPass (Nat.le_of_ble_eq_true rfl) rfl rfl rfl (by decide)
theorem dX11_canPass_26 : decode cX11_canPass 26 = .ok (.iconst 1, 1) := op_4 kcX11_canPass (Nat.le_of_ble_eq_true rfl) rfl
theorem dX11_canPass_27 : decode cX11_canPass 27 = .ok (.goto 4, 3) := op_167 (a := 0) (b := 4) kcX11_canPass (Nat.le_of_ble_eq_true rfl) rfl rfl rfl (by decide)
theorem dX11_canPass_30 : decode cX11_canPass 30 = .ok (.iconst 0, 1) := op_3 kcX11_canPass (Nat.le_of_ble_eq_true rfl) rfl
theorem dX11_canPass_31 : decode cX11_canPass 31 = .ok (.ireturn, 1) := op_172 kcX11_canPass (Nat.le_of_ble_eq_true rfl) rfl
theorem kcX11_isPart : (cX11_isPart).data.toList = cbs 0xac030400a7040700a0041a0800991a 15 := by decide +kernel
theorem dX11_isPart_0 : decode cX11_isPart 0 = .ok (.iload_n 0, 1) := op_26 kcX11_isPart (Nat.le_of_ble_eq_true rfl) rfl
theorem dX11_isPart_1 : decode cX11_isPart 1 = .ok (.ifCond .eq 8, 3) := op_153 (a := 0) (b := 8) kcX11_isPart (Nat.le_of_ble_eq_true rfl) rfl rfl rfl (by decide)
theorem dX11_isPart_4 : decode cX11_isPart 4 = .ok (.iload_n 0, 1) := op_26 kcX11_isPart (Nat.le_of_ble_eq_true rfl) rfl
theorem dX11_isPart_5 : decode cX11_isPart 5 = .ok (.iconst 1, 1) := op_4 kcX11_isPart (Nat.le_of_ble_eq_true rfl) rfl
theorem dX11_isPart_6 : decode cX11_isPart 6 = .ok (.if_icmp .ne 7, 3) := op_160 (a := 0) (b := 7) kcX11_isPart (Nat.le_of_ble_eq_true rfl) rfl rfl rfl (by decide)
theorem dX11_isPart_9 : decode cX11_isPart 9 = .ok (.iconst 1, 1) := op_4 kcX11_isPart (Nat.le_of_ble_eq_true rfl) rfl
theorem dX11_isPart_10 : decode cX11_isPart 10 = .ok (.goto 4, 3) := op_167 (a := 0) (b := 4) kcX11_isPart (Nat.le_of_ble_eq_true rfl) rfl rfl rfl (by decide)
theorem dX11_isPart_13 : decode cX11_isPart 13 = .ok (.iconst 0, 1) := op_3 kcX11_isPart (Nat.le_of_ble_eq_true rfl) rfl
theorem dX11_isPart_14 : decode cX11_isPart 14 = .ok (.ireturn, 1) := op_172 kcX11_isPart (Nat.le_of_ble_eq_true rfl) rfl
theorem kcX11_isRowQuestion : (cX11_isRowQuestion).data.toList = cbs 0xac030400a7040700a2601b0a101a0f00a10a101a1100991a 24 := by decide +kernel
theorem dX11_isRowQuestion_0 : decode cX11_isRowQuestion 0 = .ok (.iload_n 0, 1) := op_26 kcX11_isRowQuestion (Nat.le_of_ble_eq_true rfl) rfl
theorem dX11_isRowQuestion_1 : decode cX11_isRowQuestion 1 = .ok (.ifCond .eq 17, 3) := op_153 (a := 0) (b := 17) kcX11_isRowQuestion (Nat.le_of_ble_eq_true rfl) rfl rfl rfl (by decide)
theorem dX11_isRowQuestion_4 : decode cX11_isRowQuestion 4 = .ok (.iload_n 0, 1) := op_26 kcX11_isRowQuestion (Nat.le_of_ble_eq_true rfl) rfl
theorem dX11_isRowQuestion_5 : decode cX11_isRowQuestion 5 = .ok (.bipush 10, 2) := op_16 (a := 10) kcX11_isRowQuestion (Nat.le_of_ble_eq_true rfl) rfl rfl (by decide)
theorem dX11_isRowQuestion_7 : decode cX11_isRowQuestion 7 = .ok (.if_icmp .lt 15, 3) := op_161 (a := 0) (b := 15) kcX11_isRowQuestion (Nat.le_of_ble_eq_true rfl) rfl rfl rfl (by decide)
theorem dX11_isRowQuestion_10 : decode cX11_isRowQuestion 10 = .ok (.iload_n 0, 1) := op_26 kcX11_isRowQuestion (Nat.le_of_ble_eq_true rfl) rfl
theorem dX11_isRowQuestion_11 : decode cX11_isRowQuestion 11 = .ok (.bipush 10, 2) := op_16 (a := 10) kcX11_isRowQuestion (Nat.le_of_ble_eq_true rfl) rfl rfl (by decide)
theorem dX11_isRowQuestion_13 : decode cX11_isRowQuestion 13 = .ok (.iload_n 1, 1) := op_27 kcX11_isRowQuestion (Nat.le_of_ble_eq_true rfl) rfl
theorem dX11_isRowQuestion_14 : decode cX11_isRowQuestion 14 = .ok (.iadd, 1) := op_96 kcX11_isRowQuestion (Nat.le_of_ble_eq_true rfl) rfl
theorem dX11_isRowQuestion_15 : decode cX11_isRowQuestion 15 = .ok (.if_icmp .ge 7, 3) := op_162 (a := 0) (b := 7) kcX11_isRowQuestion (Nat.le_of_ble_eq_true rfl) rfl rfl rfl (by decide)
theorem dX11_isRowQuestion_18 : decode cX11_isRowQuestion 18 = .ok (.iconst 1, 1) := op_4 kcX11_isRowQuestion (Nat.le_of_ble_eq_true rfl) rfl
theorem dX11_isRowQuestion_19 : decode cX11_isRowQuestion 19 = .ok (.goto 4, 3) := op_167 (a := 0) (b := 4) kcX11_isRowQuestion (Nat.le_of_ble_eq_true rfl) rfl rfl rfl (by decide)
theorem dX11_isRowQuestion_22 : decode cX11_isRowQuestion 22 = .ok (.iconst 0, 1) := op_3 kcX11_isRowQuestion (Nat.le_of_ble_eq_true rfl) rfl
theorem dX11_isRowQuestion_23 : decode cX11_isRowQuestion 23 = .ok (.ireturn, 1) := op_172 kcX11_isRowQuestion (Nat.le_of_ble_eq_true rfl) rfl
theorem kcX11_ofRow : (cX11_ofRow).data.toList = cbs 0xacfc100500a72e1c2a0900a2be2a1c0f00a21b1c14009b1c 24 := by decide +kernel
theorem dX11_ofRow_0 : decode cX11_ofRow 0 = .ok (.iload_n 2, 1) := op_28 kcX11_ofRow (Nat.le_of_ble_eq_true rfl) rfl
theorem dX11_ofRow_1 : decode cX11_ofRow 1 = .ok (.ifCond .lt 20, 3) := op_155 (a := 0) (b := 20) kcX11_ofRow (Nat.le_of_ble_eq_true rfl) rfl rfl rfl (by decide)
theorem dX11_ofRow_4 : decode cX11_ofRow 4 = .ok (.iload_n 2, 1) := op_28 kcX11_ofRow (Nat.le_of_ble_eq_true rfl) rfl
theorem dX11_ofRow_5 : decode cX11_ofRow 5 = .ok (.iload_n 1, 1) := op_27 kcX11_ofRow (Nat.le_of_ble_eq_true rfl) rfl
theorem dX11_ofRow_6 : decode cX11_ofRow 6 = .ok (.if_icmp .ge 15, 3) := op_162 (a := 0) (b := 15) kcX11_ofRow (Nat.le_of_ble_eq_true rfl) rfl rfl rfl (by decide)
theorem dX11_ofRow_9 : decode cX11_ofRow 9 = .ok (.iload_n 2, 1) := op_28 kcX11_ofRow (Nat.le_of_ble_eq_true rfl) rfl
theorem dX11_ofRow_10 : decode cX11_ofRow 10 = .ok (.aload_n 0, 1) := op_42 kcX11_ofRow (Nat.le_of_ble_eq_true rfl) rfl
theorem dX11_ofRow_11 : decode cX11_ofRow 11 = .ok (.arraylength, 1) := op_190 kcX11_ofRow (Nat.le_of_ble_eq_true rfl) rfl
theorem dX11_ofRow_12 : decode cX11_ofRow 12 = .ok (.if_icmp .ge 9, 3) := op_162 (a := 0) (b := 9) kcX11_ofRow (Nat.le_of_ble_eq_true rfl) rfl rfl rfl (by decide)
theorem dX11_ofRow_15 : decode cX11_ofRow 15 = .ok (.aload_n 0, 1) := op_42 kcX11_ofRow (Nat.le_of_ble_eq_true rfl) rfl
theorem dX11_ofRow_16 : decode cX11_ofRow 16 = .ok (.iload_n 2, 1) := op_28 kcX11_ofRow (Nat.le_of_ble_eq_true rfl) rfl
theorem dX11_ofRow_17 : decode cX11_ofRow 17 = .ok (.iaload, 1) := op_46 kcX11_ofRow (Nat.le_of_ble_eq_true rfl) rfl
theorem dX11_ofRow_18 : decode cX11_ofRow 18 = .ok (.goto 5, 3) := op_167 (a := 0) (b := 5) kcX11_ofRow (Nat.le_of_ble_eq_true rfl) rfl rfl rfl (by decide)
theorem dX11_ofRow_21 : decode cX11_ofRow 21 = .ok (.bipush (-4), 2) := op_16 (a := 252) kcX11_ofRow (Nat.le_of_ble_eq_true rfl) rfl rfl (by decide)
theorem dX11_ofRow_23 : decode cX11_ofRow 23 = .ok (.ireturn, 1) := op_172 kcX11_ofRow (Nat.le_of_ble_eq_true rfl) rfl
theorem kcX11_isImage : (cX11_isImage).data.toList = cbs 0xac030400a7040700a2051a0c009b1a 15 := by decide +kernel
theorem dX11_isImage_0 : decode cX11_isImage 0 = .ok (.iload_n 0, 1) := op_26 kcX11_isImage (Nat.le_of_ble_eq_true rfl) rfl
theorem dX11_isImage_1 : decode cX11_isImage 1 = .ok (.ifCond .lt 12, 3) := op_155 (a := 0) (b := 12) kcX11_isImage (Nat.le_of_ble_eq_true rfl) rfl rfl rfl (by decide)
theorem dX11_isImage_4 : decode cX11_isImage 4 = .ok (.iload_n 0, 1) := op_26 kcX11_isImage (Nat.le_of_ble_eq_true rfl) rfl
theorem dX11_isImage_5 : decode cX11_isImage 5 = .ok (.iconst 2, 1) := op_5 kcX11_isImage (Nat.le_of_ble_eq_true rfl) rfl
theorem dX11_isImage_6 : decode cX11_isImage 6 = .ok (.if_icmp .ge 7, 3) := op_162 (a := 0) (b := 7) kcX11_isImage (Nat.le_of_ble_eq_true rfl) rfl rfl rfl (by decide)
theorem dX11_isImage_9 : decode cX11_isImage 9 = .ok (.iconst 1, 1) := op_4 kcX11_isImage (Nat.le_of_ble_eq_true rfl) rfl
theorem dX11_isImage_10 : decode cX11_isImage 10 = .ok (.goto 4, 3) := op_167 (a := 0) (b := 4) kcX11_isImage (Nat.le_of_ble_eq_true rfl) rfl rfl rfl (by decide)
theorem dX11_isImage_13 : decode cX11_isImage 13 = .ok (.iconst 0, 1) := op_3 kcX11_isImage (Nat.le_of_ble_eq_true rfl) rfl
theorem dX11_isImage_14 : decode cX11_isImage 14 = .ok (.ireturn, 1) := op_172 kcX11_isImage (Nat.le_of_ble_eq_true rfl) rfl
theorem kcX11_isSheet : (cX11_isSheet).data.toList = cbs 0xac030400a7040700a2071a0c009b1a 15 := by decide +kernel
theorem dX11_isSheet_0 : decode cX11_isSheet 0 = .ok (.iload_n 0, 1) := op_26 kcX11_isSheet (Nat.le_of_ble_eq_true rfl) rfl
theorem dX11_isSheet_1 : decode cX11_isSheet 1 = .ok (.ifCond .lt 12, 3) := op_155 (a := 0) (b := 12) kcX11_isSheet (Nat.le_of_ble_eq_true rfl) rfl rfl rfl (by decide)
theorem dX11_isSheet_4 : decode cX11_isSheet 4 = .ok (.iload_n 0, 1) := op_26 kcX11_isSheet (Nat.le_of_ble_eq_true rfl) rfl
theorem dX11_isSheet_5 : decode cX11_isSheet 5 = .ok (.iconst 4, 1) := op_7 kcX11_isSheet (Nat.le_of_ble_eq_true rfl) rfl
theorem dX11_isSheet_6 : decode cX11_isSheet 6 = .ok (.if_icmp .ge 7, 3) := op_162 (a := 0) (b := 7) kcX11_isSheet (Nat.le_of_ble_eq_true rfl) rfl rfl rfl (by decide)
theorem dX11_isSheet_9 : decode cX11_isSheet 9 = .ok (.iconst 1, 1) := op_4 kcX11_isSheet (Nat.le_of_ble_eq_true rfl) rfl
theorem dX11_isSheet_10 : decode cX11_isSheet 10 = .ok (.goto 4, 3) := op_167 (a := 0) (b := 4) kcX11_isSheet (Nat.le_of_ble_eq_true rfl) rfl rfl rfl (by decide)
theorem dX11_isSheet_13 : decode cX11_isSheet 13 = .ok (.iconst 0, 1) := op_3 kcX11_isSheet (Nat.le_of_ble_eq_true rfl) rfl
theorem dX11_isSheet_14 : decode cX11_isSheet 14 = .ok (.ireturn, 1) := op_172 kcX11_isSheet (Nat.le_of_ble_eq_true rfl) rfl
theorem kcX11_isLane : (cX11_isLane).data.toList = cbs 0xac030400a7040700a2061a0c009b1a 15 := by decide +kernel
theorem dX11_isLane_0 : decode cX11_isLane 0 = .ok (.iload_n 0, 1) := op_26 kcX11_isLane (Nat.le_of_ble_eq_true rfl) rfl
theorem dX11_isLane_1 : decode cX11_isLane 1 = .ok (.ifCond .lt 12, 3) := op_155 (a := 0) (b := 12) kcX11_isLane (Nat.le_of_ble_eq_true rfl) rfl rfl rfl (by decide)
theorem dX11_isLane_4 : decode cX11_isLane 4 = .ok (.iload_n 0, 1) := op_26 kcX11_isLane (Nat.le_of_ble_eq_true rfl) rfl
theorem dX11_isLane_5 : decode cX11_isLane 5 = .ok (.iconst 3, 1) := op_6 kcX11_isLane (Nat.le_of_ble_eq_true rfl) rfl
theorem dX11_isLane_6 : decode cX11_isLane 6 = .ok (.if_icmp .ge 7, 3) := op_162 (a := 0) (b := 7) kcX11_isLane (Nat.le_of_ble_eq_true rfl) rfl rfl rfl (by decide)
theorem dX11_isLane_9 : decode cX11_isLane 9 = .ok (.iconst 1, 1) := op_4 kcX11_isLane (Nat.le_of_ble_eq_true rfl) rfl
theorem dX11_isLane_10 : decode cX11_isLane 10 = .ok (.goto 4, 3) := op_167 (a := 0) (b := 4) kcX11_isLane (Nat.le_of_ble_eq_true rfl) rfl rfl rfl (by decide)
theorem dX11_isLane_13 : decode cX11_isLane 13 = .ok (.iconst 0, 1) := op_3 kcX11_isLane (Nat.le_of_ble_eq_true rfl) rfl
theorem dX11_isLane_14 : decode cX11_isLane 14 = .ok (.ireturn, 1) := op_172 kcX11_isLane (Nat.le_of_ble_eq_true rfl) rfl
set_option maxRecDepth 20000 in
theorem gw_wsX12_firstDraft : (wsX12_firstDraft).all goodWord = true := by decide +kernel
set_option maxRecDepth 20000 in
theorem ggX12_init_X12_firstDraft : GoodIn wsX12_init wsX12_firstDraft := goodIn_r _ [34, 10, 12, 35, 36, 37, 38, 49, 50, 51, 52, 53, 54, 55, 56, 57, 58, 59, 60, 61, 62, 63, 64, 65, 66, 67, 68, 69, 70, 71, 72, 73, 74, 75, 76, 77, 78, 79, 80, 81, 82, 83, 84, 85] rfl gw_wsX12_firstDraft
set_option maxRecDepth 20000 in
theorem gX12_init_X12_firstDraft : GoodIn wsX12_init (wsV RX12 81 RX12 yX12_firstDraft wsX12_firstDraft) := goodIn_app (goodIn_of _ (by decide +kernel)) ggX12_init_X12_firstDraft
set_option maxRecDepth 20000 in
theorem gw_wsX12_keepDraft : (wsX12_keepDraft).all goodWord = true := by decide +kernel
set_option maxRecDepth 20000 in
theorem ggX12_init_X12_keepDraft : GoodIn wsX12_init wsX12_keepDraft := goodIn_r _ [42, 5, 10, 35, 43, 36, 44, 9, 12, 8, 7, 45, 46, 47, 33, 48, 11, 49, 50, 51, 52, 53, 54, 55, 56, 57, 58, 59, 60, 61, 62, 63, 64, 65, 66, 67, 68, 69, 70, 71, 72, 73, 74, 75, 76, 77, 78, 79, 80, 81, 82, 83, 84, 85] rfl gw_wsX12_keepDraft
set_option maxRecDepth 20000 in
theorem gX12_init_X12_keepDraft : GoodIn wsX12_init (wsV RX12 84 RX12 yX12_keepDraft wsX12_keepDraft) := goodIn_app (goodIn_of _ (by decide +kernel)) ggX12_init_X12_keepDraft
theorem kcX12_init : (cX12_init).data.toList = cbs 0xb15400b62a5100b62af0ffa70101844ffc101b4800b42a1100a2071b3c034e00b50abca000112a4b00b50abc072a4800b50abc072a4500b50abc072a4200b504bc31102a3f00b504bc31102a3c00b50abc5701112a3900b50abc07102a3600b50abc07102a3300b50abc31102a3000b50abc1b02112a2d00b50bbc31102a2900b50bbc31102a2600b50abc07102a2300b50abc07102a2000b50abc4001112a1d00b50abc07102a1a00b50abc0f102a1700b50abc26102a1400b50abc07102a1100b50abc23102a0d00b504bc052a0700b50abc9800112a0100b72a 219 := by decide +kernel
theorem dX12_init_0 : decode cX12_init 0 = .ok (.aload_n 0, 1) := op_42 kcX12_init (Nat.le_of_ble_eq_true rfl) rfl
theorem dX12_init_1 : decode cX12_init 1 = .ok (.invokespecial 1, 3) := op_183 (a := 0) (b := 1) kcX12_init (Nat.le_of_ble_eq_true rfl) rfl rfl rfl
theorem dX12_init_4 : decode cX12_init 4 = .ok (.aload_n 0, 1) := op_42 kcX12_init (Nat.le_of_ble_eq_true rfl) rfl
theorem dX12_init_5 : decode cX12_init 5 = .ok (.sipush 152, 3) := by decide +kernel
theorem dX12_init_8 : decode cX12_init 8 = .ok (.newarray .int, 2) := by decide +kernel
theorem dX12_init_10 : decode cX12_init 10 = .ok (.putfield 7, 3) := op_181 (a := 0) (b := 7) kcX12_init (Nat.le_of_ble_eq_true rfl) rfl rfl rfl
theorem dX12_init_13 : decode cX12_init 13 = .ok (.aload_n 0, 1) := op_42 kcX12_init (Nat.le_of_ble_eq_true rfl) rfl
theorem dX12_init_14 : decode cX12_init 14 = .ok (.iconst 2, 1) := op_5 kcX12_init (Nat.le_of_ble_eq_true rfl) rfl
theorem dX12_init_15 : decode cX12_init 15 = .ok (.newarray .boolean, 2) := by decide +kernel
theorem dX12_init_17 : decode cX12_init 17 = .ok (.putfield 13, 3) := op_181 (a := 0) (b := 13) kcX12_init (Nat.le_of_ble_eq_true rfl) rfl rfl rfl
theorem dX12_init_20 : decode cX12_init 20 = .ok (.aload_n 0, 1) := op_42 kcX12_init (Nat.le_of_ble_eq_true rfl) rfl
theorem dX12_init_21 : decode cX12_init 21 = .ok (.bipush 35, 2) := op_16 (a := 35) kcX12_init (Nat.le_of_ble_eq_true rfl) rfl rfl (by decide)
theorem dX12_init_23 : decode cX12_init 23 = .ok (.newarray .int, 2) := by decide +kernel
theorem dX12_init_25 : decode cX12_init 25 = .ok (.putfield 17, 3) := op_181 (a := 0) (b := 17) kcX12_init (Nat.le_of_ble_eq_true rfl) rfl rfl rfl
theorem dX12_init_28 : decode cX12_init 28 = .ok (.aload_n 0, 1) := op_42 kcX12_init (Nat.le_of_ble_eq_true rfl) rfl
theorem dX12_init_29 : decode cX12_init 29 = .ok (.bipush 7, 2) := op_16 (a := 7) kcX12_init (Nat.le_of_ble_eq_true rfl) rfl rfl (by decide)
theorem dX12_init_31 : decode cX12_init 31 = .ok (.newarray .int, 2) := by decide +kernel
theorem dX12_init_33 : decode cX12_init 33 = .ok (.putfield 20, 3) := op_181 (a := 0) (b := 20) kcX12_init (Nat.le_of_ble_eq_true rfl) rfl rfl rfl
theorem dX12_init_36 : decode cX12_init 36 = .ok (.aload_n 0, 1) := op_42 kcX12_init (Nat.le_of_ble_eq_true rfl) rfl
theorem dX12_init_37 : decode cX12_init 37 = .ok (.bipush 38, 2) := op_16 (a := 38) kcX12_init (Nat.le_of_ble_eq_true rfl) rfl rfl (by decide)
theorem dX12_init_39 : decode cX12_init 39 = .ok (.newarray .int, 2) := by decide +kernel
theorem dX12_init_41 : decode cX12_init 41 = .ok (.putfield 23, 3) := op_181 (a := 0) (b := 23) kcX12_init (Nat.le_of_ble_eq_true rfl) rfl rfl rfl
theorem dX12_init_44 : decode cX12_init 44 = .ok (.aload_n 0, 1) := op_42 kcX12_init (Nat.le_of_ble_eq_true rfl) rfl
theorem dX12_init_45 : decode cX12_init 45 = .ok (.bipush 15, 2) := op_16 (a := 15) kcX12_init (Nat.le_of_ble_eq_true rfl) rfl rfl (by decide)
theorem dX12_init_47 : decode cX12_init 47 = .ok (.newarray .int, 2) := by decide +kernel
theorem dX12_init_49 : decode cX12_init 49 = .ok (.putfield 26, 3) := op_181 (a := 0) (b := 26) kcX12_init (Nat.le_of_ble_eq_true rfl) rfl rfl rfl
theorem dX12_init_52 : decode cX12_init 52 = .ok (.aload_n 0, 1) := op_42 kcX12_init (Nat.le_of_ble_eq_true rfl) rfl
theorem dX12_init_53 : decode cX12_init 53 = .ok (.bipush 7, 2) := op_16 (a := 7) kcX12_init (Nat.le_of_ble_eq_true rfl) rfl rfl (by decide)
theorem dX12_init_55 : decode cX12_init 55 = .ok (.newarray .int, 2) := by decide +kernel
theorem dX12_init_57 : decode cX12_init 57 = .ok (.putfield 29, 3) := op_181 (a := 0) (b := 29) kcX12_init (Nat.le_of_ble_eq_true rfl) rfl rfl rfl
theorem dX12_init_60 : decode cX12_init 60 = .ok (.aload_n 0, 1) := op_42 kcX12_init (Nat.le_of_ble_eq_true rfl) rfl
theorem dX12_init_61 : decode cX12_init 61 = .ok (.sipush 320, 3) := by decide +kernel
theorem dX12_init_64 : decode cX12_init 64 = .ok (.newarray .int, 2) := by decide +kernel
theorem dX12_init_66 : decode cX12_init 66 = .ok (.putfield 32, 3) := op_181 (a := 0) (b := 32) kcX12_init (Nat.le_of_ble_eq_true rfl) rfl rfl rfl
theorem dX12_init_69 : decode cX12_init 69 = .ok (.aload_n 0, 1) := op_42 kcX12_init (Nat.le_of_ble_eq_true rfl) rfl
theorem dX12_init_70 : decode cX12_init 70 = .ok (.bipush 7, 2) := op_16 (a := 7) kcX12_init (Nat.le_of_ble_eq_true rfl) rfl rfl (by decide)
theorem dX12_init_72 : decode cX12_init 72 = .ok (.newarray .int, 2) := by decide +kernel
theorem dX12_init_74 : decode cX12_init 74 = .ok (.putfield 35, 3) := op_181 (a := 0) (b := 35) kcX12_init (Nat.le_of_ble_eq_true rfl) rfl rfl rfl
theorem dX12_init_77 : decode cX12_init 77 = .ok (.aload_n 0, 1) := op_42 kcX12_init (Nat.le_of_ble_eq_true rfl) rfl
theorem dX12_init_78 : decode cX12_init 78 = .ok (.bipush 7, 2) := op_16 (a := 7) kcX12_init (Nat.le_of_ble_eq_true rfl) rfl rfl (by decide)
theorem dX12_init_80 : decode cX12_init 80 = .ok (.newarray .int, 2) := by decide +kernel
theorem dX12_init_82 : decode cX12_init 82 = .ok (.putfield 38, 3) := op_181 (a := 0) (b := 38) kcX12_init (Nat.le_of_ble_eq_true rfl) rfl rfl rfl
theorem dX12_init_85 : decode cX12_init 85 = .ok (.aload_n 0, 1) := op_42 kcX12_init (Nat.le_of_ble_eq_true rfl) rfl
theorem dX12_init_86 : decode cX12_init 86 = .ok (.bipush 49, 2) := op_16 (a := 49) kcX12_init (Nat.le_of_ble_eq_true rfl) rfl rfl (by decide)
theorem dX12_init_88 : decode cX12_init 88 = .ok (.newarray .long, 2) := by decide +kernel
theorem dX12_init_90 : decode cX12_init 90 = .ok (.putfield 41, 3) := op_181 (a := 0) (b := 41) kcX12_init (Nat.le_of_ble_eq_true rfl) rfl rfl rfl
theorem dX12_init_93 : decode cX12_init 93 = .ok (.aload_n 0, 1) := op_42 kcX12_init (Nat.le_of_ble_eq_true rfl) rfl
theorem dX12_init_94 : decode cX12_init 94 = .ok (.bipush 49, 2) := op_16 (a := 49) kcX12_init (Nat.le_of_ble_eq_true rfl) rfl rfl (by decide)
theorem dX12_init_96 : decode cX12_init 96 = .ok (.newarray .long, 2) := by decide +kernel
theorem dX12_init_98 : decode cX12_init 98 = .ok (.putfield 45, 3) := op_181 (a := 0) (b := 45) kcX12_init (Nat.le_of_ble_eq_true rfl) rfl rfl rfl
theorem dX12_init_101 : decode cX12_init 101 = .ok (.aload_n 0, 1) := op_42 kcX12_init (Nat.le_of_ble_eq_true rfl) rfl
theorem dX12_init_102 : decode cX12_init 102 = .ok (.sipush 539, 3) := by decide +kernel
theorem dX12_init_105 : decode cX12_init 105 = .ok (.newarray .int, 2) := by decide +kernel
theorem dX12_init_107 : decode cX12_init 107 = .ok (.putfield 48, 3) := op_181 (a := 0) (b := 48) kcX12_init (Nat.le_of_ble_eq_true rfl) rfl rfl rfl
theorem dX12_init_110 : decode cX12_init 110 = .ok (.aload_n 0, 1) := op_42 kcX12_init (Nat.le_of_ble_eq_true rfl) rfl
theorem dX12_init_111 : decode cX12_init 111 = .ok (.bipush 49, 2) := op_16 (a := 49) kcX12_init (Nat.le_of_ble_eq_true rfl) rfl rfl (by decide)
theorem dX12_init_113 : decode cX12_init 113 = .ok (.newarray .int, 2) := by decide +kernel
theorem dX12_init_115 : decode cX12_init 115 = .ok (.putfield 51, 3) := op_181 (a := 0) (b := 51) kcX12_init (Nat.le_of_ble_eq_true rfl) rfl rfl rfl
theorem dX12_init_118 : decode cX12_init 118 = .ok (.aload_n 0, 1) := op_42 kcX12_init (Nat.le_of_ble_eq_true rfl) rfl
theorem dX12_init_119 : decode cX12_init 119 = .ok (.bipush 7, 2) := op_16 (a := 7) kcX12_init (Nat.le_of_ble_eq_true rfl) rfl rfl (by decide)
theorem dX12_init_121 : decode cX12_init 121 = .ok (.newarray .int, 2) := by decide +kernel
theorem dX12_init_123 : decode cX12_init 123 = .ok (.putfield 54, 3) := op_181 (a := 0) (b := 54) kcX12_init (Nat.le_of_ble_eq_true rfl) rfl rfl rfl
theorem dX12_init_126 : decode cX12_init 126 = .ok (.aload_n 0, 1) := op_42 kcX12_init (Nat.le_of_ble_eq_true rfl) rfl
theorem dX12_init_127 : decode cX12_init 127 = .ok (.bipush 7, 2) := op_16 (a := 7) kcX12_init (Nat.le_of_ble_eq_true rfl) rfl rfl (by decide)
theorem dX12_init_129 : decode cX12_init 129 = .ok (.newarray .int, 2) := by decide +kernel
theorem dX12_init_131 : decode cX12_init 131 = .ok (.putfield 57, 3) := op_181 (a := 0) (b := 57) kcX12_init (Nat.le_of_ble_eq_true rfl) rfl rfl rfl
theorem dX12_init_134 : decode cX12_init 134 = .ok (.aload_n 0, 1) := op_42 kcX12_init (Nat.le_of_ble_eq_true rfl) rfl
theorem dX12_init_135 : decode cX12_init 135 = .ok (.sipush 343, 3) := by decide +kernel
theorem dX12_init_138 : decode cX12_init 138 = .ok (.newarray .int, 2) := by decide +kernel
theorem dX12_init_140 : decode cX12_init 140 = .ok (.putfield 60, 3) := op_181 (a := 0) (b := 60) kcX12_init (Nat.le_of_ble_eq_true rfl) rfl rfl rfl
theorem dX12_init_143 : decode cX12_init 143 = .ok (.aload_n 0, 1) := op_42 kcX12_init (Nat.le_of_ble_eq_true rfl) rfl
theorem dX12_init_144 : decode cX12_init 144 = .ok (.bipush 49, 2) := op_16 (a := 49) kcX12_init (Nat.le_of_ble_eq_true rfl) rfl rfl (by decide)
theorem dX12_init_146 : decode cX12_init 146 = .ok (.newarray .boolean, 2) := by decide +kernel
theorem dX12_init_148 : decode cX12_init 148 = .ok (.putfield 63, 3) := op_181 (a := 0) (b := 63) kcX12_init (Nat.le_of_ble_eq_true rfl) rfl rfl rfl
theorem dX12_init_151 : decode cX12_init 151 = .ok (.aload_n 0, 1) := op_42 kcX12_init (Nat.le_of_ble_eq_true rfl) rfl
theorem dX12_init_152 : decode cX12_init 152 = .ok (.bipush 49, 2) := op_16 (a := 49) kcX12_init (Nat.le_of_ble_eq_true rfl) rfl rfl (by decide)
theorem dX12_init_154 : decode cX12_init 154 = .ok (.newarray .boolean, 2) := by decide +kernel
theorem dX12_init_156 : decode cX12_init 156 = .ok (.putfield 66, 3) := op_181 (a := 0) (b := 66) kcX12_init (Nat.le_of_ble_eq_true rfl) rfl rfl rfl
theorem dX12_init_159 : decode cX12_init 159 = .ok (.aload_n 0, 1) := op_42 kcX12_init (Nat.le_of_ble_eq_true rfl) rfl
theorem dX12_init_160 : decode cX12_init 160 = .ok (.iconst 4, 1) := op_7 kcX12_init (Nat.le_of_ble_eq_true rfl) rfl
theorem dX12_init_161 : decode cX12_init 161 = .ok (.newarray .int, 2) := by decide +kernel
theorem dX12_init_163 : decode cX12_init 163 = .ok (.putfield 69, 3) := op_181 (a := 0) (b := 69) kcX12_init (Nat.le_of_ble_eq_true rfl) rfl rfl rfl
theorem dX12_init_166 : decode cX12_init 166 = .ok (.aload_n 0, 1) := op_42 kcX12_init (Nat.le_of_ble_eq_true rfl) rfl
theorem dX12_init_167 : decode cX12_init 167 = .ok (.iconst 4, 1) := op_7 kcX12_init (Nat.le_of_ble_eq_true rfl) rfl
theorem dX12_init_168 : decode cX12_init 168 = .ok (.newarray .int, 2) := by decide +kernel
theorem dX12_init_170 : decode cX12_init 170 = .ok (.putfield 72, 3) := op_181 (a := 0) (b := 72) kcX12_init (Nat.le_of_ble_eq_true rfl) rfl rfl rfl
theorem dX12_init_173 : decode cX12_init 173 = .ok (.aload_n 0, 1) := op_42 kcX12_init (Nat.le_of_ble_eq_true rfl) rfl
theorem dX12_init_174 : decode cX12_init 174 = .ok (.iconst 4, 1) := op_7 kcX12_init (Nat.le_of_ble_eq_true rfl) rfl
theorem dX12_init_175 : decode cX12_init 175 = .ok (.newarray .int, 2) := by decide +kernel
theorem dX12_init_177 : decode cX12_init 177 = .ok (.putfield 75, 3) := op_181 (a := 0) (b := 75) kcX12_init (Nat.le_of_ble_eq_true rfl) rfl rfl rfl
theorem dX12_init_180 : decode cX12_init 180 = .ok (.aload_n 0, 1) := op_42 kcX12_init (Nat.le_of_ble_eq_true rfl) rfl
theorem dX12_init_181 : decode cX12_init 181 = .ok (.sipush 160, 3) := by decide +kernel
theorem dX12_init_184 : decode cX12_init 184 = .ok (.newarray .int, 2) := by decide +kernel
theorem dX12_init_186 : decode cX12_init 186 = .ok (.putfield 78, 3) := op_181 (a := 0) (b := 78) kcX12_init (Nat.le_of_ble_eq_true rfl) rfl rfl rfl
theorem dX12_init_189 : decode cX12_init 189 = .ok (.iconst 0, 1) := op_3 kcX12_init (Nat.le_of_ble_eq_true rfl) rfl
theorem dX12_init_190 : decode cX12_init 190 = .ok (.istore_n 1, 1) := op_60 kcX12_init (Nat.le_of_ble_eq_true rfl) rfl
theorem dX12_init_191 : decode cX12_init 191 = .ok (.iload_n 1, 1) := op_27 kcX12_init (Nat.le_of_ble_eq_true rfl) rfl
theorem dX12_init_192 : decode cX12_init 192 = .ok (.iconst 4, 1) := op_7 kcX12_init (Nat.le_of_ble_eq_true rfl) rfl
theorem dX12_init_193 : decode cX12_init 193 = .ok (.if_icmp .ge 17, 3) := op_162 (a := 0) (b := 17) kcX12_init (Nat.le_of_ble_eq_true rfl) rfl rfl rfl (by decide)
theorem dX12_init_196 : decode cX12_init 196 = .ok (.aload_n 0, 1) := op_42 kcX12_init (Nat.le_of_ble_eq_true rfl) rfl
theorem dX12_init_197 : decode cX12_init 197 = .ok (.getfield 72, 3) := op_180 (a := 0) (b := 72) kcX12_init (Nat.le_of_ble_eq_true rfl) rfl rfl rfl
theorem dX12_init_200 : decode cX12_init 200 = .ok (.iload_n 1, 1) := op_27 kcX12_init (Nat.le_of_ble_eq_true rfl) rfl
theorem dX12_init_201 : decode cX12_init 201 = .ok (.bipush (-4), 2) := op_16 (a := 252) kcX12_init (Nat.le_of_ble_eq_true rfl) rfl rfl (by decide)
theorem dX12_init_203 : decode cX12_init 203 = .ok (.iastore, 1) := op_79 kcX12_init (Nat.le_of_ble_eq_true rfl) rfl
theorem dX12_init_204 : decode cX12_init 204 = .ok (.iinc 1 1, 3) := by decide +kernel
theorem dX12_init_207 : decode cX12_init 207 = .ok (.goto (-16), 3) := op_167 (a := 255) (b := 240) kcX12_init (Nat.le_of_ble_eq_true rfl) rfl rfl rfl (by decide)
theorem dX12_init_210 : decode cX12_init 210 = .ok (.aload_n 0, 1) := op_42 kcX12_init (Nat.le_of_ble_eq_true rfl) rfl
theorem dX12_init_211 : decode cX12_init 211 = .ok (.invokevirtual 81, 3) := op_182 (a := 0) (b := 81) kcX12_init (Nat.le_of_ble_eq_true rfl) rfl rfl rfl
theorem dX12_init_214 : decode cX12_init 214 = .ok (.aload_n 0, 1) := op_42 kcX12_init (Nat.le_of_ble_eq_true rfl) rfl
theorem dX12_init_215 : decode cX12_init 215 = .ok (.invokevirtual 84, 3) := op_182 (a := 0) (b := 84) kcX12_init (Nat.le_of_ble_eq_true rfl) rfl rfl rfl
theorem dX12_init_218 : decode cX12_init 218 = .ok (.return_, 1) := op_177 kcX12_init (Nat.le_of_ble_eq_true rfl) rfl
theorem kcX12_in : (cX12_in).data.toList = cbs 0xac030400a70407009d9404161e0e009b94201e 19 := by decide +kernel
theorem dX12_in_0 : decode cX12_in 0 = .ok (.lload_n 0, 1) := op_30 kcX12_in (Nat.le_of_ble_eq_true rfl) rfl
theorem dX12_in_1 : decode cX12_in 1 = .ok (.lload_n 2, 1) := op_32 kcX12_in (Nat.le_of_ble_eq_true rfl) rfl
theorem dX12_in_2 : decode cX12_in 2 = .ok (.lcmp, 1) := op_148 kcX12_in (Nat.le_of_ble_eq_true rfl) rfl
theorem dX12_in_3 : decode cX12_in 3 = .ok (.ifCond .lt 14, 3) := op_155 (a := 0) (b := 14) kcX12_in (Nat.le_of_ble_eq_true rfl) rfl rfl rfl (by decide)
theorem dX12_in_6 : decode cX12_in 6 = .ok (.lload_n 0, 1) := op_30 kcX12_in (Nat.le_of_ble_eq_true rfl) rfl
theorem dX12_in_7 : decode cX12_in 7 = .ok (.lload 4, 2) := op_22 (a := 4) kcX12_in (Nat.le_of_ble_eq_true rfl) rfl rfl
theorem dX12_in_9 : decode cX12_in 9 = .ok (.lcmp, 1) := op_148 kcX12_in (Nat.le_of_ble_eq_true rfl) rfl
theorem dX12_in_10 : decode cX12_in 10 = .ok (.ifCond .gt 7, 3) := op_157 (a := 0) (b := 7) kcX12_in (Nat.le_of_ble_eq_true rfl) rfl rfl rfl (by decide)
theorem dX12_in_13 : decode cX12_in 13 = .ok (.iconst 1, 1) := op_4 kcX12_in (Nat.le_of_ble_eq_true rfl) rfl
theorem dX12_in_14 : decode cX12_in 14 = .ok (.goto 4, 3) := op_167 (a := 0) (b := 4) kcX12_in (Nat.le_of_ble_eq_true rfl) rfl rfl rfl (by decide)
theorem dX12_in_17 : decode cX12_in 17 = .ok (.iconst 0, 1) := op_3 kcX12_in (Nat.le_of_ble_eq_true rfl) rfl
theorem dX12_in_18 : decode cX12_in 18 = .ok (.ireturn, 1) := op_172 kcX12_in (Nat.le_of_ble_eq_true rfl) rfl
theorem kcX12_flag : (cX12_flag).data.toList = cbs 0xac030400a7040700991a 10 := by decide +kernel
theorem dX12_flag_0 : decode cX12_flag 0 = .ok (.iload_n 0, 1) := op_26 kcX12_flag (Nat.le_of_ble_eq_true rfl) rfl
theorem dX12_flag_1 : decode cX12_flag 1 = .ok (.ifCond .eq 7, 3) := op_153 (a := 0) (b := 7) kcX12_flag (Nat.le_of_ble_eq_true rfl) rfl rfl rfl (by decide)
theorem dX12_flag_4 : decode cX12_flag 4 = .ok (.iconst 1, 1) := op_4 kcX12_flag (Nat.le_of_ble_eq_true rfl) rfl
theorem dX12_flag_5 : decode cX12_flag 5 = .ok (.goto 4, 3) := op_167 (a := 0) (b := 4) kcX12_flag (Nat.le_of_ble_eq_true rfl) rfl rfl rfl (by decide)
theorem dX12_flag_8 : decode cX12_flag 8 = .ok (.iconst 0, 1) := op_3 kcX12_flag (Nat.le_of_ble_eq_true rfl) rfl
theorem dX12_flag_9 : decode cX12_flag 9 = .ok (.ireturn, 1) := op_172 kcX12_flag (Nat.le_of_ble_eq_true rfl) rfl
theorem kcX12_firstDraft : (cX12_firstDraft).data.toList = cbs 0xb16100b5fc102a5e00b5032a5b00b5032a5700b5072af0ffa70101844f031b1d00b42a1000a207101b3c03e0ffa70101844f030400a7040700a217101b0d00a110101b1b1700b42a2000a226101b3c03 80 := by decide +kernel
theorem dX12_firstDraft_0 : decode cX12_firstDraft 0 = .ok (.iconst 0, 1) := op_3 kcX12_firstDraft (Nat.le_of_ble_eq_true rfl) rfl
theorem dX12_firstDraft_1 : decode cX12_firstDraft 1 = .ok (.istore_n 1, 1) := op_60 kcX12_firstDraft (Nat.le_of_ble_eq_true rfl) rfl
theorem dX12_firstDraft_2 : decode cX12_firstDraft 2 = .ok (.iload_n 1, 1) := op_27 kcX12_firstDraft (Nat.le_of_ble_eq_true rfl) rfl
theorem dX12_firstDraft_3 : decode cX12_firstDraft 3 = .ok (.bipush 38, 2) := op_16 (a := 38) kcX12_firstDraft (Nat.le_of_ble_eq_true rfl) rfl rfl (by decide)
theorem dX12_firstDraft_5 : decode cX12_firstDraft 5 = .ok (.if_icmp .ge 32, 3) := op_162 (a := 0) (b := 32) kcX12_firstDraft (Nat.le_of_ble_eq_true rfl) rfl rfl rfl (by decide)
theorem dX12_firstDraft_8 : decode cX12_firstDraft 8 = .ok (.aload_n 0, 1) := op_42 kcX12_firstDraft (Nat.le_of_ble_eq_true rfl) rfl
theorem dX12_firstDraft_9 : decode cX12_firstDraft 9 = .ok (.getfield 23, 3) := op_180 (a := 0) (b := 23) kcX12_firstDraft (Nat.le_of_ble_eq_true rfl) rfl rfl rfl
theorem dX12_firstDraft_12 : decode cX12_firstDraft 12 = .ok (.iload_n 1, 1) := op_27 kcX12_firstDraft (Nat.le_of_ble_eq_true rfl) rfl
theorem dX12_firstDraft_13 : decode cX12_firstDraft 13 = .ok (.iload_n 1, 1) := op_27 kcX12_firstDraft (Nat.le_of_ble_eq_true rfl) rfl
theorem dX12_firstDraft_14 : decode cX12_firstDraft 14 = .ok (.bipush 16, 2) := op_16 (a := 16) kcX12_firstDraft (Nat.le_of_ble_eq_true rfl) rfl rfl (by decide)
theorem dX12_firstDraft_16 : decode cX12_firstDraft 16 = .ok (.if_icmp .lt 13, 3) := op_161 (a := 0) (b := 13) kcX12_firstDraft (Nat.le_of_ble_eq_true rfl) rfl rfl rfl (by decide)
theorem dX12_firstDraft_19 : decode cX12_firstDraft 19 = .ok (.iload_n 1, 1) := op_27 kcX12_firstDraft (Nat.le_of_ble_eq_true rfl) rfl
theorem dX12_firstDraft_20 : decode cX12_firstDraft 20 = .ok (.bipush 23, 2) := op_16 (a := 23) kcX12_firstDraft (Nat.le_of_ble_eq_true rfl) rfl rfl (by decide)
theorem dX12_firstDraft_22 : decode cX12_firstDraft 22 = .ok (.if_icmp .ge 7, 3) := op_162 (a := 0) (b := 7) kcX12_firstDraft (Nat.le_of_ble_eq_true rfl) rfl rfl rfl (by decide)
theorem dX12_firstDraft_25 : decode cX12_firstDraft 25 = .ok (.iconst 1, 1) := op_4 kcX12_firstDraft (Nat.le_of_ble_eq_true rfl) rfl
theorem dX12_firstDraft_26 : decode cX12_firstDraft 26 = .ok (.goto 4, 3) := op_167 (a := 0) (b := 4) kcX12_firstDraft (Nat.le_of_ble_eq_true rfl) rfl rfl rfl (by decide)
theorem dX12_firstDraft_29 : decode cX12_firstDraft 29 = .ok (.iconst 0, 1) := op_3 kcX12_firstDraft (Nat.le_of_ble_eq_true rfl) rfl
theorem dX12_firstDraft_30 : decode cX12_firstDraft 30 = .ok (.iastore, 1) := op_79 kcX12_firstDraft (Nat.le_of_ble_eq_true rfl) rfl
theorem dX12_firstDraft_31 : decode cX12_firstDraft 31 = .ok (.iinc 1 1, 3) := by decide +kernel
theorem dX12_firstDraft_34 : decode cX12_firstDraft 34 = .ok (.goto (-32), 3) := op_167 (a := 255) (b := 224) kcX12_firstDraft (Nat.le_of_ble_eq_true rfl) rfl rfl rfl (by decide)
theorem dX12_firstDraft_37 : decode cX12_firstDraft 37 = .ok (.iconst 0, 1) := op_3 kcX12_firstDraft (Nat.le_of_ble_eq_true rfl) rfl
theorem dX12_firstDraft_38 : decode cX12_firstDraft 38 = .ok (.istore_n 1, 1) := op_60 kcX12_firstDraft (Nat.le_of_ble_eq_true rfl) rfl
theorem dX12_firstDraft_39 : decode cX12_firstDraft 39 = .ok (.iload_n 1, 1) := op_27 kcX12_firstDraft (Nat.le_of_ble_eq_true rfl) rfl
theorem dX12_firstDraft_40 : decode cX12_firstDraft 40 = .ok (.bipush 7, 2) := op_16 (a := 7) kcX12_firstDraft (Nat.le_of_ble_eq_true rfl) rfl rfl (by decide)
theorem dX12_firstDraft_42 : decode cX12_firstDraft 42 = .ok (.if_icmp .ge 16, 3) := op_162 (a := 0) (b := 16) kcX12_firstDraft (Nat.le_of_ble_eq_true rfl) rfl rfl rfl (by decide)
theorem dX12_firstDraft_45 : decode cX12_firstDraft 45 = .ok (.aload_n 0, 1) := op_42 kcX12_firstDraft (Nat.le_of_ble_eq_true rfl) rfl
theorem dX12_firstDraft_46 : decode cX12_firstDraft 46 = .ok (.getfield 29, 3) := op_180 (a := 0) (b := 29) kcX12_firstDraft (Nat.le_of_ble_eq_true rfl) rfl rfl rfl
theorem dX12_firstDraft_49 : decode cX12_firstDraft 49 = .ok (.iload_n 1, 1) := op_27 kcX12_firstDraft (Nat.le_of_ble_eq_true rfl) rfl
theorem dX12_firstDraft_50 : decode cX12_firstDraft 50 = .ok (.iconst 0, 1) := op_3 kcX12_firstDraft (Nat.le_of_ble_eq_true rfl) rfl
theorem dX12_firstDraft_51 : decode cX12_firstDraft 51 = .ok (.iastore, 1) := op_79 kcX12_firstDraft (Nat.le_of_ble_eq_true rfl) rfl
theorem dX12_firstDraft_52 : decode cX12_firstDraft 52 = .ok (.iinc 1 1, 3) := by decide +kernel
theorem dX12_firstDraft_55 : decode cX12_firstDraft 55 = .ok (.goto (-16), 3) := op_167 (a := 255) (b := 240) kcX12_firstDraft (Nat.le_of_ble_eq_true rfl) rfl rfl rfl (by decide)
theorem dX12_firstDraft_58 : decode cX12_firstDraft 58 = .ok (.aload_n 0, 1) := op_42 kcX12_firstDraft (Nat.le_of_ble_eq_true rfl) rfl
theorem dX12_firstDraft_59 : decode cX12_firstDraft 59 = .ok (.iconst 4, 1) := op_7 kcX12_firstDraft (Nat.le_of_ble_eq_true rfl) rfl
theorem dX12_firstDraft_60 : decode cX12_firstDraft 60 = .ok (.putfield 87, 3) := op_181 (a := 0) (b := 87) kcX12_firstDraft (Nat.le_of_ble_eq_true rfl) rfl rfl rfl
theorem dX12_firstDraft_63 : decode cX12_firstDraft 63 = .ok (.aload_n 0, 1) := op_42 kcX12_firstDraft (Nat.le_of_ble_eq_true rfl) rfl
theorem dX12_firstDraft_64 : decode cX12_firstDraft 64 = .ok (.iconst 0, 1) := op_3 kcX12_firstDraft (Nat.le_of_ble_eq_true rfl) rfl
theorem dX12_firstDraft_65 : decode cX12_firstDraft 65 = .ok (.putfield 91, 3) := op_181 (a := 0) (b := 91) kcX12_firstDraft (Nat.le_of_ble_eq_true rfl) rfl rfl rfl
theorem dX12_firstDraft_68 : decode cX12_firstDraft 68 = .ok (.aload_n 0, 1) := op_42 kcX12_firstDraft (Nat.le_of_ble_eq_true rfl) rfl
theorem dX12_firstDraft_69 : decode cX12_firstDraft 69 = .ok (.iconst 0, 1) := op_3 kcX12_firstDraft (Nat.le_of_ble_eq_true rfl) rfl
theorem dX12_firstDraft_70 : decode cX12_firstDraft 70 = .ok (.putfield 94, 3) := op_181 (a := 0) (b := 94) kcX12_firstDraft (Nat.le_of_ble_eq_true rfl) rfl rfl rfl
theorem dX12_firstDraft_73 : decode cX12_firstDraft 73 = .ok (.aload_n 0, 1) := op_42 kcX12_firstDraft (Nat.le_of_ble_eq_true rfl) rfl
theorem dX12_firstDraft_74 : decode cX12_firstDraft 74 = .ok (.bipush (-4), 2) := op_16 (a := 252) kcX12_firstDraft (Nat.le_of_ble_eq_true rfl) rfl rfl (by decide)
theorem dX12_firstDraft_76 : decode cX12_firstDraft 76 = .ok (.putfield 97, 3) := op_181 (a := 0) (b := 97) kcX12_firstDraft (Nat.le_of_ble_eq_true rfl) rfl rfl rfl
theorem dX12_firstDraft_79 : decode cX12_firstDraft 79 = .ok (.return_, 1) := op_177 kcX12_firstDraft (Nat.le_of_ble_eq_true rfl) rfl
theorem kcX12_broughtTo : (cX12_broughtTo).data.toList = cbs 0xac1c0400a760041c0900a21d1c0f00a7030700a01d1cac1c0400a71d0700a004151c0e00a704150800a01d1cac641c64045700b42aac705700b42a601d1c2b0000002200000019000000020000000000000041000000aa2e681b061a00b42a04362e6005681b061a00b42a3e2e6004681b061a00b42a 118 := by decide +kernel
theorem dX12_broughtTo_0 : decode cX12_broughtTo 0 = .ok (.aload_n 0, 1) := op_42 kcX12_broughtTo (Nat.le_of_ble_eq_true rfl) rfl
theorem dX12_broughtTo_1 : decode cX12_broughtTo 1 = .ok (.getfield 26, 3) := op_180 (a := 0) (b := 26) kcX12_broughtTo (Nat.le_of_ble_eq_true rfl) rfl rfl rfl
theorem dX12_broughtTo_4 : decode cX12_broughtTo 4 = .ok (.iconst 3, 1) := op_6 kcX12_broughtTo (Nat.le_of_ble_eq_true rfl) rfl
theorem dX12_broughtTo_5 : decode cX12_broughtTo 5 = .ok (.iload_n 1, 1) := op_27 kcX12_broughtTo (Nat.le_of_ble_eq_true rfl) rfl
theorem dX12_broughtTo_6 : decode cX12_broughtTo 6 = .ok (.imul, 1) := op_104 kcX12_broughtTo (Nat.le_of_ble_eq_true rfl) rfl
theorem dX12_broughtTo_7 : decode cX12_broughtTo 7 = .ok (.iconst 1, 1) := op_4 kcX12_broughtTo (Nat.le_of_ble_eq_true rfl) rfl
theorem dX12_broughtTo_8 : decode cX12_broughtTo 8 = .ok (.iadd, 1) := op_96 kcX12_broughtTo (Nat.le_of_ble_eq_true rfl) rfl
theorem dX12_broughtTo_9 : decode cX12_broughtTo 9 = .ok (.iaload, 1) := op_46 kcX12_broughtTo (Nat.le_of_ble_eq_true rfl) rfl
theorem dX12_broughtTo_10 : decode cX12_broughtTo 10 = .ok (.istore_n 3, 1) := op_62 kcX12_broughtTo (Nat.le_of_ble_eq_true rfl) rfl
theorem dX12_broughtTo_11 : decode cX12_broughtTo 11 = .ok (.aload_n 0, 1) := op_42 kcX12_broughtTo (Nat.le_of_ble_eq_true rfl) rfl
theorem dX12_broughtTo_12 : decode cX12_broughtTo 12 = .ok (.getfield 26, 3) := op_180 (a := 0) (b := 26) kcX12_broughtTo (Nat.le_of_ble_eq_true rfl) rfl rfl rfl
theorem dX12_broughtTo_15 : decode cX12_broughtTo 15 = .ok (.iconst 3, 1) := op_6 kcX12_broughtTo (Nat.le_of_ble_eq_true rfl) rfl
theorem dX12_broughtTo_16 : decode cX12_broughtTo 16 = .ok (.iload_n 1, 1) := op_27 kcX12_broughtTo (Nat.le_of_ble_eq_true rfl) rfl
theorem dX12_broughtTo_17 : decode cX12_broughtTo 17 = .ok (.imul, 1) := op_104 kcX12_broughtTo (Nat.le_of_ble_eq_true rfl) rfl
theorem dX12_broughtTo_18 : decode cX12_broughtTo 18 = .ok (.iconst 2, 1) := op_5 kcX12_broughtTo (Nat.le_of_ble_eq_true rfl) rfl
theorem dX12_broughtTo_19 : decode cX12_broughtTo 19 = .ok (.iadd, 1) := op_96 kcX12_broughtTo (Nat.le_of_ble_eq_true rfl) rfl
theorem dX12_broughtTo_20 : decode cX12_broughtTo 20 = .ok (.iaload, 1) := op_46 kcX12_broughtTo (Nat.le_of_ble_eq_true rfl) rfl
theorem dX12_broughtTo_21 : decode cX12_broughtTo 21 = .ok (.istore 4, 2) := op_54 (a := 4) kcX12_broughtTo (Nat.le_of_ble_eq_true rfl) rfl rfl
theorem dX12_broughtTo_23 : decode cX12_broughtTo 23 = .ok (.aload_n 0, 1) := op_42 kcX12_broughtTo (Nat.le_of_ble_eq_true rfl) rfl
theorem dX12_broughtTo_24 : decode cX12_broughtTo 24 = .ok (.getfield 26, 3) := op_180 (a := 0) (b := 26) kcX12_broughtTo (Nat.le_of_ble_eq_true rfl) rfl rfl rfl
theorem dX12_broughtTo_27 : decode cX12_broughtTo 27 = .ok (.iconst 3, 1) := op_6 kcX12_broughtTo (Nat.le_of_ble_eq_true rfl) rfl
theorem dX12_broughtTo_28 : decode cX12_broughtTo 28 = .ok (.iload_n 1, 1) := op_27 kcX12_broughtTo (Nat.le_of_ble_eq_true rfl) rfl
theorem dX12_broughtTo_29 : decode cX12_broughtTo 29 = .ok (.imul, 1) := op_104 kcX12_broughtTo (Nat.le_of_ble_eq_true rfl) rfl
theorem dX12_broughtTo_30 : decode cX12_broughtTo 30 = .ok (.iaload, 1) := op_46 kcX12_broughtTo (Nat.le_of_ble_eq_true rfl) rfl
theorem dX12_broughtTo_31 : decode cX12_broughtTo 31 = .ok (.tableswitch 65 0 2 #[25, 34, 43], 25) := by decide +kernel
theorem dX12_broughtTo_56 : decode cX12_broughtTo 56 = .ok (.iload_n 2, 1) := op_28 kcX12_broughtTo (Nat.le_of_ble_eq_true rfl) rfl
theorem dX12_broughtTo_57 : decode cX12_broughtTo 57 = .ok (.iload_n 3, 1) := op_29 kcX12_broughtTo (Nat.le_of_ble_eq_true rfl) rfl
theorem dX12_broughtTo_58 : decode cX12_broughtTo 58 = .ok (.iadd, 1) := op_96 kcX12_broughtTo (Nat.le_of_ble_eq_true rfl) rfl
theorem dX12_broughtTo_59 : decode cX12_broughtTo 59 = .ok (.aload_n 0, 1) := op_42 kcX12_broughtTo (Nat.le_of_ble_eq_true rfl) rfl
theorem dX12_broughtTo_60 : decode cX12_broughtTo 60 = .ok (.getfield 87, 3) := op_180 (a := 0) (b := 87) kcX12_broughtTo (Nat.le_of_ble_eq_true rfl) rfl rfl rfl
theorem dX12_broughtTo_63 : decode cX12_broughtTo 63 = .ok (.irem, 1) := op_112 kcX12_broughtTo (Nat.le_of_ble_eq_true rfl) rfl
theorem dX12_broughtTo_64 : decode cX12_broughtTo 64 = .ok (.ireturn, 1) := op_172 kcX12_broughtTo (Nat.le_of_ble_eq_true rfl) rfl
theorem dX12_broughtTo_65 : decode cX12_broughtTo 65 = .ok (.aload_n 0, 1) := op_42 kcX12_broughtTo (Nat.le_of_ble_eq_true rfl) rfl
theorem dX12_broughtTo_66 : decode cX12_broughtTo 66 = .ok (.getfield 87, 3) := op_180 (a := 0) (b := 87) kcX12_broughtTo (Nat.le_of_ble_eq_true rfl) rfl rfl rfl
theorem dX12_broughtTo_69 : decode cX12_broughtTo 69 = .ok (.iconst 1, 1) := op_4 kcX12_broughtTo (Nat.le_of_ble_eq_true rfl) rfl
theorem dX12_broughtTo_70 : decode cX12_broughtTo 70 = .ok (.isub, 1) := op_100 kcX12_broughtTo (Nat.le_of_ble_eq_true rfl) rfl
theorem dX12_broughtTo_71 : decode cX12_broughtTo 71 = .ok (.iload_n 2, 1) := op_28 kcX12_broughtTo (Nat.le_of_ble_eq_true rfl) rfl
theorem dX12_broughtTo_72 : decode cX12_broughtTo 72 = .ok (.isub, 1) := op_100 kcX12_broughtTo (Nat.le_of_ble_eq_true rfl) rfl
theorem dX12_broughtTo_73 : decode cX12_broughtTo 73 = .ok (.ireturn, 1) := op_172 kcX12_broughtTo (Nat.le_of_ble_eq_true rfl) rfl
theorem dX12_broughtTo_74 : decode cX12_broughtTo 74 = .ok (.iload_n 2, 1) := op_28 kcX12_broughtTo (Nat.le_of_ble_eq_true rfl) rfl
theorem dX12_broughtTo_75 : decode cX12_broughtTo 75 = .ok (.iload_n 3, 1) := op_29 kcX12_broughtTo (Nat.le_of_ble_eq_true rfl) rfl
theorem dX12_broughtTo_76 : decode cX12_broughtTo 76 = .ok (.if_icmp .ne 8, 3) := op_160 (a := 0) (b := 8) kcX12_broughtTo (Nat.le_of_ble_eq_true rfl) rfl rfl rfl (by decide)
theorem dX12_broughtTo_79 : decode cX12_broughtTo 79 = .ok (.iload 4, 2) := op_21 (a := 4) kcX12_broughtTo (Nat.le_of_ble_eq_true rfl) rfl rfl
theorem dX12_broughtTo_81 : decode cX12_broughtTo 81 = .ok (.goto 14, 3) := op_167 (a := 0) (b := 14) kcX12_broughtTo (Nat.le_of_ble_eq_true rfl) rfl rfl rfl (by decide)
theorem dX12_broughtTo_84 : decode cX12_broughtTo 84 = .ok (.iload_n 2, 1) := op_28 kcX12_broughtTo (Nat.le_of_ble_eq_true rfl) rfl
theorem dX12_broughtTo_85 : decode cX12_broughtTo 85 = .ok (.iload 4, 2) := op_21 (a := 4) kcX12_broughtTo (Nat.le_of_ble_eq_true rfl) rfl rfl
theorem dX12_broughtTo_87 : decode cX12_broughtTo 87 = .ok (.if_icmp .ne 7, 3) := op_160 (a := 0) (b := 7) kcX12_broughtTo (Nat.le_of_ble_eq_true rfl) rfl rfl rfl (by decide)
theorem dX12_broughtTo_90 : decode cX12_broughtTo 90 = .ok (.iload_n 3, 1) := op_29 kcX12_broughtTo (Nat.le_of_ble_eq_true rfl) rfl
theorem dX12_broughtTo_91 : decode cX12_broughtTo 91 = .ok (.goto 4, 3) := op_167 (a := 0) (b := 4) kcX12_broughtTo (Nat.le_of_ble_eq_true rfl) rfl rfl rfl (by decide)
theorem dX12_broughtTo_94 : decode cX12_broughtTo 94 = .ok (.iload_n 2, 1) := op_28 kcX12_broughtTo (Nat.le_of_ble_eq_true rfl) rfl
theorem dX12_broughtTo_95 : decode cX12_broughtTo 95 = .ok (.ireturn, 1) := op_172 kcX12_broughtTo (Nat.le_of_ble_eq_true rfl) rfl
theorem dX12_broughtTo_96 : decode cX12_broughtTo 96 = .ok (.iload_n 2, 1) := op_28 kcX12_broughtTo (Nat.le_of_ble_eq_true rfl) rfl
theorem dX12_broughtTo_97 : decode cX12_broughtTo 97 = .ok (.iload_n 3, 1) := op_29 kcX12_broughtTo (Nat.le_of_ble_eq_true rfl) rfl
theorem dX12_broughtTo_98 : decode cX12_broughtTo 98 = .ok (.if_icmp .ne 7, 3) := op_160 (a := 0) (b := 7) kcX12_broughtTo (Nat.le_of_ble_eq_true rfl) rfl rfl rfl (by decide)
theorem dX12_broughtTo_101 : decode cX12_broughtTo 101 = .ok (.iconst 0, 1) := op_3 kcX12_broughtTo (Nat.le_of_ble_eq_true rfl) rfl
theorem dX12_broughtTo_102 : decode cX12_broughtTo 102 = .ok (.goto 15, 3) := op_167 (a := 0) (b := 15) kcX12_broughtTo (Nat.le_of_ble_eq_true rfl) rfl rfl rfl (by decide)
theorem dX12_broughtTo_105 : decode cX12_broughtTo 105 = .ok (.iload_n 2, 1) := op_28 kcX12_broughtTo (Nat.le_of_ble_eq_true rfl) rfl
theorem dX12_broughtTo_106 : decode cX12_broughtTo 106 = .ok (.iload_n 3, 1) := op_29 kcX12_broughtTo (Nat.le_of_ble_eq_true rfl) rfl
theorem dX12_broughtTo_107 : decode cX12_broughtTo 107 = .ok (.if_icmp .ge 9, 3) := op_162 (a := 0) (b := 9) kcX12_broughtTo (Nat.le_of_ble_eq_true rfl) rfl rfl rfl (by decide)
theorem dX12_broughtTo_110 : decode cX12_broughtTo 110 = .ok (.iload_n 2, 1) := op_28 kcX12_broughtTo (Nat.le_of_ble_eq_true rfl) rfl
theorem dX12_broughtTo_111 : decode cX12_broughtTo 111 = .ok (.iconst 1, 1) := op_4 kcX12_broughtTo (Nat.le_of_ble_eq_true rfl) rfl
theorem dX12_broughtTo_112 : decode cX12_broughtTo 112 = .ok (.iadd, 1) := op_96 kcX12_broughtTo (Nat.le_of_ble_eq_true rfl) rfl
theorem dX12_broughtTo_113 : decode cX12_broughtTo 113 = .ok (.goto 4, 3) := op_167 (a := 0) (b := 4) kcX12_broughtTo (Nat.le_of_ble_eq_true rfl) rfl rfl rfl (by decide)
theorem dX12_broughtTo_116 : decode cX12_broughtTo 116 = .ok (.iload_n 2, 1) := op_28 kcX12_broughtTo (Nat.le_of_ble_eq_true rfl) rfl
theorem dX12_broughtTo_117 : decode cX12_broughtTo 117 = .ok (.ireturn, 1) := op_172 kcX12_broughtTo (Nat.le_of_ble_eq_true rfl) rfl
set_option maxRecDepth 20000 in
theorem gw_wsX12_broughtTo : (wsX12_broughtTo).all goodWord = true := by decide +kernel
set_option maxRecDepth 20000 in
theorem ggX12_keepDraft_X12_broughtTo : GoodIn wsX12_keepDraft wsX12_broughtTo := goodIn_r _ [15, 16, 3, 17, 18, 19, 20, 21, 22, 23, 24, 25, 26, 27, 28, 29, 30, 31, 32, 33, 34, 35, 36, 37, 38, 39, 40, 41, 42, 43, 44, 45, 46, 47, 48, 49, 50, 51, 52, 53] rfl gw_wsX12_broughtTo
set_option maxRecDepth 20000 in
theorem gX12_keepDraft_X12_broughtTo : GoodIn wsX12_keepDraft (wsV RX12 106 RX12 yX12_broughtTo wsX12_broughtTo) := goodIn_app (goodIn_of _ (by decide +kernel)) ggX12_keepDraft_X12_broughtTo
theorem kcX12_keepDraft : (cX12_keepDraft).data.toList = cbs 0xb15403040d00b42a5403030d00b42ad4ffa7010184e4ffa70102844f6a00b61c1b2a601c681b07101100b42a1a00a26400b42a1c3d032a00a26700b42a1b3c03ebffa70101844f2e1b1d00b42a1b1400b42a1500a207101b3c036700b55b00b42a2a6400b55700b42a2aebffa70101844f2e1b1700b42a1b0700b42a1500a226101b3c03 132 := by decide +kernel
theorem dX12_keepDraft_0 : decode cX12_keepDraft 0 = .ok (.iconst 0, 1) := op_3 kcX12_keepDraft (Nat.le_of_ble_eq_true rfl) rfl
theorem dX12_keepDraft_1 : decode cX12_keepDraft 1 = .ok (.istore_n 1, 1) := op_60 kcX12_keepDraft (Nat.le_of_ble_eq_true rfl) rfl
theorem dX12_keepDraft_2 : decode cX12_keepDraft 2 = .ok (.iload_n 1, 1) := op_27 kcX12_keepDraft (Nat.le_of_ble_eq_true rfl) rfl
theorem dX12_keepDraft_3 : decode cX12_keepDraft 3 = .ok (.bipush 38, 2) := op_16 (a := 38) kcX12_keepDraft (Nat.le_of_ble_eq_true rfl) rfl rfl (by decide)
theorem dX12_keepDraft_5 : decode cX12_keepDraft 5 = .ok (.if_icmp .ge 21, 3) := op_162 (a := 0) (b := 21) kcX12_keepDraft (Nat.le_of_ble_eq_true rfl) rfl rfl rfl (by decide)
theorem dX12_keepDraft_8 : decode cX12_keepDraft 8 = .ok (.aload_n 0, 1) := op_42 kcX12_keepDraft (Nat.le_of_ble_eq_true rfl) rfl
theorem dX12_keepDraft_9 : decode cX12_keepDraft 9 = .ok (.getfield 7, 3) := op_180 (a := 0) (b := 7) kcX12_keepDraft (Nat.le_of_ble_eq_true rfl) rfl rfl rfl
theorem dX12_keepDraft_12 : decode cX12_keepDraft 12 = .ok (.iload_n 1, 1) := op_27 kcX12_keepDraft (Nat.le_of_ble_eq_true rfl) rfl
theorem dX12_keepDraft_13 : decode cX12_keepDraft 13 = .ok (.aload_n 0, 1) := op_42 kcX12_keepDraft (Nat.le_of_ble_eq_true rfl) rfl
theorem dX12_keepDraft_14 : decode cX12_keepDraft 14 = .ok (.getfield 23, 3) := op_180 (a := 0) (b := 23) kcX12_keepDraft (Nat.le_of_ble_eq_true rfl) rfl rfl rfl
theorem dX12_keepDraft_17 : decode cX12_keepDraft 17 = .ok (.iload_n 1, 1) := op_27 kcX12_keepDraft (Nat.le_of_ble_eq_true rfl) rfl
theorem dX12_keepDraft_18 : decode cX12_keepDraft 18 = .ok (.iaload, 1) := op_46 kcX12_keepDraft (Nat.le_of_ble_eq_true rfl) rfl
theorem dX12_keepDraft_19 : decode cX12_keepDraft 19 = .ok (.iastore, 1) := op_79 kcX12_keepDraft (Nat.le_of_ble_eq_true rfl) rfl
theorem dX12_keepDraft_20 : decode cX12_keepDraft 20 = .ok (.iinc 1 1, 3) := by decide +kernel
theorem dX12_keepDraft_23 : decode cX12_keepDraft 23 = .ok (.goto (-21), 3) := op_167 (a := 255) (b := 235) kcX12_keepDraft (Nat.le_of_ble_eq_true rfl) rfl rfl rfl (by decide)
theorem dX12_keepDraft_26 : decode cX12_keepDraft 26 = .ok (.aload_n 0, 1) := op_42 kcX12_keepDraft (Nat.le_of_ble_eq_true rfl) rfl
theorem dX12_keepDraft_27 : decode cX12_keepDraft 27 = .ok (.aload_n 0, 1) := op_42 kcX12_keepDraft (Nat.le_of_ble_eq_true rfl) rfl
theorem dX12_keepDraft_28 : decode cX12_keepDraft 28 = .ok (.getfield 87, 3) := op_180 (a := 0) (b := 87) kcX12_keepDraft (Nat.le_of_ble_eq_true rfl) rfl rfl rfl
theorem dX12_keepDraft_31 : decode cX12_keepDraft 31 = .ok (.putfield 100, 3) := op_181 (a := 0) (b := 100) kcX12_keepDraft (Nat.le_of_ble_eq_true rfl) rfl rfl rfl
theorem dX12_keepDraft_34 : decode cX12_keepDraft 34 = .ok (.aload_n 0, 1) := op_42 kcX12_keepDraft (Nat.le_of_ble_eq_true rfl) rfl
theorem dX12_keepDraft_35 : decode cX12_keepDraft 35 = .ok (.aload_n 0, 1) := op_42 kcX12_keepDraft (Nat.le_of_ble_eq_true rfl) rfl
theorem dX12_keepDraft_36 : decode cX12_keepDraft 36 = .ok (.getfield 91, 3) := op_180 (a := 0) (b := 91) kcX12_keepDraft (Nat.le_of_ble_eq_true rfl) rfl rfl rfl
theorem dX12_keepDraft_39 : decode cX12_keepDraft 39 = .ok (.putfield 103, 3) := op_181 (a := 0) (b := 103) kcX12_keepDraft (Nat.le_of_ble_eq_true rfl) rfl rfl rfl
theorem dX12_keepDraft_42 : decode cX12_keepDraft 42 = .ok (.iconst 0, 1) := op_3 kcX12_keepDraft (Nat.le_of_ble_eq_true rfl) rfl
theorem dX12_keepDraft_43 : decode cX12_keepDraft 43 = .ok (.istore_n 1, 1) := op_60 kcX12_keepDraft (Nat.le_of_ble_eq_true rfl) rfl
theorem dX12_keepDraft_44 : decode cX12_keepDraft 44 = .ok (.iload_n 1, 1) := op_27 kcX12_keepDraft (Nat.le_of_ble_eq_true rfl) rfl
theorem dX12_keepDraft_45 : decode cX12_keepDraft 45 = .ok (.bipush 7, 2) := op_16 (a := 7) kcX12_keepDraft (Nat.le_of_ble_eq_true rfl) rfl rfl (by decide)
theorem dX12_keepDraft_47 : decode cX12_keepDraft 47 = .ok (.if_icmp .ge 21, 3) := op_162 (a := 0) (b := 21) kcX12_keepDraft (Nat.le_of_ble_eq_true rfl) rfl rfl rfl (by decide)
theorem dX12_keepDraft_50 : decode cX12_keepDraft 50 = .ok (.aload_n 0, 1) := op_42 kcX12_keepDraft (Nat.le_of_ble_eq_true rfl) rfl
theorem dX12_keepDraft_51 : decode cX12_keepDraft 51 = .ok (.getfield 20, 3) := op_180 (a := 0) (b := 20) kcX12_keepDraft (Nat.le_of_ble_eq_true rfl) rfl rfl rfl
theorem dX12_keepDraft_54 : decode cX12_keepDraft 54 = .ok (.iload_n 1, 1) := op_27 kcX12_keepDraft (Nat.le_of_ble_eq_true rfl) rfl
theorem dX12_keepDraft_55 : decode cX12_keepDraft 55 = .ok (.aload_n 0, 1) := op_42 kcX12_keepDraft (Nat.le_of_ble_eq_true rfl) rfl
theorem dX12_keepDraft_56 : decode cX12_keepDraft 56 = .ok (.getfield 29, 3) := op_180 (a := 0) (b := 29) kcX12_keepDraft (Nat.le_of_ble_eq_true rfl) rfl rfl rfl
theorem dX12_keepDraft_59 : decode cX12_keepDraft 59 = .ok (.iload_n 1, 1) := op_27 kcX12_keepDraft (Nat.le_of_ble_eq_true rfl) rfl
theorem dX12_keepDraft_60 : decode cX12_keepDraft 60 = .ok (.iaload, 1) := op_46 kcX12_keepDraft (Nat.le_of_ble_eq_true rfl) rfl
theorem dX12_keepDraft_61 : decode cX12_keepDraft 61 = .ok (.iastore, 1) := op_79 kcX12_keepDraft (Nat.le_of_ble_eq_true rfl) rfl
theorem dX12_keepDraft_62 : decode cX12_keepDraft 62 = .ok (.iinc 1 1, 3) := by decide +kernel
theorem dX12_keepDraft_65 : decode cX12_keepDraft 65 = .ok (.goto (-21), 3) := op_167 (a := 255) (b := 235) kcX12_keepDraft (Nat.le_of_ble_eq_true rfl) rfl rfl rfl (by decide)
theorem dX12_keepDraft_68 : decode cX12_keepDraft 68 = .ok (.iconst 0, 1) := op_3 kcX12_keepDraft (Nat.le_of_ble_eq_true rfl) rfl
theorem dX12_keepDraft_69 : decode cX12_keepDraft 69 = .ok (.istore_n 1, 1) := op_60 kcX12_keepDraft (Nat.le_of_ble_eq_true rfl) rfl
theorem dX12_keepDraft_70 : decode cX12_keepDraft 70 = .ok (.iload_n 1, 1) := op_27 kcX12_keepDraft (Nat.le_of_ble_eq_true rfl) rfl
theorem dX12_keepDraft_71 : decode cX12_keepDraft 71 = .ok (.aload_n 0, 1) := op_42 kcX12_keepDraft (Nat.le_of_ble_eq_true rfl) rfl
theorem dX12_keepDraft_72 : decode cX12_keepDraft 72 = .ok (.getfield 103, 3) := op_180 (a := 0) (b := 103) kcX12_keepDraft (Nat.le_of_ble_eq_true rfl) rfl rfl rfl
theorem dX12_keepDraft_75 : decode cX12_keepDraft 75 = .ok (.if_icmp .ge 42, 3) := op_162 (a := 0) (b := 42) kcX12_keepDraft (Nat.le_of_ble_eq_true rfl) rfl rfl rfl (by decide)
theorem dX12_keepDraft_78 : decode cX12_keepDraft 78 = .ok (.iconst 0, 1) := op_3 kcX12_keepDraft (Nat.le_of_ble_eq_true rfl) rfl
theorem dX12_keepDraft_79 : decode cX12_keepDraft 79 = .ok (.istore_n 2, 1) := op_61 kcX12_keepDraft (Nat.le_of_ble_eq_true rfl) rfl
theorem dX12_keepDraft_80 : decode cX12_keepDraft 80 = .ok (.iload_n 2, 1) := op_28 kcX12_keepDraft (Nat.le_of_ble_eq_true rfl) rfl
theorem dX12_keepDraft_81 : decode cX12_keepDraft 81 = .ok (.aload_n 0, 1) := op_42 kcX12_keepDraft (Nat.le_of_ble_eq_true rfl) rfl
theorem dX12_keepDraft_82 : decode cX12_keepDraft 82 = .ok (.getfield 100, 3) := op_180 (a := 0) (b := 100) kcX12_keepDraft (Nat.le_of_ble_eq_true rfl) rfl rfl rfl
theorem dX12_keepDraft_85 : decode cX12_keepDraft 85 = .ok (.if_icmp .ge 26, 3) := op_162 (a := 0) (b := 26) kcX12_keepDraft (Nat.le_of_ble_eq_true rfl) rfl rfl rfl (by decide)
theorem dX12_keepDraft_88 : decode cX12_keepDraft 88 = .ok (.aload_n 0, 1) := op_42 kcX12_keepDraft (Nat.le_of_ble_eq_true rfl) rfl
theorem dX12_keepDraft_89 : decode cX12_keepDraft 89 = .ok (.getfield 17, 3) := op_180 (a := 0) (b := 17) kcX12_keepDraft (Nat.le_of_ble_eq_true rfl) rfl rfl rfl
theorem dX12_keepDraft_92 : decode cX12_keepDraft 92 = .ok (.bipush 7, 2) := op_16 (a := 7) kcX12_keepDraft (Nat.le_of_ble_eq_true rfl) rfl rfl (by decide)
theorem dX12_keepDraft_94 : decode cX12_keepDraft 94 = .ok (.iload_n 1, 1) := op_27 kcX12_keepDraft (Nat.le_of_ble_eq_true rfl) rfl
theorem dX12_keepDraft_95 : decode cX12_keepDraft 95 = .ok (.imul, 1) := op_104 kcX12_keepDraft (Nat.le_of_ble_eq_true rfl) rfl
theorem dX12_keepDraft_96 : decode cX12_keepDraft 96 = .ok (.iload_n 2, 1) := op_28 kcX12_keepDraft (Nat.le_of_ble_eq_true rfl) rfl
theorem dX12_keepDraft_97 : decode cX12_keepDraft 97 = .ok (.iadd, 1) := op_96 kcX12_keepDraft (Nat.le_of_ble_eq_true rfl) rfl
theorem dX12_keepDraft_98 : decode cX12_keepDraft 98 = .ok (.aload_n 0, 1) := op_42 kcX12_keepDraft (Nat.le_of_ble_eq_true rfl) rfl
theorem dX12_keepDraft_99 : decode cX12_keepDraft 99 = .ok (.iload_n 1, 1) := op_27 kcX12_keepDraft (Nat.le_of_ble_eq_true rfl) rfl
theorem dX12_keepDraft_100 : decode cX12_keepDraft 100 = .ok (.iload_n 2, 1) := op_28 kcX12_keepDraft (Nat.le_of_ble_eq_true rfl) rfl
theorem dX12_keepDraft_101 : decode cX12_keepDraft 101 = .ok (.invokevirtual 106, 3) := op_182 (a := 0) (b := 106) kcX12_keepDraft (Nat.le_of_ble_eq_true rfl) rfl rfl rfl
theorem dX12_keepDraft_104 : decode cX12_keepDraft 104 = .ok (.iastore, 1) := op_79 kcX12_keepDraft (Nat.le_of_ble_eq_true rfl) rfl
theorem dX12_keepDraft_105 : decode cX12_keepDraft 105 = .ok (.iinc 2 1, 3) := by decide +kernel
theorem dX12_keepDraft_108 : decode cX12_keepDraft 108 = .ok (.goto (-28), 3) := op_167 (a := 255) (b := 228) kcX12_keepDraft (Nat.le_of_ble_eq_true rfl) rfl rfl rfl (by decide)
theorem dX12_keepDraft_111 : decode cX12_keepDraft 111 = .ok (.iinc 1 1, 3) := by decide +kernel
theorem dX12_keepDraft_114 : decode cX12_keepDraft 114 = .ok (.goto (-44), 3) := op_167 (a := 255) (b := 212) kcX12_keepDraft (Nat.le_of_ble_eq_true rfl) rfl rfl rfl (by decide)
theorem dX12_keepDraft_117 : decode cX12_keepDraft 117 = .ok (.aload_n 0, 1) := op_42 kcX12_keepDraft (Nat.le_of_ble_eq_true rfl) rfl
theorem dX12_keepDraft_118 : decode cX12_keepDraft 118 = .ok (.getfield 13, 3) := op_180 (a := 0) (b := 13) kcX12_keepDraft (Nat.le_of_ble_eq_true rfl) rfl rfl rfl
theorem dX12_keepDraft_121 : decode cX12_keepDraft 121 = .ok (.iconst 0, 1) := op_3 kcX12_keepDraft (Nat.le_of_ble_eq_true rfl) rfl
theorem dX12_keepDraft_122 : decode cX12_keepDraft 122 = .ok (.iconst 0, 1) := op_3 kcX12_keepDraft (Nat.le_of_ble_eq_true rfl) rfl
theorem dX12_keepDraft_123 : decode cX12_keepDraft 123 = .ok (.bastore, 1) := op_84 kcX12_keepDraft (Nat.le_of_ble_eq_true rfl) rfl
theorem dX12_keepDraft_124 : decode cX12_keepDraft 124 = .ok (.aload_n 0, 1) := op_42 kcX12_keepDraft (Nat.le_of_ble_eq_true rfl) rfl
theorem dX12_keepDraft_125 : decode cX12_keepDraft 125 = .ok (.getfield 13, 3) := op_180 (a := 0) (b := 13) kcX12_keepDraft (Nat.le_of_ble_eq_true rfl) rfl rfl rfl
theorem dX12_keepDraft_128 : decode cX12_keepDraft 128 = .ok (.iconst 1, 1) := op_4 kcX12_keepDraft (Nat.le_of_ble_eq_true rfl) rfl
theorem dX12_keepDraft_129 : decode cX12_keepDraft 129 = .ok (.iconst 0, 1) := op_3 kcX12_keepDraft (Nat.le_of_ble_eq_true rfl) rfl
theorem dX12_keepDraft_130 : decode cX12_keepDraft 130 = .ok (.bastore, 1) := op_84 kcX12_keepDraft (Nat.le_of_ble_eq_true rfl) rfl
theorem dX12_keepDraft_131 : decode cX12_keepDraft 131 = .ok (.return_, 1) := op_177 kcX12_keepDraft (Nat.le_of_ble_eq_true rfl) rfl
theorem kcX12_feed : (cX12_feed).data.toList = cbs 0xac6e00b42adeffa7f803846e00b560046e00b4592a4f887f7100147b1d1f6e00b42a2000b42a24009b1d3e3810acfd100600a44001116008106e00b42a 61 := by decide +kernel
theorem dX12_feed_0 : decode cX12_feed 0 = .ok (.aload_n 0, 1) := op_42 kcX12_feed (Nat.le_of_ble_eq_true rfl) rfl
theorem dX12_feed_1 : decode cX12_feed 1 = .ok (.getfield 110, 3) := op_180 (a := 0) (b := 110) kcX12_feed (Nat.le_of_ble_eq_true rfl) rfl rfl rfl
theorem dX12_feed_4 : decode cX12_feed 4 = .ok (.bipush 8, 2) := op_16 (a := 8) kcX12_feed (Nat.le_of_ble_eq_true rfl) rfl rfl (by decide)
theorem dX12_feed_6 : decode cX12_feed 6 = .ok (.iadd, 1) := op_96 kcX12_feed (Nat.le_of_ble_eq_true rfl) rfl
theorem dX12_feed_7 : decode cX12_feed 7 = .ok (.sipush 320, 3) := by decide +kernel
theorem dX12_feed_10 : decode cX12_feed 10 = .ok (.if_icmp .le 6, 3) := op_164 (a := 0) (b := 6) kcX12_feed (Nat.le_of_ble_eq_true rfl) rfl rfl rfl (by decide)
theorem dX12_feed_13 : decode cX12_feed 13 = .ok (.bipush (-3), 2) := op_16 (a := 253) kcX12_feed (Nat.le_of_ble_eq_true rfl) rfl rfl (by decide)
theorem dX12_feed_15 : decode cX12_feed 15 = .ok (.ireturn, 1) := op_172 kcX12_feed (Nat.le_of_ble_eq_true rfl) rfl
theorem dX12_feed_16 : decode cX12_feed 16 = .ok (.bipush 56, 2) := op_16 (a := 56) kcX12_feed (Nat.le_of_ble_eq_true rfl) rfl rfl (by decide)
theorem dX12_feed_18 : decode cX12_feed 18 = .ok (.istore_n 3, 1) := op_62 kcX12_feed (Nat.le_of_ble_eq_true rfl) rfl
theorem dX12_feed_19 : decode cX12_feed 19 = .ok (.iload_n 3, 1) := op_29 kcX12_feed (Nat.le_of_ble_eq_true rfl) rfl
theorem dX12_feed_20 : decode cX12_feed 20 = .ok (.ifCond .lt 36, 3) := op_155 (a := 0) (b := 36) kcX12_feed (Nat.le_of_ble_eq_true rfl) rfl rfl rfl (by decide)
theorem dX12_feed_23 : decode cX12_feed 23 = .ok (.aload_n 0, 1) := op_42 kcX12_feed (Nat.le_of_ble_eq_true rfl) rfl
theorem dX12_feed_24 : decode cX12_feed 24 = .ok (.getfield 32, 3) := op_180 (a := 0) (b := 32) kcX12_feed (Nat.le_of_ble_eq_true rfl) rfl rfl rfl
theorem dX12_feed_27 : decode cX12_feed 27 = .ok (.aload_n 0, 1) := op_42 kcX12_feed (Nat.le_of_ble_eq_true rfl) rfl
theorem dX12_feed_28 : decode cX12_feed 28 = .ok (.getfield 110, 3) := op_180 (a := 0) (b := 110) kcX12_feed (Nat.le_of_ble_eq_true rfl) rfl rfl rfl
theorem dX12_feed_31 : decode cX12_feed 31 = .ok (.lload_n 1, 1) := op_31 kcX12_feed (Nat.le_of_ble_eq_true rfl) rfl
theorem dX12_feed_32 : decode cX12_feed 32 = .ok (.iload_n 3, 1) := op_29 kcX12_feed (Nat.le_of_ble_eq_true rfl) rfl
theorem dX12_feed_33 : decode cX12_feed 33 = .ok (.lshr, 1) := op_123 kcX12_feed (Nat.le_of_ble_eq_true rfl) rfl
theorem dX12_feed_34 : decode cX12_feed 34 = .ok (.ldc2_w 113, 3) := op_20 (a := 0) (b := 113) kcX12_feed (Nat.le_of_ble_eq_true rfl) rfl rfl rfl
theorem dX12_feed_37 : decode cX12_feed 37 = .ok (.land, 1) := op_127 kcX12_feed (Nat.le_of_ble_eq_true rfl) rfl
theorem dX12_feed_38 : decode cX12_feed 38 = .ok (.l2i, 1) := op_136 kcX12_feed (Nat.le_of_ble_eq_true rfl) rfl
theorem dX12_feed_39 : decode cX12_feed 39 = .ok (.iastore, 1) := op_79 kcX12_feed (Nat.le_of_ble_eq_true rfl) rfl
theorem dX12_feed_40 : decode cX12_feed 40 = .ok (.aload_n 0, 1) := op_42 kcX12_feed (Nat.le_of_ble_eq_true rfl) rfl
theorem dX12_feed_41 : decode cX12_feed 41 = .ok (.dup, 1) := op_89 kcX12_feed (Nat.le_of_ble_eq_true rfl) rfl
theorem dX12_feed_42 : decode cX12_feed 42 = .ok (.getfield 110, 3) := op_180 (a := 0) (b := 110) kcX12_feed (Nat.le_of_ble_eq_true rfl) rfl rfl rfl
theorem dX12_feed_45 : decode cX12_feed 45 = .ok (.iconst 1, 1) := op_4 kcX12_feed (Nat.le_of_ble_eq_true rfl) rfl
theorem dX12_feed_46 : decode cX12_feed 46 = .ok (.iadd, 1) := op_96 kcX12_feed (Nat.le_of_ble_eq_true rfl) rfl
theorem dX12_feed_47 : decode cX12_feed 47 = .ok (.putfield 110, 3) := op_181 (a := 0) (b := 110) kcX12_feed (Nat.le_of_ble_eq_true rfl) rfl rfl rfl
theorem dX12_feed_50 : decode cX12_feed 50 = .ok (.iinc 3 (-8), 3) := by decide +kernel
theorem dX12_feed_53 : decode cX12_feed 53 = .ok (.goto (-34), 3) := op_167 (a := 255) (b := 222) kcX12_feed (Nat.le_of_ble_eq_true rfl) rfl rfl rfl (by decide)
theorem dX12_feed_56 : decode cX12_feed 56 = .ok (.aload_n 0, 1) := op_42 kcX12_feed (Nat.le_of_ble_eq_true rfl) rfl
theorem dX12_feed_57 : decode cX12_feed 57 = .ok (.getfield 110, 3) := op_180 (a := 0) (b := 110) kcX12_feed (Nat.le_of_ble_eq_true rfl) rfl rfl rfl
theorem dX12_feed_60 : decode cX12_feed 60 = .ok (.ireturn, 1) := op_172 kcX12_feed (Nat.le_of_ble_eq_true rfl) rfl
set_option maxRecDepth 20000 in
theorem gw_wsX12_in : (wsX12_in).all goodWord = true := by decide +kernel
set_option maxRecDepth 20000 in
theorem ggX12_end_X12_in : GoodIn wsX12_end wsX12_in := goodIn_r _ [5] rfl gw_wsX12_in
set_option maxRecDepth 20000 in
theorem gX12_end_X12_in : GoodIn wsX12_end (va_wsS RX12 115 yX12_in wsX12_in) := goodIn_app (goodIn_of _ (by decide +kernel)) ggX12_end_X12_in
theorem kcX12_end : (cX12_end).data.toList = cbs 0xac1c6e00b51b2a3d6e00b42aac0205009a7300b8856e00b42a09851b 28 := by decide +kernel
theorem dX12_end_0 : decode cX12_end 0 = .ok (.iload_n 1, 1) := op_27 kcX12_end (Nat.le_of_ble_eq_true rfl) rfl
theorem dX12_end_1 : decode cX12_end 1 = .ok (.i2l, 1) := op_133 kcX12_end (Nat.le_of_ble_eq_true rfl) rfl
theorem dX12_end_2 : decode cX12_end 2 = .ok (.lconst 0, 1) := op_9 kcX12_end (Nat.le_of_ble_eq_true rfl) rfl
theorem dX12_end_3 : decode cX12_end 3 = .ok (.aload_n 0, 1) := op_42 kcX12_end (Nat.le_of_ble_eq_true rfl) rfl
theorem dX12_end_4 : decode cX12_end 4 = .ok (.getfield 110, 3) := op_180 (a := 0) (b := 110) kcX12_end (Nat.le_of_ble_eq_true rfl) rfl rfl rfl
theorem dX12_end_7 : decode cX12_end 7 = .ok (.i2l, 1) := op_133 kcX12_end (Nat.le_of_ble_eq_true rfl) rfl
theorem dX12_end_8 : decode cX12_end 8 = .ok (.invokestatic 115, 3) := op_184 (a := 0) (b := 115) kcX12_end (Nat.le_of_ble_eq_true rfl) rfl rfl rfl
theorem dX12_end_11 : decode cX12_end 11 = .ok (.ifCond .ne 5, 3) := op_154 (a := 0) (b := 5) kcX12_end (Nat.le_of_ble_eq_true rfl) rfl rfl rfl (by decide)
theorem dX12_end_14 : decode cX12_end 14 = .ok (.iconst (-1), 1) := op_2 kcX12_end (Nat.le_of_ble_eq_true rfl) rfl
theorem dX12_end_15 : decode cX12_end 15 = .ok (.ireturn, 1) := op_172 kcX12_end (Nat.le_of_ble_eq_true rfl) rfl
theorem dX12_end_16 : decode cX12_end 16 = .ok (.aload_n 0, 1) := op_42 kcX12_end (Nat.le_of_ble_eq_true rfl) rfl
theorem dX12_end_17 : decode cX12_end 17 = .ok (.getfield 110, 3) := op_180 (a := 0) (b := 110) kcX12_end (Nat.le_of_ble_eq_true rfl) rfl rfl rfl
theorem dX12_end_20 : decode cX12_end 20 = .ok (.istore_n 2, 1) := op_61 kcX12_end (Nat.le_of_ble_eq_true rfl) rfl
theorem dX12_end_21 : decode cX12_end 21 = .ok (.aload_n 0, 1) := op_42 kcX12_end (Nat.le_of_ble_eq_true rfl) rfl
theorem dX12_end_22 : decode cX12_end 22 = .ok (.iload_n 1, 1) := op_27 kcX12_end (Nat.le_of_ble_eq_true rfl) rfl
theorem dX12_end_23 : decode cX12_end 23 = .ok (.putfield 110, 3) := op_181 (a := 0) (b := 110) kcX12_end (Nat.le_of_ble_eq_true rfl) rfl rfl rfl
theorem dX12_end_26 : decode cX12_end 26 = .ok (.iload_n 2, 1) := op_28 kcX12_end (Nat.le_of_ble_eq_true rfl) rfl
theorem dX12_end_27 : decode cX12_end 27 = .ok (.ireturn, 1) := op_172 kcX12_end (Nat.le_of_ble_eq_true rfl) rfl
theorem kcX12_needs : (cX12_needs).data.toList = cbs 0xb17d00b57a00b42a2a7700b51c2a10009a7700b42a17009a1b 25 := by decide +kernel
theorem dX12_needs_0 : decode cX12_needs 0 = .ok (.iload_n 1, 1) := op_27 kcX12_needs (Nat.le_of_ble_eq_true rfl) rfl
theorem dX12_needs_1 : decode cX12_needs 1 = .ok (.ifCond .ne 23, 3) := op_154 (a := 0) (b := 23) kcX12_needs (Nat.le_of_ble_eq_true rfl) rfl rfl rfl (by decide)
theorem dX12_needs_4 : decode cX12_needs 4 = .ok (.aload_n 0, 1) := op_42 kcX12_needs (Nat.le_of_ble_eq_true rfl) rfl
theorem dX12_needs_5 : decode cX12_needs 5 = .ok (.getfield 119, 3) := op_180 (a := 0) (b := 119) kcX12_needs (Nat.le_of_ble_eq_true rfl) rfl rfl rfl
theorem dX12_needs_8 : decode cX12_needs 8 = .ok (.ifCond .ne 16, 3) := op_154 (a := 0) (b := 16) kcX12_needs (Nat.le_of_ble_eq_true rfl) rfl rfl rfl (by decide)
theorem dX12_needs_11 : decode cX12_needs 11 = .ok (.aload_n 0, 1) := op_42 kcX12_needs (Nat.le_of_ble_eq_true rfl) rfl
theorem dX12_needs_12 : decode cX12_needs 12 = .ok (.iload_n 2, 1) := op_28 kcX12_needs (Nat.le_of_ble_eq_true rfl) rfl
theorem dX12_needs_13 : decode cX12_needs 13 = .ok (.putfield 119, 3) := op_181 (a := 0) (b := 119) kcX12_needs (Nat.le_of_ble_eq_true rfl) rfl rfl rfl
theorem dX12_needs_16 : decode cX12_needs 16 = .ok (.aload_n 0, 1) := op_42 kcX12_needs (Nat.le_of_ble_eq_true rfl) rfl
theorem dX12_needs_17 : decode cX12_needs 17 = .ok (.aload_n 0, 1) := op_42 kcX12_needs (Nat.le_of_ble_eq_true rfl) rfl
theorem dX12_needs_18 : decode cX12_needs 18 = .ok (.getfield 122, 3) := op_180 (a := 0) (b := 122) kcX12_needs (Nat.le_of_ble_eq_true rfl) rfl rfl rfl
theorem dX12_needs_21 : decode cX12_needs 21 = .ok (.putfield 125, 3) := op_181 (a := 0) (b := 125) kcX12_needs (Nat.le_of_ble_eq_true rfl) rfl rfl rfl
theorem dX12_needs_24 : decode cX12_needs 24 = .ok (.return_, 1) := op_177 kcX12_needs (Nat.le_of_ble_eq_true rfl) rfl
theorem kcX12_look : (cX12_look).data.toList = cbs 0xac020400a72e1b2000b42a0c00a26e00b42a1b 19 := by decide +kernel
theorem dX12_look_0 : decode cX12_look 0 = .ok (.iload_n 1, 1) := op_27 kcX12_look (Nat.le_of_ble_eq_true rfl) rfl
theorem dX12_look_1 : decode cX12_look 1 = .ok (.aload_n 0, 1) := op_42 kcX12_look (Nat.le_of_ble_eq_true rfl) rfl
theorem dX12_look_2 : decode cX12_look 2 = .ok (.getfield 110, 3) := op_180 (a := 0) (b := 110) kcX12_look (Nat.le_of_ble_eq_true rfl) rfl rfl rfl
theorem dX12_look_5 : decode cX12_look 5 = .ok (.if_icmp .ge 12, 3) := op_162 (a := 0) (b := 12) kcX12_look (Nat.le_of_ble_eq_true rfl) rfl rfl rfl (by decide)
theorem dX12_look_8 : decode cX12_look 8 = .ok (.aload_n 0, 1) := op_42 kcX12_look (Nat.le_of_ble_eq_true rfl) rfl
theorem dX12_look_9 : decode cX12_look 9 = .ok (.getfield 32, 3) := op_180 (a := 0) (b := 32) kcX12_look (Nat.le_of_ble_eq_true rfl) rfl rfl rfl
theorem dX12_look_12 : decode cX12_look 12 = .ok (.iload_n 1, 1) := op_27 kcX12_look (Nat.le_of_ble_eq_true rfl) rfl
theorem dX12_look_13 : decode cX12_look 13 = .ok (.iaload, 1) := op_46 kcX12_look (Nat.le_of_ble_eq_true rfl) rfl
theorem dX12_look_14 : decode cX12_look 14 = .ok (.goto 4, 3) := op_167 (a := 0) (b := 4) kcX12_look (Nat.le_of_ble_eq_true rfl) rfl rfl rfl (by decide)
theorem dX12_look_17 : decode cX12_look 17 = .ok (.iconst (-1), 1) := op_2 kcX12_look (Nat.le_of_ble_eq_true rfl) rfl
theorem dX12_look_18 : decode cX12_look 18 = .ok (.ireturn, 1) := op_172 kcX12_look (Nat.le_of_ble_eq_true rfl) rfl
set_option maxRecDepth 20000 in
theorem gw_wsX12_look : (wsX12_look).all goodWord = true := by decide +kernel
set_option maxRecDepth 20000 in
theorem ggX12_is_X12_look : GoodIn wsX12_is wsX12_look := goodIn_r _ [7, 8, 9, 10, 11, 12, 13, 14, 15, 16, 17, 18, 19, 20, 21, 22, 23, 24, 25, 26, 27, 28, 29, 30, 31, 32, 33, 34, 35, 36, 37, 38, 39, 40, 41, 42, 43, 44, 45, 46] rfl gw_wsX12_look
set_option maxRecDepth 20000 in
theorem gX12_is_X12_look : GoodIn wsX12_is (wsV RX12 131 RX12 yX12_look wsX12_look) := goodIn_app (goodIn_of _ (by decide +kernel)) ggX12_is_X12_look
theorem kcX12_is : (cX12_is).data.toList = cbs 0xac030400a7040700a004158300b660057a00b42a2a1600a01d8300b660047a00b42a2a2400a01c8300b67a00b42a2a3000a01b647a00b42a8000b42a 60 := by decide +kernel
theorem dX12_is_0 : decode cX12_is 0 = .ok (.aload_n 0, 1) := op_42 kcX12_is (Nat.le_of_ble_eq_true rfl) rfl
theorem dX12_is_1 : decode cX12_is 1 = .ok (.getfield 128, 3) := op_180 (a := 0) (b := 128) kcX12_is (Nat.le_of_ble_eq_true rfl) rfl rfl rfl
theorem dX12_is_4 : decode cX12_is 4 = .ok (.aload_n 0, 1) := op_42 kcX12_is (Nat.le_of_ble_eq_true rfl) rfl
theorem dX12_is_5 : decode cX12_is 5 = .ok (.getfield 122, 3) := op_180 (a := 0) (b := 122) kcX12_is (Nat.le_of_ble_eq_true rfl) rfl rfl rfl
theorem dX12_is_8 : decode cX12_is 8 = .ok (.isub, 1) := op_100 kcX12_is (Nat.le_of_ble_eq_true rfl) rfl
theorem dX12_is_9 : decode cX12_is 9 = .ok (.iload_n 1, 1) := op_27 kcX12_is (Nat.le_of_ble_eq_true rfl) rfl
theorem dX12_is_10 : decode cX12_is 10 = .ok (.if_icmp .ne 48, 3) := op_160 (a := 0) (b := 48) kcX12_is (Nat.le_of_ble_eq_true rfl) rfl rfl rfl (by decide)
theorem dX12_is_13 : decode cX12_is 13 = .ok (.aload_n 0, 1) := op_42 kcX12_is (Nat.le_of_ble_eq_true rfl) rfl
theorem dX12_is_14 : decode cX12_is 14 = .ok (.aload_n 0, 1) := op_42 kcX12_is (Nat.le_of_ble_eq_true rfl) rfl
theorem dX12_is_15 : decode cX12_is 15 = .ok (.getfield 122, 3) := op_180 (a := 0) (b := 122) kcX12_is (Nat.le_of_ble_eq_true rfl) rfl rfl rfl
theorem dX12_is_18 : decode cX12_is 18 = .ok (.invokevirtual 131, 3) := op_182 (a := 0) (b := 131) kcX12_is (Nat.le_of_ble_eq_true rfl) rfl rfl rfl
theorem dX12_is_21 : decode cX12_is 21 = .ok (.iload_n 2, 1) := op_28 kcX12_is (Nat.le_of_ble_eq_true rfl) rfl
theorem dX12_is_22 : decode cX12_is 22 = .ok (.if_icmp .ne 36, 3) := op_160 (a := 0) (b := 36) kcX12_is (Nat.le_of_ble_eq_true rfl) rfl rfl rfl (by decide)
theorem dX12_is_25 : decode cX12_is 25 = .ok (.aload_n 0, 1) := op_42 kcX12_is (Nat.le_of_ble_eq_true rfl) rfl
theorem dX12_is_26 : decode cX12_is 26 = .ok (.aload_n 0, 1) := op_42 kcX12_is (Nat.le_of_ble_eq_true rfl) rfl
theorem dX12_is_27 : decode cX12_is 27 = .ok (.getfield 122, 3) := op_180 (a := 0) (b := 122) kcX12_is (Nat.le_of_ble_eq_true rfl) rfl rfl rfl
theorem dX12_is_30 : decode cX12_is 30 = .ok (.iconst 1, 1) := op_4 kcX12_is (Nat.le_of_ble_eq_true rfl) rfl
theorem dX12_is_31 : decode cX12_is 31 = .ok (.iadd, 1) := op_96 kcX12_is (Nat.le_of_ble_eq_true rfl) rfl
theorem dX12_is_32 : decode cX12_is 32 = .ok (.invokevirtual 131, 3) := op_182 (a := 0) (b := 131) kcX12_is (Nat.le_of_ble_eq_true rfl) rfl rfl rfl
theorem dX12_is_35 : decode cX12_is 35 = .ok (.iload_n 3, 1) := op_29 kcX12_is (Nat.le_of_ble_eq_true rfl) rfl
theorem dX12_is_36 : decode cX12_is 36 = .ok (.if_icmp .ne 22, 3) := op_160 (a := 0) (b := 22) kcX12_is (Nat.le_of_ble_eq_true rfl) rfl rfl rfl (by decide)
theorem dX12_is_39 : decode cX12_is 39 = .ok (.aload_n 0, 1) := op_42 kcX12_is (Nat.le_of_ble_eq_true rfl) rfl
theorem dX12_is_40 : decode cX12_is 40 = .ok (.aload_n 0, 1) := op_42 kcX12_is (Nat.le_of_ble_eq_true rfl) rfl
theorem dX12_is_41 : decode cX12_is 41 = .ok (.getfield 122, 3) := op_180 (a := 0) (b := 122) kcX12_is (Nat.le_of_ble_eq_true rfl) rfl rfl rfl
theorem dX12_is_44 : decode cX12_is 44 = .ok (.iconst 2, 1) := op_5 kcX12_is (Nat.le_of_ble_eq_true rfl) rfl
theorem dX12_is_45 : decode cX12_is 45 = .ok (.iadd, 1) := op_96 kcX12_is (Nat.le_of_ble_eq_true rfl) rfl
theorem dX12_is_46 : decode cX12_is 46 = .ok (.invokevirtual 131, 3) := op_182 (a := 0) (b := 131) kcX12_is (Nat.le_of_ble_eq_true rfl) rfl rfl rfl
theorem dX12_is_49 : decode cX12_is 49 = .ok (.iload 4, 2) := op_21 (a := 4) kcX12_is (Nat.le_of_ble_eq_true rfl) rfl rfl
theorem dX12_is_51 : decode cX12_is 51 = .ok (.if_icmp .ne 7, 3) := op_160 (a := 0) (b := 7) kcX12_is (Nat.le_of_ble_eq_true rfl) rfl rfl rfl (by decide)
theorem dX12_is_54 : decode cX12_is 54 = .ok (.iconst 1, 1) := op_4 kcX12_is (Nat.le_of_ble_eq_true rfl) rfl
theorem dX12_is_55 : decode cX12_is 55 = .ok (.goto 4, 3) := op_167 (a := 0) (b := 4) kcX12_is (Nat.le_of_ble_eq_true rfl) rfl rfl rfl (by decide)
theorem dX12_is_58 : decode cX12_is 58 = .ok (.iconst 0, 1) := op_3 kcX12_is (Nat.le_of_ble_eq_true rfl) rfl
theorem dX12_is_59 : decode cX12_is 59 = .ok (.ireturn, 1) := op_172 kcX12_is (Nat.le_of_ble_eq_true rfl) rfl
set_option maxRecDepth 20000 in
theorem ggX12_ends_X12_look : GoodIn wsX12_ends wsX12_look := goodIn_r _ [6, 7, 8, 9, 10, 11, 12, 13, 14, 15, 16, 17, 18, 19, 20, 21, 22, 23, 24, 25, 26, 27, 28, 29, 30, 31, 32, 33, 34, 35, 36, 37, 38, 39, 40, 41, 42, 43, 44, 45] rfl gw_wsX12_look
set_option maxRecDepth 20000 in
theorem gX12_ends_X12_look : GoodIn wsX12_ends (wsV RX12 131 RX12 yX12_look wsX12_look) := goodIn_app (goodIn_of _ (by decide +kernel)) ggX12_ends_X12_look
theorem kcX12_ends : (cX12_ends).data.toList = cbs 0xac030400a7040700a01d8300b660087a00b42a2a1100991d1900a01c8300b660077a00b42a2a1100991c2b00a01b8300b660067a00b42a2a 56 := by decide +kernel
theorem dX12_ends_0 : decode cX12_ends 0 = .ok (.aload_n 0, 1) := op_42 kcX12_ends (Nat.le_of_ble_eq_true rfl) rfl
theorem dX12_ends_1 : decode cX12_ends 1 = .ok (.aload_n 0, 1) := op_42 kcX12_ends (Nat.le_of_ble_eq_true rfl) rfl
theorem dX12_ends_2 : decode cX12_ends 2 = .ok (.getfield 122, 3) := op_180 (a := 0) (b := 122) kcX12_ends (Nat.le_of_ble_eq_true rfl) rfl rfl rfl
theorem dX12_ends_5 : decode cX12_ends 5 = .ok (.iconst 3, 1) := op_6 kcX12_ends (Nat.le_of_ble_eq_true rfl) rfl
theorem dX12_ends_6 : decode cX12_ends 6 = .ok (.iadd, 1) := op_96 kcX12_ends (Nat.le_of_ble_eq_true rfl) rfl
theorem dX12_ends_7 : decode cX12_ends 7 = .ok (.invokevirtual 131, 3) := op_182 (a := 0) (b := 131) kcX12_ends (Nat.le_of_ble_eq_true rfl) rfl rfl rfl
theorem dX12_ends_10 : decode cX12_ends 10 = .ok (.iload_n 1, 1) := op_27 kcX12_ends (Nat.le_of_ble_eq_true rfl) rfl
theorem dX12_ends_11 : decode cX12_ends 11 = .ok (.if_icmp .ne 43, 3) := op_160 (a := 0) (b := 43) kcX12_ends (Nat.le_of_ble_eq_true rfl) rfl rfl rfl (by decide)
theorem dX12_ends_14 : decode cX12_ends 14 = .ok (.iload_n 2, 1) := op_28 kcX12_ends (Nat.le_of_ble_eq_true rfl) rfl
theorem dX12_ends_15 : decode cX12_ends 15 = .ok (.ifCond .eq 17, 3) := op_153 (a := 0) (b := 17) kcX12_ends (Nat.le_of_ble_eq_true rfl) rfl rfl rfl (by decide)
theorem dX12_ends_18 : decode cX12_ends 18 = .ok (.aload_n 0, 1) := op_42 kcX12_ends (Nat.le_of_ble_eq_true rfl) rfl
theorem dX12_ends_19 : decode cX12_ends 19 = .ok (.aload_n 0, 1) := op_42 kcX12_ends (Nat.le_of_ble_eq_true rfl) rfl
theorem dX12_ends_20 : decode cX12_ends 20 = .ok (.getfield 122, 3) := op_180 (a := 0) (b := 122) kcX12_ends (Nat.le_of_ble_eq_true rfl) rfl rfl rfl
theorem dX12_ends_23 : decode cX12_ends 23 = .ok (.iconst 4, 1) := op_7 kcX12_ends (Nat.le_of_ble_eq_true rfl) rfl
theorem dX12_ends_24 : decode cX12_ends 24 = .ok (.iadd, 1) := op_96 kcX12_ends (Nat.le_of_ble_eq_true rfl) rfl
theorem dX12_ends_25 : decode cX12_ends 25 = .ok (.invokevirtual 131, 3) := op_182 (a := 0) (b := 131) kcX12_ends (Nat.le_of_ble_eq_true rfl) rfl rfl rfl
theorem dX12_ends_28 : decode cX12_ends 28 = .ok (.iload_n 2, 1) := op_28 kcX12_ends (Nat.le_of_ble_eq_true rfl) rfl
theorem dX12_ends_29 : decode cX12_ends 29 = .ok (.if_icmp .ne 25, 3) := op_160 (a := 0) (b := 25) kcX12_ends (Nat.le_of_ble_eq_true rfl) rfl rfl rfl (by decide)
theorem dX12_ends_32 : decode cX12_ends 32 = .ok (.iload_n 3, 1) := op_29 kcX12_ends (Nat.le_of_ble_eq_true rfl) rfl
theorem dX12_ends_33 : decode cX12_ends 33 = .ok (.ifCond .eq 17, 3) := op_153 (a := 0) (b := 17) kcX12_ends (Nat.le_of_ble_eq_true rfl) rfl rfl rfl (by decide)
theorem dX12_ends_36 : decode cX12_ends 36 = .ok (.aload_n 0, 1) := op_42 kcX12_ends (Nat.le_of_ble_eq_true rfl) rfl
theorem dX12_ends_37 : decode cX12_ends 37 = .ok (.aload_n 0, 1) := op_42 kcX12_ends (Nat.le_of_ble_eq_true rfl) rfl
theorem dX12_ends_38 : decode cX12_ends 38 = .ok (.getfield 122, 3) := op_180 (a := 0) (b := 122) kcX12_ends (Nat.le_of_ble_eq_true rfl) rfl rfl rfl
theorem dX12_ends_41 : decode cX12_ends 41 = .ok (.iconst 5, 1) := op_8 kcX12_ends (Nat.le_of_ble_eq_true rfl) rfl
theorem dX12_ends_42 : decode cX12_ends 42 = .ok (.iadd, 1) := op_96 kcX12_ends (Nat.le_of_ble_eq_true rfl) rfl
theorem dX12_ends_43 : decode cX12_ends 43 = .ok (.invokevirtual 131, 3) := op_182 (a := 0) (b := 131) kcX12_ends (Nat.le_of_ble_eq_true rfl) rfl rfl rfl
theorem dX12_ends_46 : decode cX12_ends 46 = .ok (.iload_n 3, 1) := op_29 kcX12_ends (Nat.le_of_ble_eq_true rfl) rfl
theorem dX12_ends_47 : decode cX12_ends 47 = .ok (.if_icmp .ne 7, 3) := op_160 (a := 0) (b := 7) kcX12_ends (Nat.le_of_ble_eq_true rfl) rfl rfl rfl (by decide)
theorem dX12_ends_50 : decode cX12_ends 50 = .ok (.iconst 1, 1) := op_4 kcX12_ends (Nat.le_of_ble_eq_true rfl) rfl
theorem dX12_ends_51 : decode cX12_ends 51 = .ok (.goto 4, 3) := op_167 (a := 0) (b := 4) kcX12_ends (Nat.le_of_ble_eq_true rfl) rfl rfl rfl (by decide)
theorem dX12_ends_54 : decode cX12_ends 54 = .ok (.iconst 0, 1) := op_3 kcX12_ends (Nat.le_of_ble_eq_true rfl) rfl
theorem dX12_ends_55 : decode cX12_ends 55 = .ok (.ireturn, 1) := op_172 kcX12_ends (Nat.le_of_ble_eq_true rfl) rfl
set_option maxRecDepth 20000 in
theorem gw_wsX12_is : (wsX12_is).all goodWord = true := by decide +kernel
set_option maxRecDepth 20000 in
theorem ggX12_stirNow_X12_is : GoodIn wsX12_stirNow wsX12_is := goodIn_r _ [5, 6, 7, 8, 9, 10, 4, 11, 12, 13, 18, 19, 20, 21, 22, 23, 24, 25, 26, 27, 28, 29, 30, 31, 32, 33, 34, 35, 36, 37, 38, 39, 40, 41, 42, 43, 44, 45, 46, 47, 48, 49, 50, 51, 52, 53, 54] rfl gw_wsX12_is
set_option maxRecDepth 20000 in
theorem gX12_stirNow_X12_is : GoodIn wsX12_stirNow (wsV RX12 135 RX12 yX12_is wsX12_is) := goodIn_app (goodIn_of _ (by decide +kernel)) ggX12_stirNow_X12_is
set_option maxRecDepth 20000 in
theorem gw_wsX12_ends : (wsX12_ends).all goodWord = true := by decide +kernel
set_option maxRecDepth 20000 in
theorem ggX12_stirNow_X12_ends : GoodIn wsX12_stirNow wsX12_ends := goodIn_r _ [17, 7, 8, 9, 10, 4, 11, 12, 13, 18, 19, 20, 21, 22, 23, 24, 25, 26, 27, 28, 29, 30, 31, 32, 33, 34, 35, 36, 37, 38, 39, 40, 41, 42, 43, 44, 45, 46, 47, 48, 49, 50, 51, 52, 53, 54] rfl gw_wsX12_ends
set_option maxRecDepth 20000 in
theorem gX12_stirNow_X12_ends : GoodIn wsX12_stirNow (wsV RX12 139 RX12 yX12_ends wsX12_ends) := goodIn_app (goodIn_of _ (by decide +kernel)) ggX12_stirNow_X12_ends
theorem kcX12_stirNow : (cX12_stirNow).data.toList = cbs 0xacfc100500a7060700998b00b6030374102a1200998700b6661069106c10072aac050500998b00b6030370102a1000998700b6611077107310072aac040500998b00b6030370102a1000998700b669106c106610072aac030500998b00b603036e102a1000998700b6721075107410072a 113 := by decide +kernel
theorem dX12_stirNow_0 : decode cX12_stirNow 0 = .ok (.aload_n 0, 1) := op_42 kcX12_stirNow (Nat.le_of_ble_eq_true rfl) rfl
theorem dX12_stirNow_1 : decode cX12_stirNow 1 = .ok (.iconst 4, 1) := op_7 kcX12_stirNow (Nat.le_of_ble_eq_true rfl) rfl
theorem dX12_stirNow_2 : decode cX12_stirNow 2 = .ok (.bipush 116, 2) := op_16 (a := 116) kcX12_stirNow (Nat.le_of_ble_eq_true rfl) rfl rfl (by decide)
theorem dX12_stirNow_4 : decode cX12_stirNow 4 = .ok (.bipush 117, 2) := op_16 (a := 117) kcX12_stirNow (Nat.le_of_ble_eq_true rfl) rfl rfl (by decide)
theorem dX12_stirNow_6 : decode cX12_stirNow 6 = .ok (.bipush 114, 2) := op_16 (a := 114) kcX12_stirNow (Nat.le_of_ble_eq_true rfl) rfl rfl (by decide)
theorem dX12_stirNow_8 : decode cX12_stirNow 8 = .ok (.invokevirtual 135, 3) := op_182 (a := 0) (b := 135) kcX12_stirNow (Nat.le_of_ble_eq_true rfl) rfl rfl rfl
theorem dX12_stirNow_11 : decode cX12_stirNow 11 = .ok (.ifCond .eq 16, 3) := op_153 (a := 0) (b := 16) kcX12_stirNow (Nat.le_of_ble_eq_true rfl) rfl rfl rfl (by decide)
theorem dX12_stirNow_14 : decode cX12_stirNow 14 = .ok (.aload_n 0, 1) := op_42 kcX12_stirNow (Nat.le_of_ble_eq_true rfl) rfl
theorem dX12_stirNow_15 : decode cX12_stirNow 15 = .ok (.bipush 110, 2) := op_16 (a := 110) kcX12_stirNow (Nat.le_of_ble_eq_true rfl) rfl rfl (by decide)
theorem dX12_stirNow_17 : decode cX12_stirNow 17 = .ok (.iconst 0, 1) := op_3 kcX12_stirNow (Nat.le_of_ble_eq_true rfl) rfl
theorem dX12_stirNow_18 : decode cX12_stirNow 18 = .ok (.iconst 0, 1) := op_3 kcX12_stirNow (Nat.le_of_ble_eq_true rfl) rfl
theorem dX12_stirNow_19 : decode cX12_stirNow 19 = .ok (.invokevirtual 139, 3) := op_182 (a := 0) (b := 139) kcX12_stirNow (Nat.le_of_ble_eq_true rfl) rfl rfl rfl
theorem dX12_stirNow_22 : decode cX12_stirNow 22 = .ok (.ifCond .eq 5, 3) := op_153 (a := 0) (b := 5) kcX12_stirNow (Nat.le_of_ble_eq_true rfl) rfl rfl rfl (by decide)
theorem dX12_stirNow_25 : decode cX12_stirNow 25 = .ok (.iconst 0, 1) := op_3 kcX12_stirNow (Nat.le_of_ble_eq_true rfl) rfl
theorem dX12_stirNow_26 : decode cX12_stirNow 26 = .ok (.ireturn, 1) := op_172 kcX12_stirNow (Nat.le_of_ble_eq_true rfl) rfl
theorem dX12_stirNow_27 : decode cX12_stirNow 27 = .ok (.aload_n 0, 1) := op_42 kcX12_stirNow (Nat.le_of_ble_eq_true rfl) rfl
theorem dX12_stirNow_28 : decode cX12_stirNow 28 = .ok (.iconst 4, 1) := op_7 kcX12_stirNow (Nat.le_of_ble_eq_true rfl) rfl
theorem dX12_stirNow_29 : decode cX12_stirNow 29 = .ok (.bipush 102, 2) := op_16 (a := 102) kcX12_stirNow (Nat.le_of_ble_eq_true rfl) rfl rfl (by decide)
theorem dX12_stirNow_31 : decode cX12_stirNow 31 = .ok (.bipush 108, 2) := op_16 (a := 108) kcX12_stirNow (Nat.le_of_ble_eq_true rfl) rfl rfl (by decide)
theorem dX12_stirNow_33 : decode cX12_stirNow 33 = .ok (.bipush 105, 2) := op_16 (a := 105) kcX12_stirNow (Nat.le_of_ble_eq_true rfl) rfl rfl (by decide)
theorem dX12_stirNow_35 : decode cX12_stirNow 35 = .ok (.invokevirtual 135, 3) := op_182 (a := 0) (b := 135) kcX12_stirNow (Nat.le_of_ble_eq_true rfl) rfl rfl rfl
theorem dX12_stirNow_38 : decode cX12_stirNow 38 = .ok (.ifCond .eq 16, 3) := op_153 (a := 0) (b := 16) kcX12_stirNow (Nat.le_of_ble_eq_true rfl) rfl rfl rfl (by decide)
theorem dX12_stirNow_41 : decode cX12_stirNow 41 = .ok (.aload_n 0, 1) := op_42 kcX12_stirNow (Nat.le_of_ble_eq_true rfl) rfl
theorem dX12_stirNow_42 : decode cX12_stirNow 42 = .ok (.bipush 112, 2) := op_16 (a := 112) kcX12_stirNow (Nat.le_of_ble_eq_true rfl) rfl rfl (by decide)
theorem dX12_stirNow_44 : decode cX12_stirNow 44 = .ok (.iconst 0, 1) := op_3 kcX12_stirNow (Nat.le_of_ble_eq_true rfl) rfl
theorem dX12_stirNow_45 : decode cX12_stirNow 45 = .ok (.iconst 0, 1) := op_3 kcX12_stirNow (Nat.le_of_ble_eq_true rfl) rfl
theorem dX12_stirNow_46 : decode cX12_stirNow 46 = .ok (.invokevirtual 139, 3) := op_182 (a := 0) (b := 139) kcX12_stirNow (Nat.le_of_ble_eq_true rfl) rfl rfl rfl
theorem dX12_stirNow_49 : decode cX12_stirNow 49 = .ok (.ifCond .eq 5, 3) := op_153 (a := 0) (b := 5) kcX12_stirNow (Nat.le_of_ble_eq_true rfl) rfl rfl rfl (by decide)
theorem dX12_stirNow_52 : decode cX12_stirNow 52 = .ok (.iconst 1, 1) := op_4 kcX12_stirNow (Nat.le_of_ble_eq_true rfl) rfl
theorem dX12_stirNow_53 : decode cX12_stirNow 53 = .ok (.ireturn, 1) := op_172 kcX12_stirNow (Nat.le_of_ble_eq_true rfl) rfl
theorem dX12_stirNow_54 : decode cX12_stirNow 54 = .ok (.aload_n 0, 1) := op_42 kcX12_stirNow (Nat.le_of_ble_eq_true rfl) rfl
theorem dX12_stirNow_55 : decode cX12_stirNow 55 = .ok (.iconst 4, 1) := op_7 kcX12_stirNow (Nat.le_of_ble_eq_true rfl) rfl
theorem dX12_stirNow_56 : decode cX12_stirNow 56 = .ok (.bipush 115, 2) := op_16 (a := 115) kcX12_stirNow (Nat.le_of_ble_eq_true rfl) rfl rfl (by decide)
theorem dX12_stirNow_58 : decode cX12_stirNow 58 = .ok (.bipush 119, 2) := op_16 (a := 119) kcX12_stirNow (Nat.le_of_ble_eq_true rfl) rfl rfl (by decide)
theorem dX12_stirNow_60 : decode cX12_stirNow 60 = .ok (.bipush 97, 2) := op_16 (a := 97) kcX12_stirNow (Nat.le_of_ble_eq_true rfl) rfl rfl (by decide)
theorem dX12_stirNow_62 : decode cX12_stirNow 62 = .ok (.invokevirtual 135, 3) := op_182 (a := 0) (b := 135) kcX12_stirNow (Nat.le_of_ble_eq_true rfl) rfl rfl rfl
theorem dX12_stirNow_65 : decode cX12_stirNow 65 = .ok (.ifCond .eq 16, 3) := op_153 (a := 0) (b := 16) kcX12_stirNow (Nat.le_of_ble_eq_true rfl) rfl rfl rfl (by decide)
theorem dX12_stirNow_68 : decode cX12_stirNow 68 = .ok (.aload_n 0, 1) := op_42 kcX12_stirNow (Nat.le_of_ble_eq_true rfl) rfl
theorem dX12_stirNow_69 : decode cX12_stirNow 69 = .ok (.bipush 112, 2) := op_16 (a := 112) kcX12_stirNow (Nat.le_of_ble_eq_true rfl) rfl rfl (by decide)
theorem dX12_stirNow_71 : decode cX12_stirNow 71 = .ok (.iconst 0, 1) := op_3 kcX12_stirNow (Nat.le_of_ble_eq_true rfl) rfl
theorem dX12_stirNow_72 : decode cX12_stirNow 72 = .ok (.iconst 0, 1) := op_3 kcX12_stirNow (Nat.le_of_ble_eq_true rfl) rfl
theorem dX12_stirNow_73 : decode cX12_stirNow 73 = .ok (.invokevirtual 139, 3) := op_182 (a := 0) (b := 139) kcX12_stirNow (Nat.le_of_ble_eq_true rfl) rfl rfl rfl
theorem dX12_stirNow_76 : decode cX12_stirNow 76 = .ok (.ifCond .eq 5, 3) := op_153 (a := 0) (b := 5) kcX12_stirNow (Nat.le_of_ble_eq_true rfl) rfl rfl rfl (by decide)
theorem dX12_stirNow_79 : decode cX12_stirNow 79 = .ok (.iconst 2, 1) := op_5 kcX12_stirNow (Nat.le_of_ble_eq_true rfl) rfl
theorem dX12_stirNow_80 : decode cX12_stirNow 80 = .ok (.ireturn, 1) := op_172 kcX12_stirNow (Nat.le_of_ble_eq_true rfl) rfl
theorem dX12_stirNow_81 : decode cX12_stirNow 81 = .ok (.aload_n 0, 1) := op_42 kcX12_stirNow (Nat.le_of_ble_eq_true rfl) rfl
theorem dX12_stirNow_82 : decode cX12_stirNow 82 = .ok (.iconst 4, 1) := op_7 kcX12_stirNow (Nat.le_of_ble_eq_true rfl) rfl
theorem dX12_stirNow_83 : decode cX12_stirNow 83 = .ok (.bipush 108, 2) := op_16 (a := 108) kcX12_stirNow (Nat.le_of_ble_eq_true rfl) rfl rfl (by decide)
theorem dX12_stirNow_85 : decode cX12_stirNow 85 = .ok (.bipush 105, 2) := op_16 (a := 105) kcX12_stirNow (Nat.le_of_ble_eq_true rfl) rfl rfl (by decide)
theorem dX12_stirNow_87 : decode cX12_stirNow 87 = .ok (.bipush 102, 2) := op_16 (a := 102) kcX12_stirNow (Nat.le_of_ble_eq_true rfl) rfl rfl (by decide)
theorem dX12_stirNow_89 : decode cX12_stirNow 89 = .ok (.invokevirtual 135, 3) := op_182 (a := 0) (b := 135) kcX12_stirNow (Nat.le_of_ble_eq_true rfl) rfl rfl rfl
theorem dX12_stirNow_92 : decode cX12_stirNow 92 = .ok (.ifCond .eq 18, 3) := op_153 (a := 0) (b := 18) kcX12_stirNow (Nat.le_of_ble_eq_true rfl) rfl rfl rfl (by decide)
theorem dX12_stirNow_95 : decode cX12_stirNow 95 = .ok (.aload_n 0, 1) := op_42 kcX12_stirNow (Nat.le_of_ble_eq_true rfl) rfl
theorem dX12_stirNow_96 : decode cX12_stirNow 96 = .ok (.bipush 116, 2) := op_16 (a := 116) kcX12_stirNow (Nat.le_of_ble_eq_true rfl) rfl rfl (by decide)
theorem dX12_stirNow_98 : decode cX12_stirNow 98 = .ok (.iconst 0, 1) := op_3 kcX12_stirNow (Nat.le_of_ble_eq_true rfl) rfl
theorem dX12_stirNow_99 : decode cX12_stirNow 99 = .ok (.iconst 0, 1) := op_3 kcX12_stirNow (Nat.le_of_ble_eq_true rfl) rfl
theorem dX12_stirNow_100 : decode cX12_stirNow 100 = .ok (.invokevirtual 139, 3) := op_182 (a := 0) (b := 139) kcX12_stirNow (Nat.le_of_ble_eq_true rfl) rfl rfl rfl
theorem dX12_stirNow_103 : decode cX12_stirNow 103 = .ok (.ifCond .eq 7, 3) := op_153 (a := 0) (b := 7) kcX12_stirNow (Nat.le_of_ble_eq_true rfl) rfl rfl rfl (by decide)
theorem dX12_stirNow_106 : decode cX12_stirNow 106 = .ok (.iconst 3, 1) := op_6 kcX12_stirNow (Nat.le_of_ble_eq_true rfl) rfl
theorem dX12_stirNow_107 : decode cX12_stirNow 107 = .ok (.goto 5, 3) := op_167 (a := 0) (b := 5) kcX12_stirNow (Nat.le_of_ble_eq_true rfl) rfl rfl rfl (by decide)
theorem dX12_stirNow_110 : decode cX12_stirNow 110 = .ok (.bipush (-4), 2) := op_16 (a := 252) kcX12_stirNow (Nat.le_of_ble_eq_true rfl) rfl rfl (by decide)
theorem dX12_stirNow_112 : decode cX12_stirNow 112 = .ok (.ireturn, 1) := op_172 kcX12_stirNow (Nat.le_of_ble_eq_true rfl) rfl
set_option maxRecDepth 20000 in
theorem ggX12_lineNow_X12_is : GoodIn wsX12_lineNow wsX12_is := goodIn_r _ [5, 6, 7, 8, 9, 10, 4, 11, 12, 13, 22, 23, 24, 25, 26, 27, 28, 29, 30, 31, 32, 33, 34, 35, 36, 37, 38, 39, 40, 41, 42, 43, 44, 45, 46, 47, 48, 49, 50, 51, 52, 53, 54, 55, 56, 57, 58] rfl gw_wsX12_is
set_option maxRecDepth 20000 in
theorem gX12_lineNow_X12_is : GoodIn wsX12_lineNow (wsV RX12 135 RX12 yX12_is wsX12_is) := goodIn_app (goodIn_of _ (by decide +kernel)) ggX12_lineNow_X12_is
set_option maxRecDepth 20000 in
theorem ggX12_lineNow_X12_ends : GoodIn wsX12_lineNow wsX12_ends := goodIn_r _ [17, 7, 8, 9, 10, 4, 11, 12, 13, 22, 23, 24, 25, 26, 27, 28, 29, 30, 31, 32, 33, 34, 35, 36, 37, 38, 39, 40, 41, 42, 43, 44, 45, 46, 47, 48, 49, 50, 51, 52, 53, 54, 55, 56, 57, 58] rfl gw_wsX12_ends
set_option maxRecDepth 20000 in
theorem gX12_lineNow_X12_ends : GoodIn wsX12_lineNow (wsV RX12 139 RX12 yX12_ends wsX12_ends) := goodIn_app (goodIn_of _ (by decide +kernel)) ggX12_lineNow_X12_ends
set_option maxRecDepth 20000 in
theorem gw_wsX12_stirNow : (wsX12_stirNow).all goodWord = true := by decide +kernel
set_option maxRecDepth 20000 in
theorem ggX12_lineNow_X12_stirNow : GoodIn wsX12_lineNow wsX12_stirNow := goodIn_r _ [21, 1, 2, 3, 4, 5, 6, 7, 8, 9, 10, 11, 12, 13, 14, 15, 16, 17, 22, 23, 24, 25, 26, 27, 28, 29, 30, 31, 32, 33, 34, 35, 36, 37, 38, 39, 40, 41, 42, 43, 44, 45, 46, 47, 48, 49, 50, 51, 52, 53, 54, 55, 56, 57, 58] rfl gw_wsX12_stirNow
set_option maxRecDepth 20000 in
theorem gX12_lineNow_X12_stirNow : GoodIn wsX12_lineNow (wsV RX12 143 RX12 yX12_stirNow wsX12_stirNow) := goodIn_app (goodIn_of _ (by decide +kernel)) ggX12_lineNow_X12_stirNow
theorem kcX12_lineNow : (cX12_lineNow).data.toList = cbs 0xac8f00b62a0700a70a100800998b00b6030364102a1300998700b6651065106e10072aac09100600998b00b673106e106f102a1300998700b66f107010731006102aac08100600998b00b664106e1065102a1300998700b669107210661006102aac07100600998b00b6030367102a1100998700b66e1069106b10072aac06100600998b00b6030365102a1100998700b66e106f106210072aac080500998700b674106f107010062aac070500998b00b603731074102a1100998700b6611065107310082a 197 := by decide +kernel
theorem dX12_lineNow_0 : decode cX12_lineNow 0 = .ok (.aload_n 0, 1) := op_42 kcX12_lineNow (Nat.le_of_ble_eq_true rfl) rfl
theorem dX12_lineNow_1 : decode cX12_lineNow 1 = .ok (.iconst 5, 1) := op_8 kcX12_lineNow (Nat.le_of_ble_eq_true rfl) rfl
theorem dX12_lineNow_2 : decode cX12_lineNow 2 = .ok (.bipush 115, 2) := op_16 (a := 115) kcX12_lineNow (Nat.le_of_ble_eq_true rfl) rfl rfl (by decide)
theorem dX12_lineNow_4 : decode cX12_lineNow 4 = .ok (.bipush 101, 2) := op_16 (a := 101) kcX12_lineNow (Nat.le_of_ble_eq_true rfl) rfl rfl (by decide)
theorem dX12_lineNow_6 : decode cX12_lineNow 6 = .ok (.bipush 97, 2) := op_16 (a := 97) kcX12_lineNow (Nat.le_of_ble_eq_true rfl) rfl rfl (by decide)
theorem dX12_lineNow_8 : decode cX12_lineNow 8 = .ok (.invokevirtual 135, 3) := op_182 (a := 0) (b := 135) kcX12_lineNow (Nat.le_of_ble_eq_true rfl) rfl rfl rfl
theorem dX12_lineNow_11 : decode cX12_lineNow 11 = .ok (.ifCond .eq 17, 3) := op_153 (a := 0) (b := 17) kcX12_lineNow (Nat.le_of_ble_eq_true rfl) rfl rfl rfl (by decide)
theorem dX12_lineNow_14 : decode cX12_lineNow 14 = .ok (.aload_n 0, 1) := op_42 kcX12_lineNow (Nat.le_of_ble_eq_true rfl) rfl
theorem dX12_lineNow_15 : decode cX12_lineNow 15 = .ok (.bipush 116, 2) := op_16 (a := 116) kcX12_lineNow (Nat.le_of_ble_eq_true rfl) rfl rfl (by decide)
theorem dX12_lineNow_17 : decode cX12_lineNow 17 = .ok (.bipush 115, 2) := op_16 (a := 115) kcX12_lineNow (Nat.le_of_ble_eq_true rfl) rfl rfl (by decide)
theorem dX12_lineNow_19 : decode cX12_lineNow 19 = .ok (.iconst 0, 1) := op_3 kcX12_lineNow (Nat.le_of_ble_eq_true rfl) rfl
theorem dX12_lineNow_20 : decode cX12_lineNow 20 = .ok (.invokevirtual 139, 3) := op_182 (a := 0) (b := 139) kcX12_lineNow (Nat.le_of_ble_eq_true rfl) rfl rfl rfl
theorem dX12_lineNow_23 : decode cX12_lineNow 23 = .ok (.ifCond .eq 5, 3) := op_153 (a := 0) (b := 5) kcX12_lineNow (Nat.le_of_ble_eq_true rfl) rfl rfl rfl (by decide)
theorem dX12_lineNow_26 : decode cX12_lineNow 26 = .ok (.iconst 4, 1) := op_7 kcX12_lineNow (Nat.le_of_ble_eq_true rfl) rfl
theorem dX12_lineNow_27 : decode cX12_lineNow 27 = .ok (.ireturn, 1) := op_172 kcX12_lineNow (Nat.le_of_ble_eq_true rfl) rfl
theorem dX12_lineNow_28 : decode cX12_lineNow 28 = .ok (.aload_n 0, 1) := op_42 kcX12_lineNow (Nat.le_of_ble_eq_true rfl) rfl
theorem dX12_lineNow_29 : decode cX12_lineNow 29 = .ok (.iconst 3, 1) := op_6 kcX12_lineNow (Nat.le_of_ble_eq_true rfl) rfl
theorem dX12_lineNow_30 : decode cX12_lineNow 30 = .ok (.bipush 112, 2) := op_16 (a := 112) kcX12_lineNow (Nat.le_of_ble_eq_true rfl) rfl rfl (by decide)
theorem dX12_lineNow_32 : decode cX12_lineNow 32 = .ok (.bipush 111, 2) := op_16 (a := 111) kcX12_lineNow (Nat.le_of_ble_eq_true rfl) rfl rfl (by decide)
theorem dX12_lineNow_34 : decode cX12_lineNow 34 = .ok (.bipush 116, 2) := op_16 (a := 116) kcX12_lineNow (Nat.le_of_ble_eq_true rfl) rfl rfl (by decide)
theorem dX12_lineNow_36 : decode cX12_lineNow 36 = .ok (.invokevirtual 135, 3) := op_182 (a := 0) (b := 135) kcX12_lineNow (Nat.le_of_ble_eq_true rfl) rfl rfl rfl
theorem dX12_lineNow_39 : decode cX12_lineNow 39 = .ok (.ifCond .eq 5, 3) := op_153 (a := 0) (b := 5) kcX12_lineNow (Nat.le_of_ble_eq_true rfl) rfl rfl rfl (by decide)
theorem dX12_lineNow_42 : decode cX12_lineNow 42 = .ok (.iconst 5, 1) := op_8 kcX12_lineNow (Nat.le_of_ble_eq_true rfl) rfl
theorem dX12_lineNow_43 : decode cX12_lineNow 43 = .ok (.ireturn, 1) := op_172 kcX12_lineNow (Nat.le_of_ble_eq_true rfl) rfl
theorem dX12_lineNow_44 : decode cX12_lineNow 44 = .ok (.aload_n 0, 1) := op_42 kcX12_lineNow (Nat.le_of_ble_eq_true rfl) rfl
theorem dX12_lineNow_45 : decode cX12_lineNow 45 = .ok (.iconst 4, 1) := op_7 kcX12_lineNow (Nat.le_of_ble_eq_true rfl) rfl
theorem dX12_lineNow_46 : decode cX12_lineNow 46 = .ok (.bipush 98, 2) := op_16 (a := 98) kcX12_lineNow (Nat.le_of_ble_eq_true rfl) rfl rfl (by decide)
theorem dX12_lineNow_48 : decode cX12_lineNow 48 = .ok (.bipush 111, 2) := op_16 (a := 111) kcX12_lineNow (Nat.le_of_ble_eq_true rfl) rfl rfl (by decide)
theorem dX12_lineNow_50 : decode cX12_lineNow 50 = .ok (.bipush 110, 2) := op_16 (a := 110) kcX12_lineNow (Nat.le_of_ble_eq_true rfl) rfl rfl (by decide)
theorem dX12_lineNow_52 : decode cX12_lineNow 52 = .ok (.invokevirtual 135, 3) := op_182 (a := 0) (b := 135) kcX12_lineNow (Nat.le_of_ble_eq_true rfl) rfl rfl rfl
theorem dX12_lineNow_55 : decode cX12_lineNow 55 = .ok (.ifCond .eq 17, 3) := op_153 (a := 0) (b := 17) kcX12_lineNow (Nat.le_of_ble_eq_true rfl) rfl rfl rfl (by decide)
theorem dX12_lineNow_58 : decode cX12_lineNow 58 = .ok (.aload_n 0, 1) := op_42 kcX12_lineNow (Nat.le_of_ble_eq_true rfl) rfl
theorem dX12_lineNow_59 : decode cX12_lineNow 59 = .ok (.bipush 101, 2) := op_16 (a := 101) kcX12_lineNow (Nat.le_of_ble_eq_true rfl) rfl rfl (by decide)
theorem dX12_lineNow_61 : decode cX12_lineNow 61 = .ok (.iconst 0, 1) := op_3 kcX12_lineNow (Nat.le_of_ble_eq_true rfl) rfl
theorem dX12_lineNow_62 : decode cX12_lineNow 62 = .ok (.iconst 0, 1) := op_3 kcX12_lineNow (Nat.le_of_ble_eq_true rfl) rfl
theorem dX12_lineNow_63 : decode cX12_lineNow 63 = .ok (.invokevirtual 139, 3) := op_182 (a := 0) (b := 139) kcX12_lineNow (Nat.le_of_ble_eq_true rfl) rfl rfl rfl
theorem dX12_lineNow_66 : decode cX12_lineNow 66 = .ok (.ifCond .eq 6, 3) := op_153 (a := 0) (b := 6) kcX12_lineNow (Nat.le_of_ble_eq_true rfl) rfl rfl rfl (by decide)
theorem dX12_lineNow_69 : decode cX12_lineNow 69 = .ok (.bipush 6, 2) := op_16 (a := 6) kcX12_lineNow (Nat.le_of_ble_eq_true rfl) rfl rfl (by decide)
theorem dX12_lineNow_71 : decode cX12_lineNow 71 = .ok (.ireturn, 1) := op_172 kcX12_lineNow (Nat.le_of_ble_eq_true rfl) rfl
theorem dX12_lineNow_72 : decode cX12_lineNow 72 = .ok (.aload_n 0, 1) := op_42 kcX12_lineNow (Nat.le_of_ble_eq_true rfl) rfl
theorem dX12_lineNow_73 : decode cX12_lineNow 73 = .ok (.iconst 4, 1) := op_7 kcX12_lineNow (Nat.le_of_ble_eq_true rfl) rfl
theorem dX12_lineNow_74 : decode cX12_lineNow 74 = .ok (.bipush 107, 2) := op_16 (a := 107) kcX12_lineNow (Nat.le_of_ble_eq_true rfl) rfl rfl (by decide)
theorem dX12_lineNow_76 : decode cX12_lineNow 76 = .ok (.bipush 105, 2) := op_16 (a := 105) kcX12_lineNow (Nat.le_of_ble_eq_true rfl) rfl rfl (by decide)
theorem dX12_lineNow_78 : decode cX12_lineNow 78 = .ok (.bipush 110, 2) := op_16 (a := 110) kcX12_lineNow (Nat.le_of_ble_eq_true rfl) rfl rfl (by decide)
theorem dX12_lineNow_80 : decode cX12_lineNow 80 = .ok (.invokevirtual 135, 3) := op_182 (a := 0) (b := 135) kcX12_lineNow (Nat.le_of_ble_eq_true rfl) rfl rfl rfl
theorem dX12_lineNow_83 : decode cX12_lineNow 83 = .ok (.ifCond .eq 17, 3) := op_153 (a := 0) (b := 17) kcX12_lineNow (Nat.le_of_ble_eq_true rfl) rfl rfl rfl (by decide)
theorem dX12_lineNow_86 : decode cX12_lineNow 86 = .ok (.aload_n 0, 1) := op_42 kcX12_lineNow (Nat.le_of_ble_eq_true rfl) rfl
theorem dX12_lineNow_87 : decode cX12_lineNow 87 = .ok (.bipush 103, 2) := op_16 (a := 103) kcX12_lineNow (Nat.le_of_ble_eq_true rfl) rfl rfl (by decide)
theorem dX12_lineNow_89 : decode cX12_lineNow 89 = .ok (.iconst 0, 1) := op_3 kcX12_lineNow (Nat.le_of_ble_eq_true rfl) rfl
theorem dX12_lineNow_90 : decode cX12_lineNow 90 = .ok (.iconst 0, 1) := op_3 kcX12_lineNow (Nat.le_of_ble_eq_true rfl) rfl
theorem dX12_lineNow_91 : decode cX12_lineNow 91 = .ok (.invokevirtual 139, 3) := op_182 (a := 0) (b := 139) kcX12_lineNow (Nat.le_of_ble_eq_true rfl) rfl rfl rfl
theorem dX12_lineNow_94 : decode cX12_lineNow 94 = .ok (.ifCond .eq 6, 3) := op_153 (a := 0) (b := 6) kcX12_lineNow (Nat.le_of_ble_eq_true rfl) rfl rfl rfl (by decide)
theorem dX12_lineNow_97 : decode cX12_lineNow 97 = .ok (.bipush 7, 2) := op_16 (a := 7) kcX12_lineNow (Nat.le_of_ble_eq_true rfl) rfl rfl (by decide)
theorem dX12_lineNow_99 : decode cX12_lineNow 99 = .ok (.ireturn, 1) := op_172 kcX12_lineNow (Nat.le_of_ble_eq_true rfl) rfl
theorem dX12_lineNow_100 : decode cX12_lineNow 100 = .ok (.aload_n 0, 1) := op_42 kcX12_lineNow (Nat.le_of_ble_eq_true rfl) rfl
theorem dX12_lineNow_101 : decode cX12_lineNow 101 = .ok (.bipush 6, 2) := op_16 (a := 6) kcX12_lineNow (Nat.le_of_ble_eq_true rfl) rfl rfl (by decide)
theorem dX12_lineNow_103 : decode cX12_lineNow 103 = .ok (.bipush 102, 2) := op_16 (a := 102) kcX12_lineNow (Nat.le_of_ble_eq_true rfl) rfl rfl (by decide)
theorem dX12_lineNow_105 : decode cX12_lineNow 105 = .ok (.bipush 114, 2) := op_16 (a := 114) kcX12_lineNow (Nat.le_of_ble_eq_true rfl) rfl rfl (by decide)
theorem dX12_lineNow_107 : decode cX12_lineNow 107 = .ok (.bipush 105, 2) := op_16 (a := 105) kcX12_lineNow (Nat.le_of_ble_eq_true rfl) rfl rfl (by decide)
theorem dX12_lineNow_109 : decode cX12_lineNow 109 = .ok (.invokevirtual 135, 3) := op_182 (a := 0) (b := 135) kcX12_lineNow (Nat.le_of_ble_eq_true rfl) rfl rfl rfl
theorem dX12_lineNow_112 : decode cX12_lineNow 112 = .ok (.ifCond .eq 19, 3) := op_153 (a := 0) (b := 19) kcX12_lineNow (Nat.le_of_ble_eq_true rfl) rfl rfl rfl (by decide)
theorem dX12_lineNow_115 : decode cX12_lineNow 115 = .ok (.aload_n 0, 1) := op_42 kcX12_lineNow (Nat.le_of_ble_eq_true rfl) rfl
theorem dX12_lineNow_116 : decode cX12_lineNow 116 = .ok (.bipush 101, 2) := op_16 (a := 101) kcX12_lineNow (Nat.le_of_ble_eq_true rfl) rfl rfl (by decide)
theorem dX12_lineNow_118 : decode cX12_lineNow 118 = .ok (.bipush 110, 2) := op_16 (a := 110) kcX12_lineNow (Nat.le_of_ble_eq_true rfl) rfl rfl (by decide)
theorem dX12_lineNow_120 : decode cX12_lineNow 120 = .ok (.bipush 100, 2) := op_16 (a := 100) kcX12_lineNow (Nat.le_of_ble_eq_true rfl) rfl rfl (by decide)
theorem dX12_lineNow_122 : decode cX12_lineNow 122 = .ok (.invokevirtual 139, 3) := op_182 (a := 0) (b := 139) kcX12_lineNow (Nat.le_of_ble_eq_true rfl) rfl rfl rfl
theorem dX12_lineNow_125 : decode cX12_lineNow 125 = .ok (.ifCond .eq 6, 3) := op_153 (a := 0) (b := 6) kcX12_lineNow (Nat.le_of_ble_eq_true rfl) rfl rfl rfl (by decide)
theorem dX12_lineNow_128 : decode cX12_lineNow 128 = .ok (.bipush 8, 2) := op_16 (a := 8) kcX12_lineNow (Nat.le_of_ble_eq_true rfl) rfl rfl (by decide)
theorem dX12_lineNow_130 : decode cX12_lineNow 130 = .ok (.ireturn, 1) := op_172 kcX12_lineNow (Nat.le_of_ble_eq_true rfl) rfl
theorem dX12_lineNow_131 : decode cX12_lineNow 131 = .ok (.aload_n 0, 1) := op_42 kcX12_lineNow (Nat.le_of_ble_eq_true rfl) rfl
theorem dX12_lineNow_132 : decode cX12_lineNow 132 = .ok (.bipush 6, 2) := op_16 (a := 6) kcX12_lineNow (Nat.le_of_ble_eq_true rfl) rfl rfl (by decide)
theorem dX12_lineNow_134 : decode cX12_lineNow 134 = .ok (.bipush 115, 2) := op_16 (a := 115) kcX12_lineNow (Nat.le_of_ble_eq_true rfl) rfl rfl (by decide)
theorem dX12_lineNow_136 : decode cX12_lineNow 136 = .ok (.bipush 112, 2) := op_16 (a := 112) kcX12_lineNow (Nat.le_of_ble_eq_true rfl) rfl rfl (by decide)
theorem dX12_lineNow_138 : decode cX12_lineNow 138 = .ok (.bipush 111, 2) := op_16 (a := 111) kcX12_lineNow (Nat.le_of_ble_eq_true rfl) rfl rfl (by decide)
theorem dX12_lineNow_140 : decode cX12_lineNow 140 = .ok (.invokevirtual 135, 3) := op_182 (a := 0) (b := 135) kcX12_lineNow (Nat.le_of_ble_eq_true rfl) rfl rfl rfl
theorem dX12_lineNow_143 : decode cX12_lineNow 143 = .ok (.ifCond .eq 19, 3) := op_153 (a := 0) (b := 19) kcX12_lineNow (Nat.le_of_ble_eq_true rfl) rfl rfl rfl (by decide)
theorem dX12_lineNow_146 : decode cX12_lineNow 146 = .ok (.aload_n 0, 1) := op_42 kcX12_lineNow (Nat.le_of_ble_eq_true rfl) rfl
theorem dX12_lineNow_147 : decode cX12_lineNow 147 = .ok (.bipush 111, 2) := op_16 (a := 111) kcX12_lineNow (Nat.le_of_ble_eq_true rfl) rfl rfl (by decide)
theorem dX12_lineNow_149 : decode cX12_lineNow 149 = .ok (.bipush 110, 2) := op_16 (a := 110) kcX12_lineNow (Nat.le_of_ble_eq_true rfl) rfl rfl (by decide)
theorem dX12_lineNow_151 : decode cX12_lineNow 151 = .ok (.bipush 115, 2) := op_16 (a := 115) kcX12_lineNow (Nat.le_of_ble_eq_true rfl) rfl rfl (by decide)
theorem dX12_lineNow_153 : decode cX12_lineNow 153 = .ok (.invokevirtual 139, 3) := op_182 (a := 0) (b := 139) kcX12_lineNow (Nat.le_of_ble_eq_true rfl) rfl rfl rfl
theorem dX12_lineNow_156 : decode cX12_lineNow 156 = .ok (.ifCond .eq 6, 3) := op_153 (a := 0) (b := 6) kcX12_lineNow (Nat.le_of_ble_eq_true rfl) rfl rfl rfl (by decide)
theorem dX12_lineNow_159 : decode cX12_lineNow 159 = .ok (.bipush 9, 2) := op_16 (a := 9) kcX12_lineNow (Nat.le_of_ble_eq_true rfl) rfl rfl (by decide)
theorem dX12_lineNow_161 : decode cX12_lineNow 161 = .ok (.ireturn, 1) := op_172 kcX12_lineNow (Nat.le_of_ble_eq_true rfl) rfl
theorem dX12_lineNow_162 : decode cX12_lineNow 162 = .ok (.aload_n 0, 1) := op_42 kcX12_lineNow (Nat.le_of_ble_eq_true rfl) rfl
theorem dX12_lineNow_163 : decode cX12_lineNow 163 = .ok (.iconst 4, 1) := op_7 kcX12_lineNow (Nat.le_of_ble_eq_true rfl) rfl
theorem dX12_lineNow_164 : decode cX12_lineNow 164 = .ok (.bipush 110, 2) := op_16 (a := 110) kcX12_lineNow (Nat.le_of_ble_eq_true rfl) rfl rfl (by decide)
theorem dX12_lineNow_166 : decode cX12_lineNow 166 = .ok (.bipush 101, 2) := op_16 (a := 101) kcX12_lineNow (Nat.le_of_ble_eq_true rfl) rfl rfl (by decide)
theorem dX12_lineNow_168 : decode cX12_lineNow 168 = .ok (.bipush 101, 2) := op_16 (a := 101) kcX12_lineNow (Nat.le_of_ble_eq_true rfl) rfl rfl (by decide)
theorem dX12_lineNow_170 : decode cX12_lineNow 170 = .ok (.invokevirtual 135, 3) := op_182 (a := 0) (b := 135) kcX12_lineNow (Nat.le_of_ble_eq_true rfl) rfl rfl rfl
theorem dX12_lineNow_173 : decode cX12_lineNow 173 = .ok (.ifCond .eq 19, 3) := op_153 (a := 0) (b := 19) kcX12_lineNow (Nat.le_of_ble_eq_true rfl) rfl rfl rfl (by decide)
theorem dX12_lineNow_176 : decode cX12_lineNow 176 = .ok (.aload_n 0, 1) := op_42 kcX12_lineNow (Nat.le_of_ble_eq_true rfl) rfl
theorem dX12_lineNow_177 : decode cX12_lineNow 177 = .ok (.bipush 100, 2) := op_16 (a := 100) kcX12_lineNow (Nat.le_of_ble_eq_true rfl) rfl rfl (by decide)
theorem dX12_lineNow_179 : decode cX12_lineNow 179 = .ok (.iconst 0, 1) := op_3 kcX12_lineNow (Nat.le_of_ble_eq_true rfl) rfl
theorem dX12_lineNow_180 : decode cX12_lineNow 180 = .ok (.iconst 0, 1) := op_3 kcX12_lineNow (Nat.le_of_ble_eq_true rfl) rfl
theorem dX12_lineNow_181 : decode cX12_lineNow 181 = .ok (.invokevirtual 139, 3) := op_182 (a := 0) (b := 139) kcX12_lineNow (Nat.le_of_ble_eq_true rfl) rfl rfl rfl
theorem dX12_lineNow_184 : decode cX12_lineNow 184 = .ok (.ifCond .eq 8, 3) := op_153 (a := 0) (b := 8) kcX12_lineNow (Nat.le_of_ble_eq_true rfl) rfl rfl rfl (by decide)
theorem dX12_lineNow_187 : decode cX12_lineNow 187 = .ok (.bipush 10, 2) := op_16 (a := 10) kcX12_lineNow (Nat.le_of_ble_eq_true rfl) rfl rfl (by decide)
theorem dX12_lineNow_189 : decode cX12_lineNow 189 = .ok (.goto 7, 3) := op_167 (a := 0) (b := 7) kcX12_lineNow (Nat.le_of_ble_eq_true rfl) rfl rfl rfl (by decide)
theorem dX12_lineNow_192 : decode cX12_lineNow 192 = .ok (.aload_n 0, 1) := op_42 kcX12_lineNow (Nat.le_of_ble_eq_true rfl) rfl
theorem dX12_lineNow_193 : decode cX12_lineNow 193 = .ok (.invokevirtual 143, 3) := op_182 (a := 0) (b := 143) kcX12_lineNow (Nat.le_of_ble_eq_true rfl) rfl rfl rfl
theorem dX12_lineNow_196 : decode cX12_lineNow 196 = .ok (.ireturn, 1) := op_172 kcX12_lineNow (Nat.le_of_ble_eq_true rfl) rfl
set_option maxRecDepth 20000 in
theorem ggX12_nextToken_X12_look : GoodIn wsX12_nextToken wsX12_look := goodIn_r _ [14, 15, 16, 25, 26, 27, 28, 29, 30, 31, 32, 33, 34, 35, 36, 37, 38, 39, 40, 41, 42, 43, 44, 45, 46, 47, 48, 49, 50, 51, 52, 53, 54, 55, 56, 57, 58, 59, 60, 61] rfl gw_wsX12_look
set_option maxRecDepth 20000 in
theorem gX12_nextToken_X12_look : GoodIn wsX12_nextToken (wsV RX12 131 RX12 yX12_look wsX12_look) := goodIn_app (goodIn_of _ (by decide +kernel)) ggX12_nextToken_X12_look
set_option maxRecDepth 20000 in
theorem ggX12_nextToken_X12_in : GoodIn wsX12_nextToken wsX12_in := goodIn_r _ [19] rfl gw_wsX12_in
set_option maxRecDepth 20000 in
theorem gX12_nextToken_X12_in : GoodIn wsX12_nextToken (va_wsS RX12 115 yX12_in wsX12_in) := goodIn_app (goodIn_of _ (by decide +kernel)) ggX12_nextToken_X12_in
set_option maxRecDepth 20000 in
theorem gw_wsX12_needs : (wsX12_needs).all goodWord = true := by decide +kernel
set_option maxRecDepth 20000 in
theorem ggX12_nextToken_X12_needs : GoodIn wsX12_nextToken wsX12_needs := goodIn_r _ [23, 1, 3, 24, 25, 26, 27, 28, 29, 30, 31, 32, 33, 34, 35, 36, 37, 38, 39, 40, 41, 42, 43, 44, 45, 46, 47, 48, 49, 50, 51, 52, 53, 54, 55, 56, 57, 58, 59, 60, 61] rfl gw_wsX12_needs
set_option maxRecDepth 20000 in
theorem gX12_nextToken_X12_needs : GoodIn wsX12_nextToken (wsV RX12 161 RX12 yX12_needs wsX12_needs) := goodIn_app (goodIn_of _ (by decide +kernel)) ggX12_nextToken_X12_needs
theorem kcX12_nextToken : (cX12_nextToken).data.toList = cbs 0xb18000b560048000b4592aa100b604030400a7040700a03b101b2a9300b5062a2200a7a100b604030400a7040700a305647a00b42a8000b42a2ab6ffa78000b560048000b4592a9e00b59e00b42a0700a7643010608300b68000b42a2a689e00b42a0a101900a205647a00b42a8000b42a2a3b00997300b89c00149a0014858300b68000b42a2a9e00b5032a9300b5052a7400997300b89c00149a0014851be1ffa78000b560048000b4592aae00997300b8980014960014858300b68000b42a2a9300b5042a2a00997300b8980014960014851bd600a79300b5032a0b009c1b3c8300b68000b42a2a7a00b58000b42a2ae9ffa78000b560048000b4592a1000a020108300b68000b42a2ab104009e7700b42a 275 := by decide +kernel
theorem dX12_nextToken_0 : decode cX12_nextToken 0 = .ok (.aload_n 0, 1) := op_42 kcX12_nextToken (Nat.le_of_ble_eq_true rfl) rfl
theorem dX12_nextToken_1 : decode cX12_nextToken 1 = .ok (.getfield 119, 3) := op_180 (a := 0) (b := 119) kcX12_nextToken (Nat.le_of_ble_eq_true rfl) rfl rfl rfl
theorem dX12_nextToken_4 : decode cX12_nextToken 4 = .ok (.ifCond .le 4, 3) := op_158 (a := 0) (b := 4) kcX12_nextToken (Nat.le_of_ble_eq_true rfl) rfl rfl rfl (by decide)
theorem dX12_nextToken_7 : decode cX12_nextToken 7 = .ok (.return_, 1) := op_177 kcX12_nextToken (Nat.le_of_ble_eq_true rfl) rfl
theorem dX12_nextToken_8 : decode cX12_nextToken 8 = .ok (.aload_n 0, 1) := op_42 kcX12_nextToken (Nat.le_of_ble_eq_true rfl) rfl
theorem dX12_nextToken_9 : decode cX12_nextToken 9 = .ok (.aload_n 0, 1) := op_42 kcX12_nextToken (Nat.le_of_ble_eq_true rfl) rfl
theorem dX12_nextToken_10 : decode cX12_nextToken 10 = .ok (.getfield 128, 3) := op_180 (a := 0) (b := 128) kcX12_nextToken (Nat.le_of_ble_eq_true rfl) rfl rfl rfl
theorem dX12_nextToken_13 : decode cX12_nextToken 13 = .ok (.invokevirtual 131, 3) := op_182 (a := 0) (b := 131) kcX12_nextToken (Nat.le_of_ble_eq_true rfl) rfl rfl rfl
theorem dX12_nextToken_16 : decode cX12_nextToken 16 = .ok (.bipush 32, 2) := op_16 (a := 32) kcX12_nextToken (Nat.le_of_ble_eq_true rfl) rfl rfl (by decide)
theorem dX12_nextToken_18 : decode cX12_nextToken 18 = .ok (.if_icmp .ne 16, 3) := op_160 (a := 0) (b := 16) kcX12_nextToken (Nat.le_of_ble_eq_true rfl) rfl rfl rfl (by decide)
theorem dX12_nextToken_21 : decode cX12_nextToken 21 = .ok (.aload_n 0, 1) := op_42 kcX12_nextToken (Nat.le_of_ble_eq_true rfl) rfl
theorem dX12_nextToken_22 : decode cX12_nextToken 22 = .ok (.dup, 1) := op_89 kcX12_nextToken (Nat.le_of_ble_eq_true rfl) rfl
theorem dX12_nextToken_23 : decode cX12_nextToken 23 = .ok (.getfield 128, 3) := op_180 (a := 0) (b := 128) kcX12_nextToken (Nat.le_of_ble_eq_true rfl) rfl rfl rfl
theorem dX12_nextToken_26 : decode cX12_nextToken 26 = .ok (.iconst 1, 1) := op_4 kcX12_nextToken (Nat.le_of_ble_eq_true rfl) rfl
theorem dX12_nextToken_27 : decode cX12_nextToken 27 = .ok (.iadd, 1) := op_96 kcX12_nextToken (Nat.le_of_ble_eq_true rfl) rfl
theorem dX12_nextToken_28 : decode cX12_nextToken 28 = .ok (.putfield 128, 3) := op_181 (a := 0) (b := 128) kcX12_nextToken (Nat.le_of_ble_eq_true rfl) rfl rfl rfl
theorem dX12_nextToken_31 : decode cX12_nextToken 31 = .ok (.goto (-23), 3) := op_167 (a := 255) (b := 233) kcX12_nextToken (Nat.le_of_ble_eq_true rfl) rfl rfl rfl (by decide)
theorem dX12_nextToken_34 : decode cX12_nextToken 34 = .ok (.aload_n 0, 1) := op_42 kcX12_nextToken (Nat.le_of_ble_eq_true rfl) rfl
theorem dX12_nextToken_35 : decode cX12_nextToken 35 = .ok (.aload_n 0, 1) := op_42 kcX12_nextToken (Nat.le_of_ble_eq_true rfl) rfl
theorem dX12_nextToken_36 : decode cX12_nextToken 36 = .ok (.getfield 128, 3) := op_180 (a := 0) (b := 128) kcX12_nextToken (Nat.le_of_ble_eq_true rfl) rfl rfl rfl
theorem dX12_nextToken_39 : decode cX12_nextToken 39 = .ok (.putfield 122, 3) := op_181 (a := 0) (b := 122) kcX12_nextToken (Nat.le_of_ble_eq_true rfl) rfl rfl rfl
theorem dX12_nextToken_42 : decode cX12_nextToken 42 = .ok (.aload_n 0, 1) := op_42 kcX12_nextToken (Nat.le_of_ble_eq_true rfl) rfl
theorem dX12_nextToken_43 : decode cX12_nextToken 43 = .ok (.aload_n 0, 1) := op_42 kcX12_nextToken (Nat.le_of_ble_eq_true rfl) rfl
theorem dX12_nextToken_44 : decode cX12_nextToken 44 = .ok (.getfield 128, 3) := op_180 (a := 0) (b := 128) kcX12_nextToken (Nat.le_of_ble_eq_true rfl) rfl rfl rfl
theorem dX12_nextToken_47 : decode cX12_nextToken 47 = .ok (.invokevirtual 131, 3) := op_182 (a := 0) (b := 131) kcX12_nextToken (Nat.le_of_ble_eq_true rfl) rfl rfl rfl
theorem dX12_nextToken_50 : decode cX12_nextToken 50 = .ok (.istore_n 1, 1) := op_60 kcX12_nextToken (Nat.le_of_ble_eq_true rfl) rfl
theorem dX12_nextToken_51 : decode cX12_nextToken 51 = .ok (.iload_n 1, 1) := op_27 kcX12_nextToken (Nat.le_of_ble_eq_true rfl) rfl
theorem dX12_nextToken_52 : decode cX12_nextToken 52 = .ok (.ifCond .ge 11, 3) := op_156 (a := 0) (b := 11) kcX12_nextToken (Nat.le_of_ble_eq_true rfl) rfl rfl rfl (by decide)
theorem dX12_nextToken_55 : decode cX12_nextToken 55 = .ok (.aload_n 0, 1) := op_42 kcX12_nextToken (Nat.le_of_ble_eq_true rfl) rfl
theorem dX12_nextToken_56 : decode cX12_nextToken 56 = .ok (.iconst 0, 1) := op_3 kcX12_nextToken (Nat.le_of_ble_eq_true rfl) rfl
theorem dX12_nextToken_57 : decode cX12_nextToken 57 = .ok (.putfield 147, 3) := op_181 (a := 0) (b := 147) kcX12_nextToken (Nat.le_of_ble_eq_true rfl) rfl rfl rfl
theorem dX12_nextToken_60 : decode cX12_nextToken 60 = .ok (.goto 214, 3) := op_167 (a := 0) (b := 214) kcX12_nextToken (Nat.le_of_ble_eq_true rfl) rfl rfl rfl (by decide)
theorem dX12_nextToken_63 : decode cX12_nextToken 63 = .ok (.iload_n 1, 1) := op_27 kcX12_nextToken (Nat.le_of_ble_eq_true rfl) rfl
theorem dX12_nextToken_64 : decode cX12_nextToken 64 = .ok (.i2l, 1) := op_133 kcX12_nextToken (Nat.le_of_ble_eq_true rfl) rfl
theorem dX12_nextToken_65 : decode cX12_nextToken 65 = .ok (.ldc2_w 150, 3) := op_20 (a := 0) (b := 150) kcX12_nextToken (Nat.le_of_ble_eq_true rfl) rfl rfl rfl
theorem dX12_nextToken_68 : decode cX12_nextToken 68 = .ok (.ldc2_w 152, 3) := op_20 (a := 0) (b := 152) kcX12_nextToken (Nat.le_of_ble_eq_true rfl) rfl rfl rfl
theorem dX12_nextToken_71 : decode cX12_nextToken 71 = .ok (.invokestatic 115, 3) := op_184 (a := 0) (b := 115) kcX12_nextToken (Nat.le_of_ble_eq_true rfl) rfl rfl rfl
theorem dX12_nextToken_74 : decode cX12_nextToken 74 = .ok (.ifCond .eq 42, 3) := op_153 (a := 0) (b := 42) kcX12_nextToken (Nat.le_of_ble_eq_true rfl) rfl rfl rfl (by decide)
theorem dX12_nextToken_77 : decode cX12_nextToken 77 = .ok (.aload_n 0, 1) := op_42 kcX12_nextToken (Nat.le_of_ble_eq_true rfl) rfl
theorem dX12_nextToken_78 : decode cX12_nextToken 78 = .ok (.iconst 1, 1) := op_4 kcX12_nextToken (Nat.le_of_ble_eq_true rfl) rfl
theorem dX12_nextToken_79 : decode cX12_nextToken 79 = .ok (.putfield 147, 3) := op_181 (a := 0) (b := 147) kcX12_nextToken (Nat.le_of_ble_eq_true rfl) rfl rfl rfl
theorem dX12_nextToken_82 : decode cX12_nextToken 82 = .ok (.aload_n 0, 1) := op_42 kcX12_nextToken (Nat.le_of_ble_eq_true rfl) rfl
theorem dX12_nextToken_83 : decode cX12_nextToken 83 = .ok (.aload_n 0, 1) := op_42 kcX12_nextToken (Nat.le_of_ble_eq_true rfl) rfl
theorem dX12_nextToken_84 : decode cX12_nextToken 84 = .ok (.getfield 128, 3) := op_180 (a := 0) (b := 128) kcX12_nextToken (Nat.le_of_ble_eq_true rfl) rfl rfl rfl
theorem dX12_nextToken_87 : decode cX12_nextToken 87 = .ok (.invokevirtual 131, 3) := op_182 (a := 0) (b := 131) kcX12_nextToken (Nat.le_of_ble_eq_true rfl) rfl rfl rfl
theorem dX12_nextToken_90 : decode cX12_nextToken 90 = .ok (.i2l, 1) := op_133 kcX12_nextToken (Nat.le_of_ble_eq_true rfl) rfl
theorem dX12_nextToken_91 : decode cX12_nextToken 91 = .ok (.ldc2_w 150, 3) := op_20 (a := 0) (b := 150) kcX12_nextToken (Nat.le_of_ble_eq_true rfl) rfl rfl rfl
theorem dX12_nextToken_94 : decode cX12_nextToken 94 = .ok (.ldc2_w 152, 3) := op_20 (a := 0) (b := 152) kcX12_nextToken (Nat.le_of_ble_eq_true rfl) rfl rfl rfl
theorem dX12_nextToken_97 : decode cX12_nextToken 97 = .ok (.invokestatic 115, 3) := op_184 (a := 0) (b := 115) kcX12_nextToken (Nat.le_of_ble_eq_true rfl) rfl rfl rfl
theorem dX12_nextToken_100 : decode cX12_nextToken 100 = .ok (.ifCond .eq 174, 3) := op_153 (a := 0) (b := 174) kcX12_nextToken (Nat.le_of_ble_eq_true rfl) rfl rfl rfl (by decide)
theorem dX12_nextToken_103 : decode cX12_nextToken 103 = .ok (.aload_n 0, 1) := op_42 kcX12_nextToken (Nat.le_of_ble_eq_true rfl) rfl
theorem dX12_nextToken_104 : decode cX12_nextToken 104 = .ok (.dup, 1) := op_89 kcX12_nextToken (Nat.le_of_ble_eq_true rfl) rfl
theorem dX12_nextToken_105 : decode cX12_nextToken 105 = .ok (.getfield 128, 3) := op_180 (a := 0) (b := 128) kcX12_nextToken (Nat.le_of_ble_eq_true rfl) rfl rfl rfl
theorem dX12_nextToken_108 : decode cX12_nextToken 108 = .ok (.iconst 1, 1) := op_4 kcX12_nextToken (Nat.le_of_ble_eq_true rfl) rfl
theorem dX12_nextToken_109 : decode cX12_nextToken 109 = .ok (.iadd, 1) := op_96 kcX12_nextToken (Nat.le_of_ble_eq_true rfl) rfl
theorem dX12_nextToken_110 : decode cX12_nextToken 110 = .ok (.putfield 128, 3) := op_181 (a := 0) (b := 128) kcX12_nextToken (Nat.le_of_ble_eq_true rfl) rfl rfl rfl
theorem dX12_nextToken_113 : decode cX12_nextToken 113 = .ok (.goto (-31), 3) := op_167 (a := 255) (b := 225) kcX12_nextToken (Nat.le_of_ble_eq_true rfl) rfl rfl rfl (by decide)
theorem dX12_nextToken_116 : decode cX12_nextToken 116 = .ok (.iload_n 1, 1) := op_27 kcX12_nextToken (Nat.le_of_ble_eq_true rfl) rfl
theorem dX12_nextToken_117 : decode cX12_nextToken 117 = .ok (.i2l, 1) := op_133 kcX12_nextToken (Nat.le_of_ble_eq_true rfl) rfl
theorem dX12_nextToken_118 : decode cX12_nextToken 118 = .ok (.ldc2_w 154, 3) := op_20 (a := 0) (b := 154) kcX12_nextToken (Nat.le_of_ble_eq_true rfl) rfl rfl rfl
theorem dX12_nextToken_121 : decode cX12_nextToken 121 = .ok (.ldc2_w 156, 3) := op_20 (a := 0) (b := 156) kcX12_nextToken (Nat.le_of_ble_eq_true rfl) rfl rfl rfl
theorem dX12_nextToken_124 : decode cX12_nextToken 124 = .ok (.invokestatic 115, 3) := op_184 (a := 0) (b := 115) kcX12_nextToken (Nat.le_of_ble_eq_true rfl) rfl rfl rfl
theorem dX12_nextToken_127 : decode cX12_nextToken 127 = .ok (.ifCond .eq 116, 3) := op_153 (a := 0) (b := 116) kcX12_nextToken (Nat.le_of_ble_eq_true rfl) rfl rfl rfl (by decide)
theorem dX12_nextToken_130 : decode cX12_nextToken 130 = .ok (.aload_n 0, 1) := op_42 kcX12_nextToken (Nat.le_of_ble_eq_true rfl) rfl
theorem dX12_nextToken_131 : decode cX12_nextToken 131 = .ok (.iconst 2, 1) := op_5 kcX12_nextToken (Nat.le_of_ble_eq_true rfl) rfl
theorem dX12_nextToken_132 : decode cX12_nextToken 132 = .ok (.putfield 147, 3) := op_181 (a := 0) (b := 147) kcX12_nextToken (Nat.le_of_ble_eq_true rfl) rfl rfl rfl
theorem dX12_nextToken_135 : decode cX12_nextToken 135 = .ok (.aload_n 0, 1) := op_42 kcX12_nextToken (Nat.le_of_ble_eq_true rfl) rfl
theorem dX12_nextToken_136 : decode cX12_nextToken 136 = .ok (.iconst 0, 1) := op_3 kcX12_nextToken (Nat.le_of_ble_eq_true rfl) rfl
theorem dX12_nextToken_137 : decode cX12_nextToken 137 = .ok (.putfield 158, 3) := op_181 (a := 0) (b := 158) kcX12_nextToken (Nat.le_of_ble_eq_true rfl) rfl rfl rfl
theorem dX12_nextToken_140 : decode cX12_nextToken 140 = .ok (.aload_n 0, 1) := op_42 kcX12_nextToken (Nat.le_of_ble_eq_true rfl) rfl
theorem dX12_nextToken_141 : decode cX12_nextToken 141 = .ok (.aload_n 0, 1) := op_42 kcX12_nextToken (Nat.le_of_ble_eq_true rfl) rfl
theorem dX12_nextToken_142 : decode cX12_nextToken 142 = .ok (.getfield 128, 3) := op_180 (a := 0) (b := 128) kcX12_nextToken (Nat.le_of_ble_eq_true rfl) rfl rfl rfl
theorem dX12_nextToken_145 : decode cX12_nextToken 145 = .ok (.invokevirtual 131, 3) := op_182 (a := 0) (b := 131) kcX12_nextToken (Nat.le_of_ble_eq_true rfl) rfl rfl rfl
theorem dX12_nextToken_148 : decode cX12_nextToken 148 = .ok (.i2l, 1) := op_133 kcX12_nextToken (Nat.le_of_ble_eq_true rfl) rfl
theorem dX12_nextToken_149 : decode cX12_nextToken 149 = .ok (.ldc2_w 154, 3) := op_20 (a := 0) (b := 154) kcX12_nextToken (Nat.le_of_ble_eq_true rfl) rfl rfl rfl
theorem dX12_nextToken_152 : decode cX12_nextToken 152 = .ok (.ldc2_w 156, 3) := op_20 (a := 0) (b := 156) kcX12_nextToken (Nat.le_of_ble_eq_true rfl) rfl rfl rfl
theorem dX12_nextToken_155 : decode cX12_nextToken 155 = .ok (.invokestatic 115, 3) := op_184 (a := 0) (b := 115) kcX12_nextToken (Nat.le_of_ble_eq_true rfl) rfl rfl rfl
theorem dX12_nextToken_158 : decode cX12_nextToken 158 = .ok (.ifCond .eq 59, 3) := op_153 (a := 0) (b := 59) kcX12_nextToken (Nat.le_of_ble_eq_true rfl) rfl rfl rfl (by decide)
theorem dX12_nextToken_161 : decode cX12_nextToken 161 = .ok (.aload_n 0, 1) := op_42 kcX12_nextToken (Nat.le_of_ble_eq_true rfl) rfl
theorem dX12_nextToken_162 : decode cX12_nextToken 162 = .ok (.aload_n 0, 1) := op_42 kcX12_nextToken (Nat.le_of_ble_eq_true rfl) rfl
theorem dX12_nextToken_163 : decode cX12_nextToken 163 = .ok (.getfield 128, 3) := op_180 (a := 0) (b := 128) kcX12_nextToken (Nat.le_of_ble_eq_true rfl) rfl rfl rfl
theorem dX12_nextToken_166 : decode cX12_nextToken 166 = .ok (.aload_n 0, 1) := op_42 kcX12_nextToken (Nat.le_of_ble_eq_true rfl) rfl
theorem dX12_nextToken_167 : decode cX12_nextToken 167 = .ok (.getfield 122, 3) := op_180 (a := 0) (b := 122) kcX12_nextToken (Nat.le_of_ble_eq_true rfl) rfl rfl rfl
theorem dX12_nextToken_170 : decode cX12_nextToken 170 = .ok (.isub, 1) := op_100 kcX12_nextToken (Nat.le_of_ble_eq_true rfl) rfl
theorem dX12_nextToken_171 : decode cX12_nextToken 171 = .ok (.iconst 2, 1) := op_5 kcX12_nextToken (Nat.le_of_ble_eq_true rfl) rfl
theorem dX12_nextToken_172 : decode cX12_nextToken 172 = .ok (.if_icmp .ge 25, 3) := op_162 (a := 0) (b := 25) kcX12_nextToken (Nat.le_of_ble_eq_true rfl) rfl rfl rfl (by decide)
theorem dX12_nextToken_175 : decode cX12_nextToken 175 = .ok (.bipush 10, 2) := op_16 (a := 10) kcX12_nextToken (Nat.le_of_ble_eq_true rfl) rfl rfl (by decide)
theorem dX12_nextToken_177 : decode cX12_nextToken 177 = .ok (.aload_n 0, 1) := op_42 kcX12_nextToken (Nat.le_of_ble_eq_true rfl) rfl
theorem dX12_nextToken_178 : decode cX12_nextToken 178 = .ok (.getfield 158, 3) := op_180 (a := 0) (b := 158) kcX12_nextToken (Nat.le_of_ble_eq_true rfl) rfl rfl rfl
theorem dX12_nextToken_181 : decode cX12_nextToken 181 = .ok (.imul, 1) := op_104 kcX12_nextToken (Nat.le_of_ble_eq_true rfl) rfl
theorem dX12_nextToken_182 : decode cX12_nextToken 182 = .ok (.aload_n 0, 1) := op_42 kcX12_nextToken (Nat.le_of_ble_eq_true rfl) rfl
theorem dX12_nextToken_183 : decode cX12_nextToken 183 = .ok (.aload_n 0, 1) := op_42 kcX12_nextToken (Nat.le_of_ble_eq_true rfl) rfl
theorem dX12_nextToken_184 : decode cX12_nextToken 184 = .ok (.getfield 128, 3) := op_180 (a := 0) (b := 128) kcX12_nextToken (Nat.le_of_ble_eq_true rfl) rfl rfl rfl
theorem dX12_nextToken_187 : decode cX12_nextToken 187 = .ok (.invokevirtual 131, 3) := op_182 (a := 0) (b := 131) kcX12_nextToken (Nat.le_of_ble_eq_true rfl) rfl rfl rfl
theorem dX12_nextToken_190 : decode cX12_nextToken 190 = .ok (.iadd, 1) := op_96 kcX12_nextToken (Nat.le_of_ble_eq_true rfl) rfl
theorem dX12_nextToken_191 : decode cX12_nextToken 191 = .ok (.bipush 48, 2) := op_16 (a := 48) kcX12_nextToken (Nat.le_of_ble_eq_true rfl) rfl rfl (by decide)
theorem dX12_nextToken_193 : decode cX12_nextToken 193 = .ok (.isub, 1) := op_100 kcX12_nextToken (Nat.le_of_ble_eq_true rfl) rfl
theorem dX12_nextToken_194 : decode cX12_nextToken 194 = .ok (.goto 7, 3) := op_167 (a := 0) (b := 7) kcX12_nextToken (Nat.le_of_ble_eq_true rfl) rfl rfl rfl (by decide)
theorem dX12_nextToken_197 : decode cX12_nextToken 197 = .ok (.aload_n 0, 1) := op_42 kcX12_nextToken (Nat.le_of_ble_eq_true rfl) rfl
theorem dX12_nextToken_198 : decode cX12_nextToken 198 = .ok (.getfield 158, 3) := op_180 (a := 0) (b := 158) kcX12_nextToken (Nat.le_of_ble_eq_true rfl) rfl rfl rfl
theorem dX12_nextToken_201 : decode cX12_nextToken 201 = .ok (.putfield 158, 3) := op_181 (a := 0) (b := 158) kcX12_nextToken (Nat.le_of_ble_eq_true rfl) rfl rfl rfl
theorem dX12_nextToken_204 : decode cX12_nextToken 204 = .ok (.aload_n 0, 1) := op_42 kcX12_nextToken (Nat.le_of_ble_eq_true rfl) rfl
theorem dX12_nextToken_205 : decode cX12_nextToken 205 = .ok (.dup, 1) := op_89 kcX12_nextToken (Nat.le_of_ble_eq_true rfl) rfl
theorem dX12_nextToken_206 : decode cX12_nextToken 206 = .ok (.getfield 128, 3) := op_180 (a := 0) (b := 128) kcX12_nextToken (Nat.le_of_ble_eq_true rfl) rfl rfl rfl
theorem dX12_nextToken_209 : decode cX12_nextToken 209 = .ok (.iconst 1, 1) := op_4 kcX12_nextToken (Nat.le_of_ble_eq_true rfl) rfl
theorem dX12_nextToken_210 : decode cX12_nextToken 210 = .ok (.iadd, 1) := op_96 kcX12_nextToken (Nat.le_of_ble_eq_true rfl) rfl
theorem dX12_nextToken_211 : decode cX12_nextToken 211 = .ok (.putfield 128, 3) := op_181 (a := 0) (b := 128) kcX12_nextToken (Nat.le_of_ble_eq_true rfl) rfl rfl rfl
theorem dX12_nextToken_214 : decode cX12_nextToken 214 = .ok (.goto (-74), 3) := op_167 (a := 255) (b := 182) kcX12_nextToken (Nat.le_of_ble_eq_true rfl) rfl rfl rfl (by decide)
theorem dX12_nextToken_217 : decode cX12_nextToken 217 = .ok (.aload_n 0, 1) := op_42 kcX12_nextToken (Nat.le_of_ble_eq_true rfl) rfl
theorem dX12_nextToken_218 : decode cX12_nextToken 218 = .ok (.aload_n 0, 1) := op_42 kcX12_nextToken (Nat.le_of_ble_eq_true rfl) rfl
theorem dX12_nextToken_219 : decode cX12_nextToken 219 = .ok (.getfield 128, 3) := op_180 (a := 0) (b := 128) kcX12_nextToken (Nat.le_of_ble_eq_true rfl) rfl rfl rfl
theorem dX12_nextToken_222 : decode cX12_nextToken 222 = .ok (.aload_n 0, 1) := op_42 kcX12_nextToken (Nat.le_of_ble_eq_true rfl) rfl
theorem dX12_nextToken_223 : decode cX12_nextToken 223 = .ok (.getfield 122, 3) := op_180 (a := 0) (b := 122) kcX12_nextToken (Nat.le_of_ble_eq_true rfl) rfl rfl rfl
theorem dX12_nextToken_226 : decode cX12_nextToken 226 = .ok (.isub, 1) := op_100 kcX12_nextToken (Nat.le_of_ble_eq_true rfl) rfl
theorem dX12_nextToken_227 : decode cX12_nextToken 227 = .ok (.iconst 2, 1) := op_5 kcX12_nextToken (Nat.le_of_ble_eq_true rfl) rfl
theorem dX12_nextToken_228 : decode cX12_nextToken 228 = .ok (.if_icmp .gt 7, 3) := op_163 (a := 0) (b := 7) kcX12_nextToken (Nat.le_of_ble_eq_true rfl) rfl rfl rfl (by decide)
theorem dX12_nextToken_231 : decode cX12_nextToken 231 = .ok (.iconst 1, 1) := op_4 kcX12_nextToken (Nat.le_of_ble_eq_true rfl) rfl
theorem dX12_nextToken_232 : decode cX12_nextToken 232 = .ok (.goto 4, 3) := op_167 (a := 0) (b := 4) kcX12_nextToken (Nat.le_of_ble_eq_true rfl) rfl rfl rfl (by decide)
theorem dX12_nextToken_235 : decode cX12_nextToken 235 = .ok (.iconst 0, 1) := op_3 kcX12_nextToken (Nat.le_of_ble_eq_true rfl) rfl
theorem dX12_nextToken_236 : decode cX12_nextToken 236 = .ok (.iconst 1, 1) := op_4 kcX12_nextToken (Nat.le_of_ble_eq_true rfl) rfl
theorem dX12_nextToken_237 : decode cX12_nextToken 237 = .ok (.invokevirtual 161, 3) := op_182 (a := 0) (b := 161) kcX12_nextToken (Nat.le_of_ble_eq_true rfl) rfl rfl rfl
theorem dX12_nextToken_240 : decode cX12_nextToken 240 = .ok (.goto 34, 3) := op_167 (a := 0) (b := 34) kcX12_nextToken (Nat.le_of_ble_eq_true rfl) rfl rfl rfl (by decide)
theorem dX12_nextToken_243 : decode cX12_nextToken 243 = .ok (.aload_n 0, 1) := op_42 kcX12_nextToken (Nat.le_of_ble_eq_true rfl) rfl
theorem dX12_nextToken_244 : decode cX12_nextToken 244 = .ok (.iconst 3, 1) := op_6 kcX12_nextToken (Nat.le_of_ble_eq_true rfl) rfl
theorem dX12_nextToken_245 : decode cX12_nextToken 245 = .ok (.putfield 147, 3) := op_181 (a := 0) (b := 147) kcX12_nextToken (Nat.le_of_ble_eq_true rfl) rfl rfl rfl
theorem dX12_nextToken_248 : decode cX12_nextToken 248 = .ok (.aload_n 0, 1) := op_42 kcX12_nextToken (Nat.le_of_ble_eq_true rfl) rfl
theorem dX12_nextToken_249 : decode cX12_nextToken 249 = .ok (.iload_n 1, 1) := op_27 kcX12_nextToken (Nat.le_of_ble_eq_true rfl) rfl
theorem dX12_nextToken_250 : decode cX12_nextToken 250 = .ok (.bipush 59, 2) := op_16 (a := 59) kcX12_nextToken (Nat.le_of_ble_eq_true rfl) rfl rfl (by decide)
theorem dX12_nextToken_252 : decode cX12_nextToken 252 = .ok (.if_icmp .ne 7, 3) := op_160 (a := 0) (b := 7) kcX12_nextToken (Nat.le_of_ble_eq_true rfl) rfl rfl rfl (by decide)
theorem dX12_nextToken_255 : decode cX12_nextToken 255 = .ok (.iconst 1, 1) := op_4 kcX12_nextToken (Nat.le_of_ble_eq_true rfl) rfl
theorem dX12_nextToken_256 : decode cX12_nextToken 256 = .ok (.goto 4, 3) := op_167 (a := 0) (b := 4) kcX12_nextToken (Nat.le_of_ble_eq_true rfl) rfl rfl rfl (by decide)
theorem dX12_nextToken_259 : decode cX12_nextToken 259 = .ok (.iconst 0, 1) := op_3 kcX12_nextToken (Nat.le_of_ble_eq_true rfl) rfl
theorem dX12_nextToken_260 : decode cX12_nextToken 260 = .ok (.iconst 1, 1) := op_4 kcX12_nextToken (Nat.le_of_ble_eq_true rfl) rfl
theorem dX12_nextToken_261 : decode cX12_nextToken 261 = .ok (.invokevirtual 161, 3) := op_182 (a := 0) (b := 161) kcX12_nextToken (Nat.le_of_ble_eq_true rfl) rfl rfl rfl
theorem dX12_nextToken_264 : decode cX12_nextToken 264 = .ok (.aload_n 0, 1) := op_42 kcX12_nextToken (Nat.le_of_ble_eq_true rfl) rfl
theorem dX12_nextToken_265 : decode cX12_nextToken 265 = .ok (.dup, 1) := op_89 kcX12_nextToken (Nat.le_of_ble_eq_true rfl) rfl
theorem dX12_nextToken_266 : decode cX12_nextToken 266 = .ok (.getfield 128, 3) := op_180 (a := 0) (b := 128) kcX12_nextToken (Nat.le_of_ble_eq_true rfl) rfl rfl rfl
theorem dX12_nextToken_269 : decode cX12_nextToken 269 = .ok (.iconst 1, 1) := op_4 kcX12_nextToken (Nat.le_of_ble_eq_true rfl) rfl
theorem dX12_nextToken_270 : decode cX12_nextToken 270 = .ok (.iadd, 1) := op_96 kcX12_nextToken (Nat.le_of_ble_eq_true rfl) rfl
theorem dX12_nextToken_271 : decode cX12_nextToken 271 = .ok (.putfield 128, 3) := op_181 (a := 0) (b := 128) kcX12_nextToken (Nat.le_of_ble_eq_true rfl) rfl rfl rfl
theorem dX12_nextToken_274 : decode cX12_nextToken 274 = .ok (.return_, 1) := op_177 kcX12_nextToken (Nat.le_of_ble_eq_true rfl) rfl
set_option maxRecDepth 20000 in
theorem ggX12_looked_X12_needs : GoodIn wsX12_looked wsX12_needs := goodIn_r _ [8, 1, 9, 10, 14, 15, 16, 17, 18, 19, 20, 21, 22, 23, 24, 25, 26, 27, 28, 29, 30, 31, 32, 33, 34, 35, 36, 37, 38, 39, 40, 41, 42, 43, 44, 45, 46, 47, 48, 49, 50] rfl gw_wsX12_needs
set_option maxRecDepth 20000 in
theorem gX12_looked_X12_needs : GoodIn wsX12_looked (wsV RX12 161 RX12 yX12_needs wsX12_needs) := goodIn_app (goodIn_of _ (by decide +kernel)) ggX12_looked_X12_needs
set_option maxRecDepth 20000 in
theorem ggX12_looked_X12_in : GoodIn wsX12_looked wsX12_in := goodIn_r _ [13] rfl gw_wsX12_in
set_option maxRecDepth 20000 in
theorem gX12_looked_X12_in : GoodIn wsX12_looked (va_wsS RX12 115 yX12_in wsX12_in) := goodIn_app (goodIn_of _ (by decide +kernel)) ggX12_looked_X12_in
theorem kcX12_looked : (cX12_looked).data.toList = cbs 0xac030400a79e00b42a0a009a7700b42aa100b6067300b8851c851b859e00b42a2a14009a7700b42aa100b605030400a7040700a0059300b42a2a15009a7700b42a 65 := by decide +kernel
theorem dX12_looked_0 : decode cX12_looked 0 = .ok (.aload_n 0, 1) := op_42 kcX12_looked (Nat.le_of_ble_eq_true rfl) rfl
theorem dX12_looked_1 : decode cX12_looked 1 = .ok (.getfield 119, 3) := op_180 (a := 0) (b := 119) kcX12_looked (Nat.le_of_ble_eq_true rfl) rfl rfl rfl
theorem dX12_looked_4 : decode cX12_looked 4 = .ok (.ifCond .ne 21, 3) := op_154 (a := 0) (b := 21) kcX12_looked (Nat.le_of_ble_eq_true rfl) rfl rfl rfl (by decide)
theorem dX12_looked_7 : decode cX12_looked 7 = .ok (.aload_n 0, 1) := op_42 kcX12_looked (Nat.le_of_ble_eq_true rfl) rfl
theorem dX12_looked_8 : decode cX12_looked 8 = .ok (.aload_n 0, 1) := op_42 kcX12_looked (Nat.le_of_ble_eq_true rfl) rfl
theorem dX12_looked_9 : decode cX12_looked 9 = .ok (.getfield 147, 3) := op_180 (a := 0) (b := 147) kcX12_looked (Nat.le_of_ble_eq_true rfl) rfl rfl rfl
theorem dX12_looked_12 : decode cX12_looked 12 = .ok (.iconst 2, 1) := op_5 kcX12_looked (Nat.le_of_ble_eq_true rfl) rfl
theorem dX12_looked_13 : decode cX12_looked 13 = .ok (.if_icmp .ne 7, 3) := op_160 (a := 0) (b := 7) kcX12_looked (Nat.le_of_ble_eq_true rfl) rfl rfl rfl (by decide)
theorem dX12_looked_16 : decode cX12_looked 16 = .ok (.iconst 1, 1) := op_4 kcX12_looked (Nat.le_of_ble_eq_true rfl) rfl
theorem dX12_looked_17 : decode cX12_looked 17 = .ok (.goto 4, 3) := op_167 (a := 0) (b := 4) kcX12_looked (Nat.le_of_ble_eq_true rfl) rfl rfl rfl (by decide)
theorem dX12_looked_20 : decode cX12_looked 20 = .ok (.iconst 0, 1) := op_3 kcX12_looked (Nat.le_of_ble_eq_true rfl) rfl
theorem dX12_looked_21 : decode cX12_looked 21 = .ok (.iconst 2, 1) := op_5 kcX12_looked (Nat.le_of_ble_eq_true rfl) rfl
theorem dX12_looked_22 : decode cX12_looked 22 = .ok (.invokevirtual 161, 3) := op_182 (a := 0) (b := 161) kcX12_looked (Nat.le_of_ble_eq_true rfl) rfl rfl rfl
theorem dX12_looked_25 : decode cX12_looked 25 = .ok (.aload_n 0, 1) := op_42 kcX12_looked (Nat.le_of_ble_eq_true rfl) rfl
theorem dX12_looked_26 : decode cX12_looked 26 = .ok (.getfield 119, 3) := op_180 (a := 0) (b := 119) kcX12_looked (Nat.le_of_ble_eq_true rfl) rfl rfl rfl
theorem dX12_looked_29 : decode cX12_looked 29 = .ok (.ifCond .ne 20, 3) := op_154 (a := 0) (b := 20) kcX12_looked (Nat.le_of_ble_eq_true rfl) rfl rfl rfl (by decide)
theorem dX12_looked_32 : decode cX12_looked 32 = .ok (.aload_n 0, 1) := op_42 kcX12_looked (Nat.le_of_ble_eq_true rfl) rfl
theorem dX12_looked_33 : decode cX12_looked 33 = .ok (.aload_n 0, 1) := op_42 kcX12_looked (Nat.le_of_ble_eq_true rfl) rfl
theorem dX12_looked_34 : decode cX12_looked 34 = .ok (.getfield 158, 3) := op_180 (a := 0) (b := 158) kcX12_looked (Nat.le_of_ble_eq_true rfl) rfl rfl rfl
theorem dX12_looked_37 : decode cX12_looked 37 = .ok (.i2l, 1) := op_133 kcX12_looked (Nat.le_of_ble_eq_true rfl) rfl
theorem dX12_looked_38 : decode cX12_looked 38 = .ok (.iload_n 1, 1) := op_27 kcX12_looked (Nat.le_of_ble_eq_true rfl) rfl
theorem dX12_looked_39 : decode cX12_looked 39 = .ok (.i2l, 1) := op_133 kcX12_looked (Nat.le_of_ble_eq_true rfl) rfl
theorem dX12_looked_40 : decode cX12_looked 40 = .ok (.iload_n 2, 1) := op_28 kcX12_looked (Nat.le_of_ble_eq_true rfl) rfl
theorem dX12_looked_41 : decode cX12_looked 41 = .ok (.i2l, 1) := op_133 kcX12_looked (Nat.le_of_ble_eq_true rfl) rfl
theorem dX12_looked_42 : decode cX12_looked 42 = .ok (.invokestatic 115, 3) := op_184 (a := 0) (b := 115) kcX12_looked (Nat.le_of_ble_eq_true rfl) rfl rfl rfl
theorem dX12_looked_45 : decode cX12_looked 45 = .ok (.iconst 3, 1) := op_6 kcX12_looked (Nat.le_of_ble_eq_true rfl) rfl
theorem dX12_looked_46 : decode cX12_looked 46 = .ok (.invokevirtual 161, 3) := op_182 (a := 0) (b := 161) kcX12_looked (Nat.le_of_ble_eq_true rfl) rfl rfl rfl
theorem dX12_looked_49 : decode cX12_looked 49 = .ok (.aload_n 0, 1) := op_42 kcX12_looked (Nat.le_of_ble_eq_true rfl) rfl
theorem dX12_looked_50 : decode cX12_looked 50 = .ok (.getfield 119, 3) := op_180 (a := 0) (b := 119) kcX12_looked (Nat.le_of_ble_eq_true rfl) rfl rfl rfl
theorem dX12_looked_53 : decode cX12_looked 53 = .ok (.ifCond .ne 10, 3) := op_154 (a := 0) (b := 10) kcX12_looked (Nat.le_of_ble_eq_true rfl) rfl rfl rfl (by decide)
theorem dX12_looked_56 : decode cX12_looked 56 = .ok (.aload_n 0, 1) := op_42 kcX12_looked (Nat.le_of_ble_eq_true rfl) rfl
theorem dX12_looked_57 : decode cX12_looked 57 = .ok (.getfield 158, 3) := op_180 (a := 0) (b := 158) kcX12_looked (Nat.le_of_ble_eq_true rfl) rfl rfl rfl
theorem dX12_looked_60 : decode cX12_looked 60 = .ok (.goto 4, 3) := op_167 (a := 0) (b := 4) kcX12_looked (Nat.le_of_ble_eq_true rfl) rfl rfl rfl (by decide)
theorem dX12_looked_63 : decode cX12_looked 63 = .ok (.iconst 0, 1) := op_3 kcX12_looked (Nat.le_of_ble_eq_true rfl) rfl
theorem dX12_looked_64 : decode cX12_looked 64 = .ok (.ireturn, 1) := op_172 kcX12_looked (Nat.le_of_ble_eq_true rfl) rfl
set_option maxRecDepth 20000 in
theorem gw_wsX12_looked : (wsX12_looked).all goodWord = true := by decide +kernel
set_option maxRecDepth 20000 in
theorem ggX12_readNumber_X12_looked : GoodIn wsX12_readNumber wsX12_looked := goodIn_r _ [5, 6, 7, 8, 9, 10, 11, 4, 12, 13, 14, 15, 16, 17, 33, 34, 35, 36, 37, 38, 39, 40, 41, 42, 43, 44, 45, 46, 47, 48, 49, 50, 51, 52, 53, 54, 55, 56, 57, 58, 59, 60, 61, 62, 63, 64, 65, 66, 67, 68, 69] rfl gw_wsX12_looked
set_option maxRecDepth 20000 in
theorem gX12_readNumber_X12_looked : GoodIn wsX12_readNumber (wsV RX12 165 RX12 yX12_looked wsX12_looked) := goodIn_app (goodIn_of _ (by decide +kernel)) ggX12_readNumber_X12_looked
set_option maxRecDepth 20000 in
theorem gw_wsX12_nextToken : (wsX12_nextToken).all goodWord = true := by decide +kernel
set_option maxRecDepth 20000 in
theorem ggX12_readNumber_X12_nextToken : GoodIn wsX12_readNumber wsX12_nextToken := goodIn_r _ [21, 6, 22, 13, 7, 23, 24, 25, 26, 8, 27, 28, 29, 4, 30, 31, 32, 15, 16, 17, 9, 10, 11, 12, 14, 33, 34, 35, 36, 37, 38, 39, 40, 41, 42, 43, 44, 45, 46, 47, 48, 49, 50, 51, 52, 53, 54, 55, 56, 57, 58, 59, 60, 61, 62, 63, 64, 65, 66, 67, 68, 69] rfl gw_wsX12_nextToken
set_option maxRecDepth 20000 in
theorem gX12_readNumber_X12_nextToken : GoodIn wsX12_readNumber (wsV RX12 168 RX12 yX12_nextToken wsX12_nextToken) := goodIn_app (goodIn_of _ (by decide +kernel)) ggX12_readNumber_X12_nextToken
theorem kcX12_readNumber : (cX12_readNumber).data.toList = cbs 0xac1da800b62a3ea500b61c1b2a 13 := by decide +kernel
theorem dX12_readNumber_0 : decode cX12_readNumber 0 = .ok (.aload_n 0, 1) := op_42 kcX12_readNumber (Nat.le_of_ble_eq_true rfl) rfl
theorem dX12_readNumber_1 : decode cX12_readNumber 1 = .ok (.iload_n 1, 1) := op_27 kcX12_readNumber (Nat.le_of_ble_eq_true rfl) rfl
theorem dX12_readNumber_2 : decode cX12_readNumber 2 = .ok (.iload_n 2, 1) := op_28 kcX12_readNumber (Nat.le_of_ble_eq_true rfl) rfl
theorem dX12_readNumber_3 : decode cX12_readNumber 3 = .ok (.invokevirtual 165, 3) := op_182 (a := 0) (b := 165) kcX12_readNumber (Nat.le_of_ble_eq_true rfl) rfl rfl rfl
theorem dX12_readNumber_6 : decode cX12_readNumber 6 = .ok (.istore_n 3, 1) := op_62 kcX12_readNumber (Nat.le_of_ble_eq_true rfl) rfl
theorem dX12_readNumber_7 : decode cX12_readNumber 7 = .ok (.aload_n 0, 1) := op_42 kcX12_readNumber (Nat.le_of_ble_eq_true rfl) rfl
theorem dX12_readNumber_8 : decode cX12_readNumber 8 = .ok (.invokevirtual 168, 3) := op_182 (a := 0) (b := 168) kcX12_readNumber (Nat.le_of_ble_eq_true rfl) rfl rfl rfl
theorem dX12_readNumber_11 : decode cX12_readNumber 11 = .ok (.iload_n 3, 1) := op_29 kcX12_readNumber (Nat.le_of_ble_eq_true rfl) rfl
theorem dX12_readNumber_12 : decode cX12_readNumber 12 = .ok (.ireturn, 1) := op_172 kcX12_readNumber (Nat.le_of_ble_eq_true rfl) rfl
set_option maxRecDepth 20000 in
theorem ggX12_lookedPlace_X12_looked : GoodIn wsX12_lookedPlace wsX12_looked := goodIn_r _ [6, 7, 8, 9, 10, 11, 12, 5, 13, 14, 15, 16, 17, 18, 19, 20, 21, 22, 23, 24, 25, 26, 27, 28, 29, 30, 31, 32, 33, 34, 35, 36, 37, 38, 39, 40, 41, 42, 43, 44, 45, 46, 47, 48, 49, 50, 51, 52, 53, 54, 55] rfl gw_wsX12_looked
set_option maxRecDepth 20000 in
theorem gX12_lookedPlace_X12_looked : GoodIn wsX12_lookedPlace (wsV RX12 165 RX12 yX12_looked wsX12_looked) := goodIn_app (goodIn_of _ (by decide +kernel)) ggX12_lookedPlace_X12_looked
theorem kcX12_lookedPlace : (cX12_lookedPlace).data.toList = cbs 0xac1b6100b56100b42a0700a71b0700a46100b42a1b2a3ca500b60610032a 30 := by decide +kernel
theorem dX12_lookedPlace_0 : decode cX12_lookedPlace 0 = .ok (.aload_n 0, 1) := op_42 kcX12_lookedPlace (Nat.le_of_ble_eq_true rfl) rfl
theorem dX12_lookedPlace_1 : decode cX12_lookedPlace 1 = .ok (.iconst 0, 1) := op_3 kcX12_lookedPlace (Nat.le_of_ble_eq_true rfl) rfl
theorem dX12_lookedPlace_2 : decode cX12_lookedPlace 2 = .ok (.bipush 6, 2) := op_16 (a := 6) kcX12_lookedPlace (Nat.le_of_ble_eq_true rfl) rfl rfl (by decide)
theorem dX12_lookedPlace_4 : decode cX12_lookedPlace 4 = .ok (.invokevirtual 165, 3) := op_182 (a := 0) (b := 165) kcX12_lookedPlace (Nat.le_of_ble_eq_true rfl) rfl rfl rfl
theorem dX12_lookedPlace_7 : decode cX12_lookedPlace 7 = .ok (.istore_n 1, 1) := op_60 kcX12_lookedPlace (Nat.le_of_ble_eq_true rfl) rfl
theorem dX12_lookedPlace_8 : decode cX12_lookedPlace 8 = .ok (.aload_n 0, 1) := op_42 kcX12_lookedPlace (Nat.le_of_ble_eq_true rfl) rfl
theorem dX12_lookedPlace_9 : decode cX12_lookedPlace 9 = .ok (.iload_n 1, 1) := op_27 kcX12_lookedPlace (Nat.le_of_ble_eq_true rfl) rfl
theorem dX12_lookedPlace_10 : decode cX12_lookedPlace 10 = .ok (.aload_n 0, 1) := op_42 kcX12_lookedPlace (Nat.le_of_ble_eq_true rfl) rfl
theorem dX12_lookedPlace_11 : decode cX12_lookedPlace 11 = .ok (.getfield 97, 3) := op_180 (a := 0) (b := 97) kcX12_lookedPlace (Nat.le_of_ble_eq_true rfl) rfl rfl rfl
theorem dX12_lookedPlace_14 : decode cX12_lookedPlace 14 = .ok (.if_icmp .le 7, 3) := op_164 (a := 0) (b := 7) kcX12_lookedPlace (Nat.le_of_ble_eq_true rfl) rfl rfl rfl (by decide)
theorem dX12_lookedPlace_17 : decode cX12_lookedPlace 17 = .ok (.iload_n 1, 1) := op_27 kcX12_lookedPlace (Nat.le_of_ble_eq_true rfl) rfl
theorem dX12_lookedPlace_18 : decode cX12_lookedPlace 18 = .ok (.goto 7, 3) := op_167 (a := 0) (b := 7) kcX12_lookedPlace (Nat.le_of_ble_eq_true rfl) rfl rfl rfl (by decide)
theorem dX12_lookedPlace_21 : decode cX12_lookedPlace 21 = .ok (.aload_n 0, 1) := op_42 kcX12_lookedPlace (Nat.le_of_ble_eq_true rfl) rfl
theorem dX12_lookedPlace_22 : decode cX12_lookedPlace 22 = .ok (.getfield 97, 3) := op_180 (a := 0) (b := 97) kcX12_lookedPlace (Nat.le_of_ble_eq_true rfl) rfl rfl rfl
theorem dX12_lookedPlace_25 : decode cX12_lookedPlace 25 = .ok (.putfield 97, 3) := op_181 (a := 0) (b := 97) kcX12_lookedPlace (Nat.le_of_ble_eq_true rfl) rfl rfl rfl
theorem dX12_lookedPlace_28 : decode cX12_lookedPlace 28 = .ok (.iload_n 1, 1) := op_27 kcX12_lookedPlace (Nat.le_of_ble_eq_true rfl) rfl
theorem dX12_lookedPlace_29 : decode cX12_lookedPlace 29 = .ok (.ireturn, 1) := op_172 kcX12_lookedPlace (Nat.le_of_ble_eq_true rfl) rfl
set_option maxRecDepth 20000 in
theorem gw_wsX12_lookedPlace : (wsX12_lookedPlace).all goodWord = true := by decide +kernel
set_option maxRecDepth 20000 in
theorem ggX12_readPlace_X12_lookedPlace : GoodIn wsX12_readPlace wsX12_lookedPlace := goodIn_r _ [5, 6, 7, 8, 9, 4, 10, 11, 12, 13, 14, 15, 16, 17, 18, 19, 20, 21, 22, 38, 39, 40, 41, 42, 43, 44, 45, 46, 47, 48, 49, 50, 51, 52, 53, 54, 55, 56, 57, 58, 59, 60, 61, 62, 63, 64, 65, 66, 67, 68, 69, 70, 71, 72, 73, 74] rfl gw_wsX12_lookedPlace
set_option maxRecDepth 20000 in
theorem gX12_readPlace_X12_lookedPlace : GoodIn wsX12_readPlace (wsV RX12 171 RX12 yX12_lookedPlace wsX12_lookedPlace) := goodIn_app (goodIn_of _ (by decide +kernel)) ggX12_readPlace_X12_lookedPlace
set_option maxRecDepth 20000 in
theorem ggX12_readPlace_X12_nextToken : GoodIn wsX12_readPlace wsX12_nextToken := goodIn_r _ [26, 11, 27, 18, 12, 28, 29, 30, 31, 13, 32, 33, 34, 4, 35, 36, 37, 20, 21, 22, 14, 15, 16, 17, 19, 38, 39, 40, 41, 42, 43, 44, 45, 46, 47, 48, 49, 50, 51, 52, 53, 54, 55, 56, 57, 58, 59, 60, 61, 62, 63, 64, 65, 66, 67, 68, 69, 70, 71, 72, 73, 74] rfl gw_wsX12_nextToken
set_option maxRecDepth 20000 in
theorem gX12_readPlace_X12_nextToken : GoodIn wsX12_readPlace (wsV RX12 168 RX12 yX12_nextToken wsX12_nextToken) := goodIn_app (goodIn_of _ (by decide +kernel)) ggX12_readPlace_X12_nextToken
theorem kcX12_readPlace : (cX12_readPlace).data.toList = cbs 0xac1ba800b62a3cab00b62a 11 := by decide +kernel
theorem dX12_readPlace_0 : decode cX12_readPlace 0 = .ok (.aload_n 0, 1) := op_42 kcX12_readPlace (Nat.le_of_ble_eq_true rfl) rfl
theorem dX12_readPlace_1 : decode cX12_readPlace 1 = .ok (.invokevirtual 171, 3) := op_182 (a := 0) (b := 171) kcX12_readPlace (Nat.le_of_ble_eq_true rfl) rfl rfl rfl
theorem dX12_readPlace_4 : decode cX12_readPlace 4 = .ok (.istore_n 1, 1) := op_60 kcX12_readPlace (Nat.le_of_ble_eq_true rfl) rfl
theorem dX12_readPlace_5 : decode cX12_readPlace 5 = .ok (.aload_n 0, 1) := op_42 kcX12_readPlace (Nat.le_of_ble_eq_true rfl) rfl
theorem dX12_readPlace_6 : decode cX12_readPlace 6 = .ok (.invokevirtual 168, 3) := op_182 (a := 0) (b := 168) kcX12_readPlace (Nat.le_of_ble_eq_true rfl) rfl rfl rfl
theorem dX12_readPlace_9 : decode cX12_readPlace 9 = .ok (.iload_n 1, 1) := op_27 kcX12_readPlace (Nat.le_of_ble_eq_true rfl) rfl
theorem dX12_readPlace_10 : decode cX12_readPlace 10 = .ok (.ireturn, 1) := op_172 kcX12_readPlace (Nat.le_of_ble_eq_true rfl) rfl
set_option maxRecDepth 20000 in
theorem ggX12_readPot_X12_needs : GoodIn wsX12_readPot wsX12_needs := goodIn_r _ [9, 1, 10, 11, 35, 36, 37, 38, 39, 40, 41, 42, 43, 44, 45, 46, 47, 48, 49, 50, 51, 52, 53, 54, 55, 56, 57, 58, 59, 60, 61, 62, 63, 64, 65, 66, 67, 68, 69, 70, 71] rfl gw_wsX12_needs
set_option maxRecDepth 20000 in
theorem gX12_readPot_X12_needs : GoodIn wsX12_readPot (wsV RX12 161 RX12 yX12_needs wsX12_needs) := goodIn_app (goodIn_of _ (by decide +kernel)) ggX12_readPot_X12_needs
set_option maxRecDepth 20000 in
theorem ggX12_readPot_X12_looked : GoodIn wsX12_readPot wsX12_looked := goodIn_r _ [15, 1, 2, 16, 5, 6, 7, 8, 9, 10, 11, 17, 18, 19, 35, 36, 37, 38, 39, 40, 41, 42, 43, 44, 45, 46, 47, 48, 49, 50, 51, 52, 53, 54, 55, 56, 57, 58, 59, 60, 61, 62, 63, 64, 65, 66, 67, 68, 69, 70, 71] rfl gw_wsX12_looked
set_option maxRecDepth 20000 in
theorem gX12_readPot_X12_looked : GoodIn wsX12_readPot (wsV RX12 165 RX12 yX12_looked wsX12_looked) := goodIn_app (goodIn_of _ (by decide +kernel)) ggX12_readPot_X12_looked
set_option maxRecDepth 20000 in
theorem ggX12_readPot_X12_nextToken : GoodIn wsX12_readPot wsX12_nextToken := goodIn_r _ [23, 1, 24, 10, 2, 25, 26, 27, 28, 16, 29, 30, 31, 8, 32, 33, 34, 17, 18, 19, 5, 6, 7, 9, 11, 35, 36, 37, 38, 39, 40, 41, 42, 43, 44, 45, 46, 47, 48, 49, 50, 51, 52, 53, 54, 55, 56, 57, 58, 59, 60, 61, 62, 63, 64, 65, 66, 67, 68, 69, 70, 71] rfl gw_wsX12_nextToken
set_option maxRecDepth 20000 in
theorem gX12_readPot_X12_nextToken : GoodIn wsX12_readPot (wsV RX12 168 RX12 yX12_nextToken wsX12_nextToken) := goodIn_app (goodIn_of _ (by decide +kernel)) ggX12_readPot_X12_nextToken
theorem kcX12_readPot : (cX12_readPot).data.toList = cbs 0xb19effa73d030400a7040700a0059300b42aa800b62a0101846100b56100b42a0700a71b0700a46100b42a1b2a4f1d1b1700b42a21009a7700b42a3ea500b60910032aa100b608030400a70407009f059300b42a0b00a107101b2a5d00991c61009a7700b42a3d043c03 106 := by decide +kernel
theorem dX12_readPot_0 : decode cX12_readPot 0 = .ok (.iconst 0, 1) := op_3 kcX12_readPot (Nat.le_of_ble_eq_true rfl) rfl
theorem dX12_readPot_1 : decode cX12_readPot 1 = .ok (.istore_n 1, 1) := op_60 kcX12_readPot (Nat.le_of_ble_eq_true rfl) rfl
theorem dX12_readPot_2 : decode cX12_readPot 2 = .ok (.iconst 1, 1) := op_4 kcX12_readPot (Nat.le_of_ble_eq_true rfl) rfl
theorem dX12_readPot_3 : decode cX12_readPot 3 = .ok (.istore_n 2, 1) := op_61 kcX12_readPot (Nat.le_of_ble_eq_true rfl) rfl
theorem dX12_readPot_4 : decode cX12_readPot 4 = .ok (.aload_n 0, 1) := op_42 kcX12_readPot (Nat.le_of_ble_eq_true rfl) rfl
theorem dX12_readPot_5 : decode cX12_readPot 5 = .ok (.getfield 119, 3) := op_180 (a := 0) (b := 119) kcX12_readPot (Nat.le_of_ble_eq_true rfl) rfl rfl rfl
theorem dX12_readPot_8 : decode cX12_readPot 8 = .ok (.ifCond .ne 97, 3) := op_154 (a := 0) (b := 97) kcX12_readPot (Nat.le_of_ble_eq_true rfl) rfl rfl rfl (by decide)
theorem dX12_readPot_11 : decode cX12_readPot 11 = .ok (.iload_n 2, 1) := op_28 kcX12_readPot (Nat.le_of_ble_eq_true rfl) rfl
theorem dX12_readPot_12 : decode cX12_readPot 12 = .ok (.ifCond .eq 93, 3) := op_153 (a := 0) (b := 93) kcX12_readPot (Nat.le_of_ble_eq_true rfl) rfl rfl rfl (by decide)
theorem dX12_readPot_15 : decode cX12_readPot 15 = .ok (.aload_n 0, 1) := op_42 kcX12_readPot (Nat.le_of_ble_eq_true rfl) rfl
theorem dX12_readPot_16 : decode cX12_readPot 16 = .ok (.iload_n 1, 1) := op_27 kcX12_readPot (Nat.le_of_ble_eq_true rfl) rfl
theorem dX12_readPot_17 : decode cX12_readPot 17 = .ok (.bipush 7, 2) := op_16 (a := 7) kcX12_readPot (Nat.le_of_ble_eq_true rfl) rfl rfl (by decide)
theorem dX12_readPot_19 : decode cX12_readPot 19 = .ok (.if_icmp .lt 11, 3) := op_161 (a := 0) (b := 11) kcX12_readPot (Nat.le_of_ble_eq_true rfl) rfl rfl rfl (by decide)
theorem dX12_readPot_22 : decode cX12_readPot 22 = .ok (.aload_n 0, 1) := op_42 kcX12_readPot (Nat.le_of_ble_eq_true rfl) rfl
theorem dX12_readPot_23 : decode cX12_readPot 23 = .ok (.getfield 147, 3) := op_180 (a := 0) (b := 147) kcX12_readPot (Nat.le_of_ble_eq_true rfl) rfl rfl rfl
theorem dX12_readPot_26 : decode cX12_readPot 26 = .ok (.iconst 2, 1) := op_5 kcX12_readPot (Nat.le_of_ble_eq_true rfl) rfl
theorem dX12_readPot_27 : decode cX12_readPot 27 = .ok (.if_icmp .eq 7, 3) := op_159 (a := 0) (b := 7) kcX12_readPot (Nat.le_of_ble_eq_true rfl) rfl rfl rfl (by decide)
theorem dX12_readPot_30 : decode cX12_readPot 30 = .ok (.iconst 1, 1) := op_4 kcX12_readPot (Nat.le_of_ble_eq_true rfl) rfl
theorem dX12_readPot_31 : decode cX12_readPot 31 = .ok (.goto 4, 3) := op_167 (a := 0) (b := 4) kcX12_readPot (Nat.le_of_ble_eq_true rfl) rfl rfl rfl (by decide)
theorem dX12_readPot_34 : decode cX12_readPot 34 = .ok (.iconst 0, 1) := op_3 kcX12_readPot (Nat.le_of_ble_eq_true rfl) rfl
theorem dX12_readPot_35 : decode cX12_readPot 35 = .ok (.iconst 5, 1) := op_8 kcX12_readPot (Nat.le_of_ble_eq_true rfl) rfl
theorem dX12_readPot_36 : decode cX12_readPot 36 = .ok (.invokevirtual 161, 3) := op_182 (a := 0) (b := 161) kcX12_readPot (Nat.le_of_ble_eq_true rfl) rfl rfl rfl
theorem dX12_readPot_39 : decode cX12_readPot 39 = .ok (.aload_n 0, 1) := op_42 kcX12_readPot (Nat.le_of_ble_eq_true rfl) rfl
theorem dX12_readPot_40 : decode cX12_readPot 40 = .ok (.iconst 0, 1) := op_3 kcX12_readPot (Nat.le_of_ble_eq_true rfl) rfl
theorem dX12_readPot_41 : decode cX12_readPot 41 = .ok (.bipush 9, 2) := op_16 (a := 9) kcX12_readPot (Nat.le_of_ble_eq_true rfl) rfl rfl (by decide)
theorem dX12_readPot_43 : decode cX12_readPot 43 = .ok (.invokevirtual 165, 3) := op_182 (a := 0) (b := 165) kcX12_readPot (Nat.le_of_ble_eq_true rfl) rfl rfl rfl
theorem dX12_readPot_46 : decode cX12_readPot 46 = .ok (.istore_n 3, 1) := op_62 kcX12_readPot (Nat.le_of_ble_eq_true rfl) rfl
theorem dX12_readPot_47 : decode cX12_readPot 47 = .ok (.aload_n 0, 1) := op_42 kcX12_readPot (Nat.le_of_ble_eq_true rfl) rfl
theorem dX12_readPot_48 : decode cX12_readPot 48 = .ok (.getfield 119, 3) := op_180 (a := 0) (b := 119) kcX12_readPot (Nat.le_of_ble_eq_true rfl) rfl rfl rfl
theorem dX12_readPot_51 : decode cX12_readPot 51 = .ok (.ifCond .ne 33, 3) := op_154 (a := 0) (b := 33) kcX12_readPot (Nat.le_of_ble_eq_true rfl) rfl rfl rfl (by decide)
theorem dX12_readPot_54 : decode cX12_readPot 54 = .ok (.aload_n 0, 1) := op_42 kcX12_readPot (Nat.le_of_ble_eq_true rfl) rfl
theorem dX12_readPot_55 : decode cX12_readPot 55 = .ok (.getfield 23, 3) := op_180 (a := 0) (b := 23) kcX12_readPot (Nat.le_of_ble_eq_true rfl) rfl rfl rfl
theorem dX12_readPot_58 : decode cX12_readPot 58 = .ok (.iload_n 1, 1) := op_27 kcX12_readPot (Nat.le_of_ble_eq_true rfl) rfl
theorem dX12_readPot_59 : decode cX12_readPot 59 = .ok (.iload_n 3, 1) := op_29 kcX12_readPot (Nat.le_of_ble_eq_true rfl) rfl
theorem dX12_readPot_60 : decode cX12_readPot 60 = .ok (.iastore, 1) := op_79 kcX12_readPot (Nat.le_of_ble_eq_true rfl) rfl
theorem dX12_readPot_61 : decode cX12_readPot 61 = .ok (.aload_n 0, 1) := op_42 kcX12_readPot (Nat.le_of_ble_eq_true rfl) rfl
theorem dX12_readPot_62 : decode cX12_readPot 62 = .ok (.iload_n 1, 1) := op_27 kcX12_readPot (Nat.le_of_ble_eq_true rfl) rfl
theorem dX12_readPot_63 : decode cX12_readPot 63 = .ok (.aload_n 0, 1) := op_42 kcX12_readPot (Nat.le_of_ble_eq_true rfl) rfl
theorem dX12_readPot_64 : decode cX12_readPot 64 = .ok (.getfield 97, 3) := op_180 (a := 0) (b := 97) kcX12_readPot (Nat.le_of_ble_eq_true rfl) rfl rfl rfl
theorem dX12_readPot_67 : decode cX12_readPot 67 = .ok (.if_icmp .le 7, 3) := op_164 (a := 0) (b := 7) kcX12_readPot (Nat.le_of_ble_eq_true rfl) rfl rfl rfl (by decide)
theorem dX12_readPot_70 : decode cX12_readPot 70 = .ok (.iload_n 1, 1) := op_27 kcX12_readPot (Nat.le_of_ble_eq_true rfl) rfl
theorem dX12_readPot_71 : decode cX12_readPot 71 = .ok (.goto 7, 3) := op_167 (a := 0) (b := 7) kcX12_readPot (Nat.le_of_ble_eq_true rfl) rfl rfl rfl (by decide)
theorem dX12_readPot_74 : decode cX12_readPot 74 = .ok (.aload_n 0, 1) := op_42 kcX12_readPot (Nat.le_of_ble_eq_true rfl) rfl
theorem dX12_readPot_75 : decode cX12_readPot 75 = .ok (.getfield 97, 3) := op_180 (a := 0) (b := 97) kcX12_readPot (Nat.le_of_ble_eq_true rfl) rfl rfl rfl
theorem dX12_readPot_78 : decode cX12_readPot 78 = .ok (.putfield 97, 3) := op_181 (a := 0) (b := 97) kcX12_readPot (Nat.le_of_ble_eq_true rfl) rfl rfl rfl
theorem dX12_readPot_81 : decode cX12_readPot 81 = .ok (.iinc 1 1, 3) := by decide +kernel
theorem dX12_readPot_84 : decode cX12_readPot 84 = .ok (.aload_n 0, 1) := op_42 kcX12_readPot (Nat.le_of_ble_eq_true rfl) rfl
theorem dX12_readPot_85 : decode cX12_readPot 85 = .ok (.invokevirtual 168, 3) := op_182 (a := 0) (b := 168) kcX12_readPot (Nat.le_of_ble_eq_true rfl) rfl rfl rfl
theorem dX12_readPot_88 : decode cX12_readPot 88 = .ok (.aload_n 0, 1) := op_42 kcX12_readPot (Nat.le_of_ble_eq_true rfl) rfl
theorem dX12_readPot_89 : decode cX12_readPot 89 = .ok (.getfield 147, 3) := op_180 (a := 0) (b := 147) kcX12_readPot (Nat.le_of_ble_eq_true rfl) rfl rfl rfl
theorem dX12_readPot_92 : decode cX12_readPot 92 = .ok (.iconst 2, 1) := op_5 kcX12_readPot (Nat.le_of_ble_eq_true rfl) rfl
theorem dX12_readPot_93 : decode cX12_readPot 93 = .ok (.if_icmp .ne 7, 3) := op_160 (a := 0) (b := 7) kcX12_readPot (Nat.le_of_ble_eq_true rfl) rfl rfl rfl (by decide)
theorem dX12_readPot_96 : decode cX12_readPot 96 = .ok (.iconst 1, 1) := op_4 kcX12_readPot (Nat.le_of_ble_eq_true rfl) rfl
theorem dX12_readPot_97 : decode cX12_readPot 97 = .ok (.goto 4, 3) := op_167 (a := 0) (b := 4) kcX12_readPot (Nat.le_of_ble_eq_true rfl) rfl rfl rfl (by decide)
theorem dX12_readPot_100 : decode cX12_readPot 100 = .ok (.iconst 0, 1) := op_3 kcX12_readPot (Nat.le_of_ble_eq_true rfl) rfl
theorem dX12_readPot_101 : decode cX12_readPot 101 = .ok (.istore_n 2, 1) := op_61 kcX12_readPot (Nat.le_of_ble_eq_true rfl) rfl
theorem dX12_readPot_102 : decode cX12_readPot 102 = .ok (.goto (-98), 3) := op_167 (a := 255) (b := 158) kcX12_readPot (Nat.le_of_ble_eq_true rfl) rfl rfl rfl (by decide)
theorem dX12_readPot_105 : decode cX12_readPot 105 = .ok (.return_, 1) := op_177 kcX12_readPot (Nat.le_of_ble_eq_true rfl) rfl
set_option maxRecDepth 20000 in
theorem gw_wsX12_readPlace : (wsX12_readPlace).all goodWord = true := by decide +kernel
set_option maxRecDepth 20000 in
theorem ggX12_readFriend_X12_readPlace : GoodIn wsX12_readFriend wsX12_readPlace := goodIn_r _ [6, 7, 8, 9, 5, 10, 11, 12, 13, 14, 15, 16, 17, 18, 19, 20, 21, 22, 23, 24, 25, 26, 27, 28, 29, 30, 31, 32, 33, 34, 35, 36, 37, 38, 39, 40, 41, 42, 43, 44, 45, 46, 47, 48, 49, 50, 51, 52, 53, 54, 55, 56, 57, 58, 59, 60, 61, 62, 63, 64, 65, 66, 67, 68, 69, 70, 71, 72, 73, 74, 75, 76, 77, 78, 79] rfl gw_wsX12_readPlace
set_option maxRecDepth 20000 in
theorem gX12_readFriend_X12_readPlace : GoodIn wsX12_readFriend (wsV RX12 174 RX12 yX12_readPlace wsX12_readPlace) := goodIn_app (goodIn_of _ (by decide +kernel)) ggX12_readFriend_X12_readPlace
set_option maxRecDepth 20000 in
theorem ggX12_readFriend_X12_lookedPlace : GoodIn wsX12_readFriend wsX12_lookedPlace := goodIn_r _ [10, 11, 12, 13, 14, 5, 15, 16, 17, 18, 19, 20, 21, 22, 23, 24, 25, 26, 27, 43, 44, 45, 46, 47, 48, 49, 50, 51, 52, 53, 54, 55, 56, 57, 58, 59, 60, 61, 62, 63, 64, 65, 66, 67, 68, 69, 70, 71, 72, 73, 74, 75, 76, 77, 78, 79] rfl gw_wsX12_lookedPlace
set_option maxRecDepth 20000 in
theorem gX12_readFriend_X12_lookedPlace : GoodIn wsX12_readFriend (wsV RX12 171 RX12 yX12_lookedPlace wsX12_lookedPlace) := goodIn_app (goodIn_of _ (by decide +kernel)) ggX12_readFriend_X12_lookedPlace
set_option maxRecDepth 20000 in
theorem ggX12_readFriend_X12_needs : GoodIn wsX12_readFriend wsX12_needs := goodIn_r _ [22, 16, 23, 24, 43, 44, 45, 46, 47, 48, 49, 50, 51, 52, 53, 54, 55, 56, 57, 58, 59, 60, 61, 62, 63, 64, 65, 66, 67, 68, 69, 70, 71, 72, 73, 74, 75, 76, 77, 78, 79] rfl gw_wsX12_needs
set_option maxRecDepth 20000 in
theorem gX12_readFriend_X12_needs : GoodIn wsX12_readFriend (wsV RX12 161 RX12 yX12_needs wsX12_needs) := goodIn_app (goodIn_of _ (by decide +kernel)) ggX12_readFriend_X12_needs
set_option maxRecDepth 20000 in
theorem ggX12_readFriend_X12_nextToken : GoodIn wsX12_readFriend wsX12_nextToken := goodIn_r _ [31, 16, 32, 23, 17, 33, 34, 35, 36, 18, 37, 38, 39, 5, 40, 41, 42, 25, 26, 27, 19, 20, 21, 22, 24, 43, 44, 45, 46, 47, 48, 49, 50, 51, 52, 53, 54, 55, 56, 57, 58, 59, 60, 61, 62, 63, 64, 65, 66, 67, 68, 69, 70, 71, 72, 73, 74, 75, 76, 77, 78, 79] rfl gw_wsX12_nextToken
set_option maxRecDepth 20000 in
theorem gX12_readFriend_X12_nextToken : GoodIn wsX12_readFriend (wsV RX12 168 RX12 yX12_nextToken wsX12_nextToken) := goodIn_app (goodIn_of _ (by decide +kernel)) ggX12_readFriend_X12_nextToken
theorem kcX12_readFriend : (cX12_readFriend).data.toList = cbs 0xb1a800b62a4f80781c042e5c601b09101700b42aa100b607030400a70407009a7e047a1c2e601b09101700b42a17009f1c1b2a3dab00b62a3cae00b62a 61 := by decide +kernel
theorem dX12_readFriend_0 : decode cX12_readFriend 0 = .ok (.aload_n 0, 1) := op_42 kcX12_readFriend (Nat.le_of_ble_eq_true rfl) rfl
theorem dX12_readFriend_1 : decode cX12_readFriend 1 = .ok (.invokevirtual 174, 3) := op_182 (a := 0) (b := 174) kcX12_readFriend (Nat.le_of_ble_eq_true rfl) rfl rfl rfl
theorem dX12_readFriend_4 : decode cX12_readFriend 4 = .ok (.istore_n 1, 1) := op_60 kcX12_readFriend (Nat.le_of_ble_eq_true rfl) rfl
theorem dX12_readFriend_5 : decode cX12_readFriend 5 = .ok (.aload_n 0, 1) := op_42 kcX12_readFriend (Nat.le_of_ble_eq_true rfl) rfl
theorem dX12_readFriend_6 : decode cX12_readFriend 6 = .ok (.invokevirtual 171, 3) := op_182 (a := 0) (b := 171) kcX12_readFriend (Nat.le_of_ble_eq_true rfl) rfl rfl rfl
theorem dX12_readFriend_9 : decode cX12_readFriend 9 = .ok (.istore_n 2, 1) := op_61 kcX12_readFriend (Nat.le_of_ble_eq_true rfl) rfl
theorem dX12_readFriend_10 : decode cX12_readFriend 10 = .ok (.aload_n 0, 1) := op_42 kcX12_readFriend (Nat.le_of_ble_eq_true rfl) rfl
theorem dX12_readFriend_11 : decode cX12_readFriend 11 = .ok (.iload_n 1, 1) := op_27 kcX12_readFriend (Nat.le_of_ble_eq_true rfl) rfl
theorem dX12_readFriend_12 : decode cX12_readFriend 12 = .ok (.iload_n 2, 1) := op_28 kcX12_readFriend (Nat.le_of_ble_eq_true rfl) rfl
theorem dX12_readFriend_13 : decode cX12_readFriend 13 = .ok (.if_icmp .eq 23, 3) := op_159 (a := 0) (b := 23) kcX12_readFriend (Nat.le_of_ble_eq_true rfl) rfl rfl rfl (by decide)
theorem dX12_readFriend_16 : decode cX12_readFriend 16 = .ok (.aload_n 0, 1) := op_42 kcX12_readFriend (Nat.le_of_ble_eq_true rfl) rfl
theorem dX12_readFriend_17 : decode cX12_readFriend 17 = .ok (.getfield 23, 3) := op_180 (a := 0) (b := 23) kcX12_readFriend (Nat.le_of_ble_eq_true rfl) rfl rfl rfl
theorem dX12_readFriend_20 : decode cX12_readFriend 20 = .ok (.bipush 9, 2) := op_16 (a := 9) kcX12_readFriend (Nat.le_of_ble_eq_true rfl) rfl rfl (by decide)
theorem dX12_readFriend_22 : decode cX12_readFriend 22 = .ok (.iload_n 1, 1) := op_27 kcX12_readFriend (Nat.le_of_ble_eq_true rfl) rfl
theorem dX12_readFriend_23 : decode cX12_readFriend 23 = .ok (.iadd, 1) := op_96 kcX12_readFriend (Nat.le_of_ble_eq_true rfl) rfl
theorem dX12_readFriend_24 : decode cX12_readFriend 24 = .ok (.iaload, 1) := op_46 kcX12_readFriend (Nat.le_of_ble_eq_true rfl) rfl
theorem dX12_readFriend_25 : decode cX12_readFriend 25 = .ok (.iload_n 2, 1) := op_28 kcX12_readFriend (Nat.le_of_ble_eq_true rfl) rfl
theorem dX12_readFriend_26 : decode cX12_readFriend 26 = .ok (.ishr, 1) := op_122 kcX12_readFriend (Nat.le_of_ble_eq_true rfl) rfl
theorem dX12_readFriend_27 : decode cX12_readFriend 27 = .ok (.iconst 1, 1) := op_4 kcX12_readFriend (Nat.le_of_ble_eq_true rfl) rfl
theorem dX12_readFriend_28 : decode cX12_readFriend 28 = .ok (.iand, 1) := op_126 kcX12_readFriend (Nat.le_of_ble_eq_true rfl) rfl
theorem dX12_readFriend_29 : decode cX12_readFriend 29 = .ok (.ifCond .ne 7, 3) := op_154 (a := 0) (b := 7) kcX12_readFriend (Nat.le_of_ble_eq_true rfl) rfl rfl rfl (by decide)
theorem dX12_readFriend_32 : decode cX12_readFriend 32 = .ok (.iconst 1, 1) := op_4 kcX12_readFriend (Nat.le_of_ble_eq_true rfl) rfl
theorem dX12_readFriend_33 : decode cX12_readFriend 33 = .ok (.goto 4, 3) := op_167 (a := 0) (b := 4) kcX12_readFriend (Nat.le_of_ble_eq_true rfl) rfl rfl rfl (by decide)
theorem dX12_readFriend_36 : decode cX12_readFriend 36 = .ok (.iconst 0, 1) := op_3 kcX12_readFriend (Nat.le_of_ble_eq_true rfl) rfl
theorem dX12_readFriend_37 : decode cX12_readFriend 37 = .ok (.iconst 4, 1) := op_7 kcX12_readFriend (Nat.le_of_ble_eq_true rfl) rfl
theorem dX12_readFriend_38 : decode cX12_readFriend 38 = .ok (.invokevirtual 161, 3) := op_182 (a := 0) (b := 161) kcX12_readFriend (Nat.le_of_ble_eq_true rfl) rfl rfl rfl
theorem dX12_readFriend_41 : decode cX12_readFriend 41 = .ok (.aload_n 0, 1) := op_42 kcX12_readFriend (Nat.le_of_ble_eq_true rfl) rfl
theorem dX12_readFriend_42 : decode cX12_readFriend 42 = .ok (.getfield 23, 3) := op_180 (a := 0) (b := 23) kcX12_readFriend (Nat.le_of_ble_eq_true rfl) rfl rfl rfl
theorem dX12_readFriend_45 : decode cX12_readFriend 45 = .ok (.bipush 9, 2) := op_16 (a := 9) kcX12_readFriend (Nat.le_of_ble_eq_true rfl) rfl rfl (by decide)
theorem dX12_readFriend_47 : decode cX12_readFriend 47 = .ok (.iload_n 1, 1) := op_27 kcX12_readFriend (Nat.le_of_ble_eq_true rfl) rfl
theorem dX12_readFriend_48 : decode cX12_readFriend 48 = .ok (.iadd, 1) := op_96 kcX12_readFriend (Nat.le_of_ble_eq_true rfl) rfl
theorem dX12_readFriend_49 : decode cX12_readFriend 49 = .ok (.dup2, 1) := op_92 kcX12_readFriend (Nat.le_of_ble_eq_true rfl) rfl
theorem dX12_readFriend_50 : decode cX12_readFriend 50 = .ok (.iaload, 1) := op_46 kcX12_readFriend (Nat.le_of_ble_eq_true rfl) rfl
theorem dX12_readFriend_51 : decode cX12_readFriend 51 = .ok (.iconst 1, 1) := op_4 kcX12_readFriend (Nat.le_of_ble_eq_true rfl) rfl
theorem dX12_readFriend_52 : decode cX12_readFriend 52 = .ok (.iload_n 2, 1) := op_28 kcX12_readFriend (Nat.le_of_ble_eq_true rfl) rfl
theorem dX12_readFriend_53 : decode cX12_readFriend 53 = .ok (.ishl, 1) := op_120 kcX12_readFriend (Nat.le_of_ble_eq_true rfl) rfl
theorem dX12_readFriend_54 : decode cX12_readFriend 54 = .ok (.ior, 1) := op_128 kcX12_readFriend (Nat.le_of_ble_eq_true rfl) rfl
theorem dX12_readFriend_55 : decode cX12_readFriend 55 = .ok (.iastore, 1) := op_79 kcX12_readFriend (Nat.le_of_ble_eq_true rfl) rfl
theorem dX12_readFriend_56 : decode cX12_readFriend 56 = .ok (.aload_n 0, 1) := op_42 kcX12_readFriend (Nat.le_of_ble_eq_true rfl) rfl
theorem dX12_readFriend_57 : decode cX12_readFriend 57 = .ok (.invokevirtual 168, 3) := op_182 (a := 0) (b := 168) kcX12_readFriend (Nat.le_of_ble_eq_true rfl) rfl rfl rfl
theorem dX12_readFriend_60 : decode cX12_readFriend 60 = .ok (.return_, 1) := op_177 kcX12_readFriend (Nat.le_of_ble_eq_true rfl) rfl
set_option maxRecDepth 20000 in
theorem gw_wsX12_readNumber : (wsX12_readNumber).all goodWord = true := by decide +kernel
set_option maxRecDepth 20000 in
theorem ggX12_readStir_X12_readNumber : GoodIn wsX12_readStir wsX12_readNumber := goodIn_r _ [8, 9, 10, 11, 7, 12, 13, 14, 15, 16, 17, 18, 19, 20, 21, 22, 23, 24, 25, 26, 27, 28, 29, 30, 31, 32, 33, 34, 35, 36, 37, 38, 39, 48, 49, 50, 51, 52, 53, 54, 55, 56, 57, 58, 59, 60, 61, 62, 63, 64, 65, 66, 67, 68, 69, 70, 71, 72, 73, 74, 75, 76, 77, 78, 79, 80, 81, 82, 83, 84] rfl gw_wsX12_readNumber
set_option maxRecDepth 20000 in
theorem gX12_readStir_X12_readNumber : GoodIn wsX12_readStir (wsV RX12 177 RX12 yX12_readNumber wsX12_readNumber) := goodIn_app (goodIn_of _ (by decide +kernel)) ggX12_readStir_X12_readNumber
set_option maxRecDepth 20000 in
theorem ggX12_readStir_X12_looked : GoodIn wsX12_readStir wsX12_looked := goodIn_r _ [12, 13, 14, 15, 16, 17, 18, 7, 19, 20, 21, 22, 23, 24, 48, 49, 50, 51, 52, 53, 54, 55, 56, 57, 58, 59, 60, 61, 62, 63, 64, 65, 66, 67, 68, 69, 70, 71, 72, 73, 74, 75, 76, 77, 78, 79, 80, 81, 82, 83, 84] rfl gw_wsX12_looked
set_option maxRecDepth 20000 in
theorem gX12_readStir_X12_looked : GoodIn wsX12_readStir (wsV RX12 165 RX12 yX12_looked wsX12_looked) := goodIn_app (goodIn_of _ (by decide +kernel)) ggX12_readStir_X12_looked
set_option maxRecDepth 20000 in
theorem ggX12_readStir_X12_nextToken : GoodIn wsX12_readStir wsX12_nextToken := goodIn_r _ [28, 13, 29, 20, 14, 30, 31, 32, 33, 15, 34, 35, 36, 7, 37, 38, 39, 22, 23, 24, 16, 17, 18, 19, 21, 48, 49, 50, 51, 52, 53, 54, 55, 56, 57, 58, 59, 60, 61, 62, 63, 64, 65, 66, 67, 68, 69, 70, 71, 72, 73, 74, 75, 76, 77, 78, 79, 80, 81, 82, 83, 84] rfl gw_wsX12_nextToken
set_option maxRecDepth 20000 in
theorem gX12_readStir_X12_nextToken : GoodIn wsX12_readStir (wsV RX12 168 RX12 yX12_nextToken wsX12_nextToken) := goodIn_app (goodIn_of _ (by decide +kernel)) ggX12_readStir_X12_nextToken
set_option maxRecDepth 20000 in
theorem ggX12_readStir_X12_readPlace : GoodIn wsX12_readStir wsX12_readPlace := goodIn_r _ [43, 44, 45, 46, 7, 47, 3, 9, 10, 11, 12, 13, 14, 15, 16, 17, 18, 19, 20, 21, 22, 23, 24, 25, 26, 27, 28, 29, 30, 31, 32, 33, 34, 35, 36, 37, 38, 39, 48, 49, 50, 51, 52, 53, 54, 55, 56, 57, 58, 59, 60, 61, 62, 63, 64, 65, 66, 67, 68, 69, 70, 71, 72, 73, 74, 75, 76, 77, 78, 79, 80, 81, 82, 83, 84] rfl gw_wsX12_readPlace
set_option maxRecDepth 20000 in
theorem gX12_readStir_X12_readPlace : GoodIn wsX12_readStir (wsV RX12 174 RX12 yX12_readPlace wsX12_readPlace) := goodIn_app (goodIn_of _ (by decide +kernel)) ggX12_readStir_X12_readPlace
set_option maxRecDepth 20000 in
theorem ggX12_readStir_X12_lookedPlace : GoodIn wsX12_readStir wsX12_lookedPlace := goodIn_r _ [47, 3, 9, 10, 11, 7, 12, 13, 14, 15, 16, 17, 18, 19, 20, 21, 22, 23, 24, 48, 49, 50, 51, 52, 53, 54, 55, 56, 57, 58, 59, 60, 61, 62, 63, 64, 65, 66, 67, 68, 69, 70, 71, 72, 73, 74, 75, 76, 77, 78, 79, 80, 81, 82, 83, 84] rfl gw_wsX12_lookedPlace
set_option maxRecDepth 20000 in
theorem gX12_readStir_X12_lookedPlace : GoodIn wsX12_readStir (wsV RX12 171 RX12 yX12_lookedPlace wsX12_lookedPlace) := goodIn_app (goodIn_of _ (by decide +kernel)) ggX12_readStir_X12_lookedPlace
set_option maxRecDepth 20000 in
theorem ggX12_readStir_X12_needs : GoodIn wsX12_readStir wsX12_needs := goodIn_r _ [19, 13, 20, 21, 48, 49, 50, 51, 52, 53, 54, 55, 56, 57, 58, 59, 60, 61, 62, 63, 64, 65, 66, 67, 68, 69, 70, 71, 72, 73, 74, 75, 76, 77, 78, 79, 80, 81, 82, 83, 84] rfl gw_wsX12_needs
set_option maxRecDepth 20000 in
theorem gX12_readStir_X12_needs : GoodIn wsX12_readStir (wsV RX12 161 RX12 yX12_needs wsX12_needs) := goodIn_app (goodIn_of _ (by decide +kernel)) ggX12_readStir_X12_needs
theorem kcX12_readStir : (cX12_readStir).data.toList = cbs 0xb15b00b560045b00b4592aa800b62aa100b607030400a70407009f2e60051c1a00b42a2e60041c1a00b42a2a4fab00b62a60051c1a00b42a4fae00b62a60041c1a00b42a3c00a0051b4100a7a800b62a4f1d60041c1a00b42a6100b56100b42a0700a71d0700a46100b42a1d2a3ea500b60610042a2f00a0061b7200a74fb100b60610042a60041c1a00b42a15009a1b4f0360051c1a00b42a4f0360041c1a00b42a4f1b1c1a00b42a3d685b00b42a06 176 := by decide +kernel
theorem dX12_readStir_0 : decode cX12_readStir 0 = .ok (.iconst 3, 1) := op_6 kcX12_readStir (Nat.le_of_ble_eq_true rfl) rfl
theorem dX12_readStir_1 : decode cX12_readStir 1 = .ok (.aload_n 0, 1) := op_42 kcX12_readStir (Nat.le_of_ble_eq_true rfl) rfl
theorem dX12_readStir_2 : decode cX12_readStir 2 = .ok (.getfield 91, 3) := op_180 (a := 0) (b := 91) kcX12_readStir (Nat.le_of_ble_eq_true rfl) rfl rfl rfl
theorem dX12_readStir_5 : decode cX12_readStir 5 = .ok (.imul, 1) := op_104 kcX12_readStir (Nat.le_of_ble_eq_true rfl) rfl
theorem dX12_readStir_6 : decode cX12_readStir 6 = .ok (.istore_n 2, 1) := op_61 kcX12_readStir (Nat.le_of_ble_eq_true rfl) rfl
theorem dX12_readStir_7 : decode cX12_readStir 7 = .ok (.aload_n 0, 1) := op_42 kcX12_readStir (Nat.le_of_ble_eq_true rfl) rfl
theorem dX12_readStir_8 : decode cX12_readStir 8 = .ok (.getfield 26, 3) := op_180 (a := 0) (b := 26) kcX12_readStir (Nat.le_of_ble_eq_true rfl) rfl rfl rfl
theorem dX12_readStir_11 : decode cX12_readStir 11 = .ok (.iload_n 2, 1) := op_28 kcX12_readStir (Nat.le_of_ble_eq_true rfl) rfl
theorem dX12_readStir_12 : decode cX12_readStir 12 = .ok (.iload_n 1, 1) := op_27 kcX12_readStir (Nat.le_of_ble_eq_true rfl) rfl
theorem dX12_readStir_13 : decode cX12_readStir 13 = .ok (.iastore, 1) := op_79 kcX12_readStir (Nat.le_of_ble_eq_true rfl) rfl
theorem dX12_readStir_14 : decode cX12_readStir 14 = .ok (.aload_n 0, 1) := op_42 kcX12_readStir (Nat.le_of_ble_eq_true rfl) rfl
theorem dX12_readStir_15 : decode cX12_readStir 15 = .ok (.getfield 26, 3) := op_180 (a := 0) (b := 26) kcX12_readStir (Nat.le_of_ble_eq_true rfl) rfl rfl rfl
theorem dX12_readStir_18 : decode cX12_readStir 18 = .ok (.iload_n 2, 1) := op_28 kcX12_readStir (Nat.le_of_ble_eq_true rfl) rfl
theorem dX12_readStir_19 : decode cX12_readStir 19 = .ok (.iconst 1, 1) := op_4 kcX12_readStir (Nat.le_of_ble_eq_true rfl) rfl
theorem dX12_readStir_20 : decode cX12_readStir 20 = .ok (.iadd, 1) := op_96 kcX12_readStir (Nat.le_of_ble_eq_true rfl) rfl
theorem dX12_readStir_21 : decode cX12_readStir 21 = .ok (.iconst 0, 1) := op_3 kcX12_readStir (Nat.le_of_ble_eq_true rfl) rfl
theorem dX12_readStir_22 : decode cX12_readStir 22 = .ok (.iastore, 1) := op_79 kcX12_readStir (Nat.le_of_ble_eq_true rfl) rfl
theorem dX12_readStir_23 : decode cX12_readStir 23 = .ok (.aload_n 0, 1) := op_42 kcX12_readStir (Nat.le_of_ble_eq_true rfl) rfl
theorem dX12_readStir_24 : decode cX12_readStir 24 = .ok (.getfield 26, 3) := op_180 (a := 0) (b := 26) kcX12_readStir (Nat.le_of_ble_eq_true rfl) rfl rfl rfl
theorem dX12_readStir_27 : decode cX12_readStir 27 = .ok (.iload_n 2, 1) := op_28 kcX12_readStir (Nat.le_of_ble_eq_true rfl) rfl
theorem dX12_readStir_28 : decode cX12_readStir 28 = .ok (.iconst 2, 1) := op_5 kcX12_readStir (Nat.le_of_ble_eq_true rfl) rfl
theorem dX12_readStir_29 : decode cX12_readStir 29 = .ok (.iadd, 1) := op_96 kcX12_readStir (Nat.le_of_ble_eq_true rfl) rfl
theorem dX12_readStir_30 : decode cX12_readStir 30 = .ok (.iconst 0, 1) := op_3 kcX12_readStir (Nat.le_of_ble_eq_true rfl) rfl
theorem dX12_readStir_31 : decode cX12_readStir 31 = .ok (.iastore, 1) := op_79 kcX12_readStir (Nat.le_of_ble_eq_true rfl) rfl
theorem dX12_readStir_32 : decode cX12_readStir 32 = .ok (.iload_n 1, 1) := op_27 kcX12_readStir (Nat.le_of_ble_eq_true rfl) rfl
theorem dX12_readStir_33 : decode cX12_readStir 33 = .ok (.ifCond .ne 21, 3) := op_154 (a := 0) (b := 21) kcX12_readStir (Nat.le_of_ble_eq_true rfl) rfl rfl rfl (by decide)
theorem dX12_readStir_36 : decode cX12_readStir 36 = .ok (.aload_n 0, 1) := op_42 kcX12_readStir (Nat.le_of_ble_eq_true rfl) rfl
theorem dX12_readStir_37 : decode cX12_readStir 37 = .ok (.getfield 26, 3) := op_180 (a := 0) (b := 26) kcX12_readStir (Nat.le_of_ble_eq_true rfl) rfl rfl rfl
theorem dX12_readStir_40 : decode cX12_readStir 40 = .ok (.iload_n 2, 1) := op_28 kcX12_readStir (Nat.le_of_ble_eq_true rfl) rfl
theorem dX12_readStir_41 : decode cX12_readStir 41 = .ok (.iconst 1, 1) := op_4 kcX12_readStir (Nat.le_of_ble_eq_true rfl) rfl
theorem dX12_readStir_42 : decode cX12_readStir 42 = .ok (.iadd, 1) := op_96 kcX12_readStir (Nat.le_of_ble_eq_true rfl) rfl
theorem dX12_readStir_43 : decode cX12_readStir 43 = .ok (.aload_n 0, 1) := op_42 kcX12_readStir (Nat.le_of_ble_eq_true rfl) rfl
theorem dX12_readStir_44 : decode cX12_readStir 44 = .ok (.iconst 1, 1) := op_4 kcX12_readStir (Nat.le_of_ble_eq_true rfl) rfl
theorem dX12_readStir_45 : decode cX12_readStir 45 = .ok (.bipush 6, 2) := op_16 (a := 6) kcX12_readStir (Nat.le_of_ble_eq_true rfl) rfl rfl (by decide)
theorem dX12_readStir_47 : decode cX12_readStir 47 = .ok (.invokevirtual 177, 3) := op_182 (a := 0) (b := 177) kcX12_readStir (Nat.le_of_ble_eq_true rfl) rfl rfl rfl
theorem dX12_readStir_50 : decode cX12_readStir 50 = .ok (.iastore, 1) := op_79 kcX12_readStir (Nat.le_of_ble_eq_true rfl) rfl
theorem dX12_readStir_51 : decode cX12_readStir 51 = .ok (.goto 114, 3) := op_167 (a := 0) (b := 114) kcX12_readStir (Nat.le_of_ble_eq_true rfl) rfl rfl rfl (by decide)
theorem dX12_readStir_54 : decode cX12_readStir 54 = .ok (.iload_n 1, 1) := op_27 kcX12_readStir (Nat.le_of_ble_eq_true rfl) rfl
theorem dX12_readStir_55 : decode cX12_readStir 55 = .ok (.iconst 3, 1) := op_6 kcX12_readStir (Nat.le_of_ble_eq_true rfl) rfl
theorem dX12_readStir_56 : decode cX12_readStir 56 = .ok (.if_icmp .ne 47, 3) := op_160 (a := 0) (b := 47) kcX12_readStir (Nat.le_of_ble_eq_true rfl) rfl rfl rfl (by decide)
theorem dX12_readStir_59 : decode cX12_readStir 59 = .ok (.aload_n 0, 1) := op_42 kcX12_readStir (Nat.le_of_ble_eq_true rfl) rfl
theorem dX12_readStir_60 : decode cX12_readStir 60 = .ok (.iconst 1, 1) := op_4 kcX12_readStir (Nat.le_of_ble_eq_true rfl) rfl
theorem dX12_readStir_61 : decode cX12_readStir 61 = .ok (.bipush 6, 2) := op_16 (a := 6) kcX12_readStir (Nat.le_of_ble_eq_true rfl) rfl rfl (by decide)
theorem dX12_readStir_63 : decode cX12_readStir 63 = .ok (.invokevirtual 165, 3) := op_182 (a := 0) (b := 165) kcX12_readStir (Nat.le_of_ble_eq_true rfl) rfl rfl rfl
theorem dX12_readStir_66 : decode cX12_readStir 66 = .ok (.istore_n 3, 1) := op_62 kcX12_readStir (Nat.le_of_ble_eq_true rfl) rfl
theorem dX12_readStir_67 : decode cX12_readStir 67 = .ok (.aload_n 0, 1) := op_42 kcX12_readStir (Nat.le_of_ble_eq_true rfl) rfl
theorem dX12_readStir_68 : decode cX12_readStir 68 = .ok (.iload_n 3, 1) := op_29 kcX12_readStir (Nat.le_of_ble_eq_true rfl) rfl
theorem dX12_readStir_69 : decode cX12_readStir 69 = .ok (.aload_n 0, 1) := op_42 kcX12_readStir (Nat.le_of_ble_eq_true rfl) rfl
theorem dX12_readStir_70 : decode cX12_readStir 70 = .ok (.getfield 97, 3) := op_180 (a := 0) (b := 97) kcX12_readStir (Nat.le_of_ble_eq_true rfl) rfl rfl rfl
theorem dX12_readStir_73 : decode cX12_readStir 73 = .ok (.if_icmp .le 7, 3) := op_164 (a := 0) (b := 7) kcX12_readStir (Nat.le_of_ble_eq_true rfl) rfl rfl rfl (by decide)
theorem dX12_readStir_76 : decode cX12_readStir 76 = .ok (.iload_n 3, 1) := op_29 kcX12_readStir (Nat.le_of_ble_eq_true rfl) rfl
theorem dX12_readStir_77 : decode cX12_readStir 77 = .ok (.goto 7, 3) := op_167 (a := 0) (b := 7) kcX12_readStir (Nat.le_of_ble_eq_true rfl) rfl rfl rfl (by decide)
theorem dX12_readStir_80 : decode cX12_readStir 80 = .ok (.aload_n 0, 1) := op_42 kcX12_readStir (Nat.le_of_ble_eq_true rfl) rfl
theorem dX12_readStir_81 : decode cX12_readStir 81 = .ok (.getfield 97, 3) := op_180 (a := 0) (b := 97) kcX12_readStir (Nat.le_of_ble_eq_true rfl) rfl rfl rfl
theorem dX12_readStir_84 : decode cX12_readStir 84 = .ok (.putfield 97, 3) := op_181 (a := 0) (b := 97) kcX12_readStir (Nat.le_of_ble_eq_true rfl) rfl rfl rfl
theorem dX12_readStir_87 : decode cX12_readStir 87 = .ok (.aload_n 0, 1) := op_42 kcX12_readStir (Nat.le_of_ble_eq_true rfl) rfl
theorem dX12_readStir_88 : decode cX12_readStir 88 = .ok (.getfield 26, 3) := op_180 (a := 0) (b := 26) kcX12_readStir (Nat.le_of_ble_eq_true rfl) rfl rfl rfl
theorem dX12_readStir_91 : decode cX12_readStir 91 = .ok (.iload_n 2, 1) := op_28 kcX12_readStir (Nat.le_of_ble_eq_true rfl) rfl
theorem dX12_readStir_92 : decode cX12_readStir 92 = .ok (.iconst 1, 1) := op_4 kcX12_readStir (Nat.le_of_ble_eq_true rfl) rfl
theorem dX12_readStir_93 : decode cX12_readStir 93 = .ok (.iadd, 1) := op_96 kcX12_readStir (Nat.le_of_ble_eq_true rfl) rfl
theorem dX12_readStir_94 : decode cX12_readStir 94 = .ok (.iload_n 3, 1) := op_29 kcX12_readStir (Nat.le_of_ble_eq_true rfl) rfl
theorem dX12_readStir_95 : decode cX12_readStir 95 = .ok (.iastore, 1) := op_79 kcX12_readStir (Nat.le_of_ble_eq_true rfl) rfl
theorem dX12_readStir_96 : decode cX12_readStir 96 = .ok (.aload_n 0, 1) := op_42 kcX12_readStir (Nat.le_of_ble_eq_true rfl) rfl
theorem dX12_readStir_97 : decode cX12_readStir 97 = .ok (.invokevirtual 168, 3) := op_182 (a := 0) (b := 168) kcX12_readStir (Nat.le_of_ble_eq_true rfl) rfl rfl rfl
theorem dX12_readStir_100 : decode cX12_readStir 100 = .ok (.goto 65, 3) := op_167 (a := 0) (b := 65) kcX12_readStir (Nat.le_of_ble_eq_true rfl) rfl rfl rfl (by decide)
theorem dX12_readStir_103 : decode cX12_readStir 103 = .ok (.iload_n 1, 1) := op_27 kcX12_readStir (Nat.le_of_ble_eq_true rfl) rfl
theorem dX12_readStir_104 : decode cX12_readStir 104 = .ok (.iconst 2, 1) := op_5 kcX12_readStir (Nat.le_of_ble_eq_true rfl) rfl
theorem dX12_readStir_105 : decode cX12_readStir 105 = .ok (.if_icmp .ne 60, 3) := op_160 (a := 0) (b := 60) kcX12_readStir (Nat.le_of_ble_eq_true rfl) rfl rfl rfl (by decide)
theorem dX12_readStir_108 : decode cX12_readStir 108 = .ok (.aload_n 0, 1) := op_42 kcX12_readStir (Nat.le_of_ble_eq_true rfl) rfl
theorem dX12_readStir_109 : decode cX12_readStir 109 = .ok (.getfield 26, 3) := op_180 (a := 0) (b := 26) kcX12_readStir (Nat.le_of_ble_eq_true rfl) rfl rfl rfl
theorem dX12_readStir_112 : decode cX12_readStir 112 = .ok (.iload_n 2, 1) := op_28 kcX12_readStir (Nat.le_of_ble_eq_true rfl) rfl
theorem dX12_readStir_113 : decode cX12_readStir 113 = .ok (.iconst 1, 1) := op_4 kcX12_readStir (Nat.le_of_ble_eq_true rfl) rfl
theorem dX12_readStir_114 : decode cX12_readStir 114 = .ok (.iadd, 1) := op_96 kcX12_readStir (Nat.le_of_ble_eq_true rfl) rfl
theorem dX12_readStir_115 : decode cX12_readStir 115 = .ok (.aload_n 0, 1) := op_42 kcX12_readStir (Nat.le_of_ble_eq_true rfl) rfl
theorem dX12_readStir_116 : decode cX12_readStir 116 = .ok (.invokevirtual 174, 3) := op_182 (a := 0) (b := 174) kcX12_readStir (Nat.le_of_ble_eq_true rfl) rfl rfl rfl
theorem dX12_readStir_119 : decode cX12_readStir 119 = .ok (.iastore, 1) := op_79 kcX12_readStir (Nat.le_of_ble_eq_true rfl) rfl
theorem dX12_readStir_120 : decode cX12_readStir 120 = .ok (.aload_n 0, 1) := op_42 kcX12_readStir (Nat.le_of_ble_eq_true rfl) rfl
theorem dX12_readStir_121 : decode cX12_readStir 121 = .ok (.getfield 26, 3) := op_180 (a := 0) (b := 26) kcX12_readStir (Nat.le_of_ble_eq_true rfl) rfl rfl rfl
theorem dX12_readStir_124 : decode cX12_readStir 124 = .ok (.iload_n 2, 1) := op_28 kcX12_readStir (Nat.le_of_ble_eq_true rfl) rfl
theorem dX12_readStir_125 : decode cX12_readStir 125 = .ok (.iconst 2, 1) := op_5 kcX12_readStir (Nat.le_of_ble_eq_true rfl) rfl
theorem dX12_readStir_126 : decode cX12_readStir 126 = .ok (.iadd, 1) := op_96 kcX12_readStir (Nat.le_of_ble_eq_true rfl) rfl
theorem dX12_readStir_127 : decode cX12_readStir 127 = .ok (.aload_n 0, 1) := op_42 kcX12_readStir (Nat.le_of_ble_eq_true rfl) rfl
theorem dX12_readStir_128 : decode cX12_readStir 128 = .ok (.invokevirtual 171, 3) := op_182 (a := 0) (b := 171) kcX12_readStir (Nat.le_of_ble_eq_true rfl) rfl rfl rfl
theorem dX12_readStir_131 : decode cX12_readStir 131 = .ok (.iastore, 1) := op_79 kcX12_readStir (Nat.le_of_ble_eq_true rfl) rfl
theorem dX12_readStir_132 : decode cX12_readStir 132 = .ok (.aload_n 0, 1) := op_42 kcX12_readStir (Nat.le_of_ble_eq_true rfl) rfl
theorem dX12_readStir_133 : decode cX12_readStir 133 = .ok (.aload_n 0, 1) := op_42 kcX12_readStir (Nat.le_of_ble_eq_true rfl) rfl
theorem dX12_readStir_134 : decode cX12_readStir 134 = .ok (.getfield 26, 3) := op_180 (a := 0) (b := 26) kcX12_readStir (Nat.le_of_ble_eq_true rfl) rfl rfl rfl
theorem dX12_readStir_137 : decode cX12_readStir 137 = .ok (.iload_n 2, 1) := op_28 kcX12_readStir (Nat.le_of_ble_eq_true rfl) rfl
theorem dX12_readStir_138 : decode cX12_readStir 138 = .ok (.iconst 1, 1) := op_4 kcX12_readStir (Nat.le_of_ble_eq_true rfl) rfl
theorem dX12_readStir_139 : decode cX12_readStir 139 = .ok (.iadd, 1) := op_96 kcX12_readStir (Nat.le_of_ble_eq_true rfl) rfl
theorem dX12_readStir_140 : decode cX12_readStir 140 = .ok (.iaload, 1) := op_46 kcX12_readStir (Nat.le_of_ble_eq_true rfl) rfl
theorem dX12_readStir_141 : decode cX12_readStir 141 = .ok (.aload_n 0, 1) := op_42 kcX12_readStir (Nat.le_of_ble_eq_true rfl) rfl
theorem dX12_readStir_142 : decode cX12_readStir 142 = .ok (.getfield 26, 3) := op_180 (a := 0) (b := 26) kcX12_readStir (Nat.le_of_ble_eq_true rfl) rfl rfl rfl
theorem dX12_readStir_145 : decode cX12_readStir 145 = .ok (.iload_n 2, 1) := op_28 kcX12_readStir (Nat.le_of_ble_eq_true rfl) rfl
theorem dX12_readStir_146 : decode cX12_readStir 146 = .ok (.iconst 2, 1) := op_5 kcX12_readStir (Nat.le_of_ble_eq_true rfl) rfl
theorem dX12_readStir_147 : decode cX12_readStir 147 = .ok (.iadd, 1) := op_96 kcX12_readStir (Nat.le_of_ble_eq_true rfl) rfl
theorem dX12_readStir_148 : decode cX12_readStir 148 = .ok (.iaload, 1) := op_46 kcX12_readStir (Nat.le_of_ble_eq_true rfl) rfl
theorem dX12_readStir_149 : decode cX12_readStir 149 = .ok (.if_icmp .eq 7, 3) := op_159 (a := 0) (b := 7) kcX12_readStir (Nat.le_of_ble_eq_true rfl) rfl rfl rfl (by decide)
theorem dX12_readStir_152 : decode cX12_readStir 152 = .ok (.iconst 1, 1) := op_4 kcX12_readStir (Nat.le_of_ble_eq_true rfl) rfl
theorem dX12_readStir_153 : decode cX12_readStir 153 = .ok (.goto 4, 3) := op_167 (a := 0) (b := 4) kcX12_readStir (Nat.le_of_ble_eq_true rfl) rfl rfl rfl (by decide)
theorem dX12_readStir_156 : decode cX12_readStir 156 = .ok (.iconst 0, 1) := op_3 kcX12_readStir (Nat.le_of_ble_eq_true rfl) rfl
theorem dX12_readStir_157 : decode cX12_readStir 157 = .ok (.iconst 4, 1) := op_7 kcX12_readStir (Nat.le_of_ble_eq_true rfl) rfl
theorem dX12_readStir_158 : decode cX12_readStir 158 = .ok (.invokevirtual 161, 3) := op_182 (a := 0) (b := 161) kcX12_readStir (Nat.le_of_ble_eq_true rfl) rfl rfl rfl
theorem dX12_readStir_161 : decode cX12_readStir 161 = .ok (.aload_n 0, 1) := op_42 kcX12_readStir (Nat.le_of_ble_eq_true rfl) rfl
theorem dX12_readStir_162 : decode cX12_readStir 162 = .ok (.invokevirtual 168, 3) := op_182 (a := 0) (b := 168) kcX12_readStir (Nat.le_of_ble_eq_true rfl) rfl rfl rfl
theorem dX12_readStir_165 : decode cX12_readStir 165 = .ok (.aload_n 0, 1) := op_42 kcX12_readStir (Nat.le_of_ble_eq_true rfl) rfl
theorem dX12_readStir_166 : decode cX12_readStir 166 = .ok (.dup, 1) := op_89 kcX12_readStir (Nat.le_of_ble_eq_true rfl) rfl
theorem dX12_readStir_167 : decode cX12_readStir 167 = .ok (.getfield 91, 3) := op_180 (a := 0) (b := 91) kcX12_readStir (Nat.le_of_ble_eq_true rfl) rfl rfl rfl
theorem dX12_readStir_170 : decode cX12_readStir 170 = .ok (.iconst 1, 1) := op_4 kcX12_readStir (Nat.le_of_ble_eq_true rfl) rfl
theorem dX12_readStir_171 : decode cX12_readStir 171 = .ok (.iadd, 1) := op_96 kcX12_readStir (Nat.le_of_ble_eq_true rfl) rfl
theorem dX12_readStir_172 : decode cX12_readStir 172 = .ok (.putfield 91, 3) := op_181 (a := 0) (b := 91) kcX12_readStir (Nat.le_of_ble_eq_true rfl) rfl rfl rfl
theorem dX12_readStir_175 : decode cX12_readStir 175 = .ok (.return_, 1) := op_177 kcX12_readStir (Nat.le_of_ble_eq_true rfl) rfl
set_option maxRecDepth 20000 in
theorem ggX12_readLineOf_X12_readNumber : GoodIn wsX12_readLineOf wsX12_readNumber := goodIn_r _ [8, 9, 10, 11, 7, 12, 13, 14, 15, 16, 17, 18, 19, 20, 21, 22, 23, 24, 25, 26, 27, 28, 29, 30, 31, 32, 33, 34, 35, 36, 37, 38, 39, 63, 64, 65, 66, 67, 68, 69, 70, 71, 72, 73, 74, 75, 76, 77, 78, 79, 80, 81, 82, 83, 84, 85, 86, 87, 88, 89, 90, 91, 92, 93, 94, 95, 96, 97, 98, 99] rfl gw_wsX12_readNumber
set_option maxRecDepth 20000 in
theorem gX12_readLineOf_X12_readNumber : GoodIn wsX12_readLineOf (wsV RX12 177 RX12 yX12_readNumber wsX12_readNumber) := goodIn_app (goodIn_of _ (by decide +kernel)) ggX12_readLineOf_X12_readNumber
set_option maxRecDepth 20000 in
theorem gw_wsX12_readPot : (wsX12_readPot).all goodWord = true := by decide +kernel
set_option maxRecDepth 20000 in
theorem ggX12_readLineOf_X12_readPot : GoodIn wsX12_readLineOf wsX12_readPot := goodIn_r _ [43, 13, 14, 2, 44, 16, 17, 18, 7, 19, 20, 21, 9, 10, 11, 12, 15, 22, 23, 24, 25, 26, 27, 28, 29, 30, 31, 32, 33, 34, 35, 36, 37, 38, 39, 63, 64, 65, 66, 67, 68, 69, 70, 71, 72, 73, 74, 75, 76, 77, 78, 79, 80, 81, 82, 83, 84, 85, 86, 87, 88, 89, 90, 91, 92, 93, 94, 95, 96, 97, 98, 99] rfl gw_wsX12_readPot
set_option maxRecDepth 20000 in
theorem gX12_readLineOf_X12_readPot : GoodIn wsX12_readLineOf (wsV RX12 180 RX12 yX12_readPot wsX12_readPot) := goodIn_app (goodIn_of _ (by decide +kernel)) ggX12_readLineOf_X12_readPot
set_option maxRecDepth 20000 in
theorem ggX12_readLineOf_X12_readPlace : GoodIn wsX12_readLineOf wsX12_readPlace := goodIn_r _ [48, 49, 50, 51, 7, 52, 44, 9, 10, 11, 12, 13, 14, 15, 16, 17, 18, 19, 20, 21, 22, 23, 24, 25, 26, 27, 28, 29, 30, 31, 32, 33, 34, 35, 36, 37, 38, 39, 63, 64, 65, 66, 67, 68, 69, 70, 71, 72, 73, 74, 75, 76, 77, 78, 79, 80, 81, 82, 83, 84, 85, 86, 87, 88, 89, 90, 91, 92, 93, 94, 95, 96, 97, 98, 99] rfl gw_wsX12_readPlace
set_option maxRecDepth 20000 in
theorem gX12_readLineOf_X12_readPlace : GoodIn wsX12_readLineOf (wsV RX12 174 RX12 yX12_readPlace wsX12_readPlace) := goodIn_app (goodIn_of _ (by decide +kernel)) ggX12_readLineOf_X12_readPlace
set_option maxRecDepth 20000 in
theorem gw_wsX12_readFriend : (wsX12_readFriend).all goodWord = true := by decide +kernel
set_option maxRecDepth 20000 in
theorem ggX12_readLineOf_X12_readFriend : GoodIn wsX12_readLineOf wsX12_readFriend := goodIn_r _ [56, 2, 45, 46, 47, 7, 48, 49, 50, 51, 52, 44, 9, 10, 11, 12, 13, 14, 15, 16, 17, 18, 19, 20, 21, 22, 23, 24, 25, 26, 27, 28, 29, 30, 31, 32, 33, 34, 35, 36, 37, 38, 39, 63, 64, 65, 66, 67, 68, 69, 70, 71, 72, 73, 74, 75, 76, 77, 78, 79, 80, 81, 82, 83, 84, 85, 86, 87, 88, 89, 90, 91, 92, 93, 94, 95, 96, 97, 98, 99] rfl gw_wsX12_readFriend
set_option maxRecDepth 20000 in
theorem gX12_readLineOf_X12_readFriend : GoodIn wsX12_readLineOf (wsV RX12 183 RX12 yX12_readFriend wsX12_readFriend) := goodIn_app (goodIn_of _ (by decide +kernel)) ggX12_readLineOf_X12_readFriend
set_option maxRecDepth 20000 in
theorem gw_wsX12_readStir : (wsX12_readStir).all goodWord = true := by decide +kernel
set_option maxRecDepth 20000 in
theorem ggX12_readLineOf_X12_readStir : GoodIn wsX12_readLineOf wsX12_readStir := goodIn_r _ [60, 61, 62, 44, 4, 5, 6, 7, 8, 9, 10, 11, 12, 13, 14, 15, 16, 17, 18, 19, 20, 21, 22, 23, 24, 25, 26, 27, 28, 29, 30, 31, 32, 33, 34, 35, 36, 37, 38, 39, 45, 46, 47, 48, 49, 50, 51, 52, 63, 64, 65, 66, 67, 68, 69, 70, 71, 72, 73, 74, 75, 76, 77, 78, 79, 80, 81, 82, 83, 84, 85, 86, 87, 88, 89, 90, 91, 92, 93, 94, 95, 96, 97, 98, 99] rfl gw_wsX12_readStir
set_option maxRecDepth 20000 in
theorem gX12_readLineOf_X12_readStir : GoodIn wsX12_readLineOf (wsV RX12 186 RX12 yX12_readStir wsX12_readStir) := goodIn_app (goodIn_of _ (by decide +kernel)) ggX12_readLineOf_X12_readStir
theorem kcX12_readLineOf : (cX12_readLineOf).data.toList = cbs 0xb1ba00b61b2a0800a74fb100b60910032a1c1d00b42a3dae00b62a1d00a74fb100b60910042a601c10101700b42a3dae00b62a3500a7b700b62a3c00a74fae00b62a08101700b42a4a00a74fae00b62a07101700b42a5800a7b400b62a5f00a75700b5b100b60710052a2a7b000000630000005c0000004e00000040000000390000002b0000000a00000004000000900000000000aa1b 151 := by decide +kernel
theorem dX12_readLineOf_0 : decode cX12_readLineOf 0 = .ok (.iload_n 1, 1) := op_27 kcX12_readLineOf (Nat.le_of_ble_eq_true rfl) rfl
theorem dX12_readLineOf_1 : decode cX12_readLineOf 1 = .ok (.tableswitch 144 4 10 #[43, 57, 64, 78, 92, 99, 123], 43) := by decide +kernel
theorem dX12_readLineOf_44 : decode cX12_readLineOf 44 = .ok (.aload_n 0, 1) := op_42 kcX12_readLineOf (Nat.le_of_ble_eq_true rfl) rfl
theorem dX12_readLineOf_45 : decode cX12_readLineOf 45 = .ok (.aload_n 0, 1) := op_42 kcX12_readLineOf (Nat.le_of_ble_eq_true rfl) rfl
theorem dX12_readLineOf_46 : decode cX12_readLineOf 46 = .ok (.iconst 2, 1) := op_5 kcX12_readLineOf (Nat.le_of_ble_eq_true rfl) rfl
theorem dX12_readLineOf_47 : decode cX12_readLineOf 47 = .ok (.bipush 7, 2) := op_16 (a := 7) kcX12_readLineOf (Nat.le_of_ble_eq_true rfl) rfl rfl (by decide)
theorem dX12_readLineOf_49 : decode cX12_readLineOf 49 = .ok (.invokevirtual 177, 3) := op_182 (a := 0) (b := 177) kcX12_readLineOf (Nat.le_of_ble_eq_true rfl) rfl rfl rfl
theorem dX12_readLineOf_52 : decode cX12_readLineOf 52 = .ok (.putfield 87, 3) := op_181 (a := 0) (b := 87) kcX12_readLineOf (Nat.le_of_ble_eq_true rfl) rfl rfl rfl
theorem dX12_readLineOf_55 : decode cX12_readLineOf 55 = .ok (.goto 95, 3) := op_167 (a := 0) (b := 95) kcX12_readLineOf (Nat.le_of_ble_eq_true rfl) rfl rfl rfl (by decide)
theorem dX12_readLineOf_58 : decode cX12_readLineOf 58 = .ok (.aload_n 0, 1) := op_42 kcX12_readLineOf (Nat.le_of_ble_eq_true rfl) rfl
theorem dX12_readLineOf_59 : decode cX12_readLineOf 59 = .ok (.invokevirtual 180, 3) := op_182 (a := 0) (b := 180) kcX12_readLineOf (Nat.le_of_ble_eq_true rfl) rfl rfl rfl
theorem dX12_readLineOf_62 : decode cX12_readLineOf 62 = .ok (.goto 88, 3) := op_167 (a := 0) (b := 88) kcX12_readLineOf (Nat.le_of_ble_eq_true rfl) rfl rfl rfl (by decide)
theorem dX12_readLineOf_65 : decode cX12_readLineOf 65 = .ok (.aload_n 0, 1) := op_42 kcX12_readLineOf (Nat.le_of_ble_eq_true rfl) rfl
theorem dX12_readLineOf_66 : decode cX12_readLineOf 66 = .ok (.getfield 23, 3) := op_180 (a := 0) (b := 23) kcX12_readLineOf (Nat.le_of_ble_eq_true rfl) rfl rfl rfl
theorem dX12_readLineOf_69 : decode cX12_readLineOf 69 = .ok (.bipush 7, 2) := op_16 (a := 7) kcX12_readLineOf (Nat.le_of_ble_eq_true rfl) rfl rfl (by decide)
theorem dX12_readLineOf_71 : decode cX12_readLineOf 71 = .ok (.aload_n 0, 1) := op_42 kcX12_readLineOf (Nat.le_of_ble_eq_true rfl) rfl
theorem dX12_readLineOf_72 : decode cX12_readLineOf 72 = .ok (.invokevirtual 174, 3) := op_182 (a := 0) (b := 174) kcX12_readLineOf (Nat.le_of_ble_eq_true rfl) rfl rfl rfl
theorem dX12_readLineOf_75 : decode cX12_readLineOf 75 = .ok (.iastore, 1) := op_79 kcX12_readLineOf (Nat.le_of_ble_eq_true rfl) rfl
theorem dX12_readLineOf_76 : decode cX12_readLineOf 76 = .ok (.goto 74, 3) := op_167 (a := 0) (b := 74) kcX12_readLineOf (Nat.le_of_ble_eq_true rfl) rfl rfl rfl (by decide)
theorem dX12_readLineOf_79 : decode cX12_readLineOf 79 = .ok (.aload_n 0, 1) := op_42 kcX12_readLineOf (Nat.le_of_ble_eq_true rfl) rfl
theorem dX12_readLineOf_80 : decode cX12_readLineOf 80 = .ok (.getfield 23, 3) := op_180 (a := 0) (b := 23) kcX12_readLineOf (Nat.le_of_ble_eq_true rfl) rfl rfl rfl
theorem dX12_readLineOf_83 : decode cX12_readLineOf 83 = .ok (.bipush 8, 2) := op_16 (a := 8) kcX12_readLineOf (Nat.le_of_ble_eq_true rfl) rfl rfl (by decide)
theorem dX12_readLineOf_85 : decode cX12_readLineOf 85 = .ok (.aload_n 0, 1) := op_42 kcX12_readLineOf (Nat.le_of_ble_eq_true rfl) rfl
theorem dX12_readLineOf_86 : decode cX12_readLineOf 86 = .ok (.invokevirtual 174, 3) := op_182 (a := 0) (b := 174) kcX12_readLineOf (Nat.le_of_ble_eq_true rfl) rfl rfl rfl
theorem dX12_readLineOf_89 : decode cX12_readLineOf 89 = .ok (.iastore, 1) := op_79 kcX12_readLineOf (Nat.le_of_ble_eq_true rfl) rfl
theorem dX12_readLineOf_90 : decode cX12_readLineOf 90 = .ok (.goto 60, 3) := op_167 (a := 0) (b := 60) kcX12_readLineOf (Nat.le_of_ble_eq_true rfl) rfl rfl rfl (by decide)
theorem dX12_readLineOf_93 : decode cX12_readLineOf 93 = .ok (.aload_n 0, 1) := op_42 kcX12_readLineOf (Nat.le_of_ble_eq_true rfl) rfl
theorem dX12_readLineOf_94 : decode cX12_readLineOf 94 = .ok (.invokevirtual 183, 3) := op_182 (a := 0) (b := 183) kcX12_readLineOf (Nat.le_of_ble_eq_true rfl) rfl rfl rfl
theorem dX12_readLineOf_97 : decode cX12_readLineOf 97 = .ok (.goto 53, 3) := op_167 (a := 0) (b := 53) kcX12_readLineOf (Nat.le_of_ble_eq_true rfl) rfl rfl rfl (by decide)
theorem dX12_readLineOf_100 : decode cX12_readLineOf 100 = .ok (.aload_n 0, 1) := op_42 kcX12_readLineOf (Nat.le_of_ble_eq_true rfl) rfl
theorem dX12_readLineOf_101 : decode cX12_readLineOf 101 = .ok (.invokevirtual 174, 3) := op_182 (a := 0) (b := 174) kcX12_readLineOf (Nat.le_of_ble_eq_true rfl) rfl rfl rfl
theorem dX12_readLineOf_104 : decode cX12_readLineOf 104 = .ok (.istore_n 2, 1) := op_61 kcX12_readLineOf (Nat.le_of_ble_eq_true rfl) rfl
theorem dX12_readLineOf_105 : decode cX12_readLineOf 105 = .ok (.aload_n 0, 1) := op_42 kcX12_readLineOf (Nat.le_of_ble_eq_true rfl) rfl
theorem dX12_readLineOf_106 : decode cX12_readLineOf 106 = .ok (.getfield 23, 3) := op_180 (a := 0) (b := 23) kcX12_readLineOf (Nat.le_of_ble_eq_true rfl) rfl rfl rfl
theorem dX12_readLineOf_109 : decode cX12_readLineOf 109 = .ok (.bipush 16, 2) := op_16 (a := 16) kcX12_readLineOf (Nat.le_of_ble_eq_true rfl) rfl rfl (by decide)
theorem dX12_readLineOf_111 : decode cX12_readLineOf 111 = .ok (.iload_n 2, 1) := op_28 kcX12_readLineOf (Nat.le_of_ble_eq_true rfl) rfl
theorem dX12_readLineOf_112 : decode cX12_readLineOf 112 = .ok (.iadd, 1) := op_96 kcX12_readLineOf (Nat.le_of_ble_eq_true rfl) rfl
theorem dX12_readLineOf_113 : decode cX12_readLineOf 113 = .ok (.aload_n 0, 1) := op_42 kcX12_readLineOf (Nat.le_of_ble_eq_true rfl) rfl
theorem dX12_readLineOf_114 : decode cX12_readLineOf 114 = .ok (.iconst 1, 1) := op_4 kcX12_readLineOf (Nat.le_of_ble_eq_true rfl) rfl
theorem dX12_readLineOf_115 : decode cX12_readLineOf 115 = .ok (.bipush 9, 2) := op_16 (a := 9) kcX12_readLineOf (Nat.le_of_ble_eq_true rfl) rfl rfl (by decide)
theorem dX12_readLineOf_117 : decode cX12_readLineOf 117 = .ok (.invokevirtual 177, 3) := op_182 (a := 0) (b := 177) kcX12_readLineOf (Nat.le_of_ble_eq_true rfl) rfl rfl rfl
theorem dX12_readLineOf_120 : decode cX12_readLineOf 120 = .ok (.iastore, 1) := op_79 kcX12_readLineOf (Nat.le_of_ble_eq_true rfl) rfl
theorem dX12_readLineOf_121 : decode cX12_readLineOf 121 = .ok (.goto 29, 3) := op_167 (a := 0) (b := 29) kcX12_readLineOf (Nat.le_of_ble_eq_true rfl) rfl rfl rfl (by decide)
theorem dX12_readLineOf_124 : decode cX12_readLineOf 124 = .ok (.aload_n 0, 1) := op_42 kcX12_readLineOf (Nat.le_of_ble_eq_true rfl) rfl
theorem dX12_readLineOf_125 : decode cX12_readLineOf 125 = .ok (.invokevirtual 174, 3) := op_182 (a := 0) (b := 174) kcX12_readLineOf (Nat.le_of_ble_eq_true rfl) rfl rfl rfl
theorem dX12_readLineOf_128 : decode cX12_readLineOf 128 = .ok (.istore_n 2, 1) := op_61 kcX12_readLineOf (Nat.le_of_ble_eq_true rfl) rfl
theorem dX12_readLineOf_129 : decode cX12_readLineOf 129 = .ok (.aload_n 0, 1) := op_42 kcX12_readLineOf (Nat.le_of_ble_eq_true rfl) rfl
theorem dX12_readLineOf_130 : decode cX12_readLineOf 130 = .ok (.getfield 29, 3) := op_180 (a := 0) (b := 29) kcX12_readLineOf (Nat.le_of_ble_eq_true rfl) rfl rfl rfl
theorem dX12_readLineOf_133 : decode cX12_readLineOf 133 = .ok (.iload_n 2, 1) := op_28 kcX12_readLineOf (Nat.le_of_ble_eq_true rfl) rfl
theorem dX12_readLineOf_134 : decode cX12_readLineOf 134 = .ok (.aload_n 0, 1) := op_42 kcX12_readLineOf (Nat.le_of_ble_eq_true rfl) rfl
theorem dX12_readLineOf_135 : decode cX12_readLineOf 135 = .ok (.iconst 0, 1) := op_3 kcX12_readLineOf (Nat.le_of_ble_eq_true rfl) rfl
theorem dX12_readLineOf_136 : decode cX12_readLineOf 136 = .ok (.bipush 9, 2) := op_16 (a := 9) kcX12_readLineOf (Nat.le_of_ble_eq_true rfl) rfl rfl (by decide)
theorem dX12_readLineOf_138 : decode cX12_readLineOf 138 = .ok (.invokevirtual 177, 3) := op_182 (a := 0) (b := 177) kcX12_readLineOf (Nat.le_of_ble_eq_true rfl) rfl rfl rfl
theorem dX12_readLineOf_141 : decode cX12_readLineOf 141 = .ok (.iastore, 1) := op_79 kcX12_readLineOf (Nat.le_of_ble_eq_true rfl) rfl
theorem dX12_readLineOf_142 : decode cX12_readLineOf 142 = .ok (.goto 8, 3) := op_167 (a := 0) (b := 8) kcX12_readLineOf (Nat.le_of_ble_eq_true rfl) rfl rfl rfl (by decide)
theorem dX12_readLineOf_145 : decode cX12_readLineOf 145 = .ok (.aload_n 0, 1) := op_42 kcX12_readLineOf (Nat.le_of_ble_eq_true rfl) rfl
theorem dX12_readLineOf_146 : decode cX12_readLineOf 146 = .ok (.iload_n 1, 1) := op_27 kcX12_readLineOf (Nat.le_of_ble_eq_true rfl) rfl
theorem dX12_readLineOf_147 : decode cX12_readLineOf 147 = .ok (.invokevirtual 186, 3) := op_182 (a := 0) (b := 186) kcX12_readLineOf (Nat.le_of_ble_eq_true rfl) rfl rfl rfl
theorem dX12_readLineOf_150 : decode cX12_readLineOf 150 = .ok (.return_, 1) := op_177 kcX12_readLineOf (Nat.le_of_ble_eq_true rfl) rfl
set_option maxRecDepth 20000 in
theorem gw_wsX12_lineNow : (wsX12_lineNow).all goodWord = true := by decide +kernel
set_option maxRecDepth 20000 in
theorem ggX12_readLine_X12_lineNow : GoodIn wsX12_readLine wsX12_lineNow := goodIn_r _ [11, 12, 13, 14, 10, 15, 16, 17, 18, 19, 20, 21, 22, 23, 24, 25, 26, 27, 28, 29, 30, 31, 86, 87, 88, 89, 90, 91, 92, 93, 94, 95, 96, 97, 98, 99, 100, 101, 102, 103, 104, 105, 106, 107, 108, 109, 110, 111, 112, 113, 114, 115, 116, 117, 118, 119, 120, 121, 122] rfl gw_wsX12_lineNow
set_option maxRecDepth 20000 in
theorem gX12_readLine_X12_lineNow : GoodIn wsX12_readLine (wsV RX12 190 RX12 yX12_lineNow wsX12_lineNow) := goodIn_app (goodIn_of _ (by decide +kernel)) ggX12_readLine_X12_lineNow
set_option maxRecDepth 20000 in
theorem ggX12_readLine_X12_needs : GoodIn wsX12_readLine wsX12_needs := goodIn_r _ [35, 3, 17, 36, 86, 87, 88, 89, 90, 91, 92, 93, 94, 95, 96, 97, 98, 99, 100, 101, 102, 103, 104, 105, 106, 107, 108, 109, 110, 111, 112, 113, 114, 115, 116, 117, 118, 119, 120, 121, 122] rfl gw_wsX12_needs
set_option maxRecDepth 20000 in
theorem gX12_readLine_X12_needs : GoodIn wsX12_readLine (wsV RX12 161 RX12 yX12_needs wsX12_needs) := goodIn_app (goodIn_of _ (by decide +kernel)) ggX12_readLine_X12_needs
set_option maxRecDepth 20000 in
theorem ggX12_readLine_X12_in : GoodIn wsX12_readLine wsX12_in := goodIn_r _ [39] rfl gw_wsX12_in
set_option maxRecDepth 20000 in
theorem gX12_readLine_X12_in : GoodIn wsX12_readLine (va_wsS RX12 115 yX12_in wsX12_in) := goodIn_app (goodIn_of _ (by decide +kernel)) ggX12_readLine_X12_in
set_option maxRecDepth 20000 in
theorem ggX12_readLine_X12_nextToken : GoodIn wsX12_readLine wsX12_nextToken := goodIn_r _ [43, 3, 16, 17, 1, 44, 45, 46, 47, 48, 18, 19, 20, 10, 21, 22, 23, 37, 38, 39, 32, 33, 34, 35, 36, 86, 87, 88, 89, 90, 91, 92, 93, 94, 95, 96, 97, 98, 99, 100, 101, 102, 103, 104, 105, 106, 107, 108, 109, 110, 111, 112, 113, 114, 115, 116, 117, 118, 119, 120, 121, 122] rfl gw_wsX12_nextToken
set_option maxRecDepth 20000 in
theorem gX12_readLine_X12_nextToken : GoodIn wsX12_readLine (wsV RX12 168 RX12 yX12_nextToken wsX12_nextToken) := goodIn_app (goodIn_of _ (by decide +kernel)) ggX12_readLine_X12_nextToken
set_option maxRecDepth 20000 in
theorem gw_wsX12_readLineOf : (wsX12_readLineOf).all goodWord = true := by decide +kernel
set_option maxRecDepth 20000 in
theorem ggX12_readLine_X12_readLineOf : GoodIn wsX12_readLine wsX12_readLineOf := goodIn_r _ [52, 53, 54, 55, 56, 57, 58, 10, 59, 60, 61, 62, 63, 3, 1, 48, 32, 33, 34, 35, 17, 36, 37, 38, 39, 40, 41, 42, 43, 16, 44, 45, 46, 47, 18, 19, 20, 21, 22, 23, 64, 65, 66, 67, 68, 69, 70, 71, 72, 73, 74, 75, 76, 77, 78, 79, 80, 81, 82, 83, 84, 2, 85, 86, 87, 88, 89, 90, 91, 92, 93, 94, 95, 96, 97, 98, 99, 100, 101, 102, 103, 104, 105, 106, 107, 108, 109, 110, 111, 112, 113, 114, 115, 116, 117, 118, 119, 120, 121, 122] rfl gw_wsX12_readLineOf
set_option maxRecDepth 20000 in
theorem gX12_readLine_X12_readLineOf : GoodIn wsX12_readLine (wsV RX12 197 RX12 yX12_readLineOf wsX12_readLineOf) := goodIn_app (goodIn_of _ (by decide +kernel)) ggX12_readLine_X12_readLineOf
theorem kcX12_readLine : (cX12_readLine).data.toList = cbs 0xb1a800b62aa100b605030400a7040700a0069300b42a2a15009a7700b42ac500b61b2ab104009e7700b42aa800b62a5e00b580781b045e00b4592aa100b607030400a70407009a7e047a1b5e00b42a2a2400997300b8c30014c10014851b32009a7700b42aa100b608030400a7040700a2085b00b42a0b00a3061b2aa100b605030400a70407009ffc101b2a3cfc100500a7be00b62a0a00a0049300b42a 158 := by decide +kernel
theorem dX12_readLine_0 : decode cX12_readLine 0 = .ok (.aload_n 0, 1) := op_42 kcX12_readLine (Nat.le_of_ble_eq_true rfl) rfl
theorem dX12_readLine_1 : decode cX12_readLine 1 = .ok (.getfield 147, 3) := op_180 (a := 0) (b := 147) kcX12_readLine (Nat.le_of_ble_eq_true rfl) rfl rfl rfl
theorem dX12_readLine_4 : decode cX12_readLine 4 = .ok (.iconst 1, 1) := op_4 kcX12_readLine (Nat.le_of_ble_eq_true rfl) rfl
theorem dX12_readLine_5 : decode cX12_readLine 5 = .ok (.if_icmp .ne 10, 3) := op_160 (a := 0) (b := 10) kcX12_readLine (Nat.le_of_ble_eq_true rfl) rfl rfl rfl (by decide)
theorem dX12_readLine_8 : decode cX12_readLine 8 = .ok (.aload_n 0, 1) := op_42 kcX12_readLine (Nat.le_of_ble_eq_true rfl) rfl
theorem dX12_readLine_9 : decode cX12_readLine 9 = .ok (.invokevirtual 190, 3) := op_182 (a := 0) (b := 190) kcX12_readLine (Nat.le_of_ble_eq_true rfl) rfl rfl rfl
theorem dX12_readLine_12 : decode cX12_readLine 12 = .ok (.goto 5, 3) := op_167 (a := 0) (b := 5) kcX12_readLine (Nat.le_of_ble_eq_true rfl) rfl rfl rfl (by decide)
theorem dX12_readLine_15 : decode cX12_readLine 15 = .ok (.bipush (-4), 2) := op_16 (a := 252) kcX12_readLine (Nat.le_of_ble_eq_true rfl) rfl rfl (by decide)
theorem dX12_readLine_17 : decode cX12_readLine 17 = .ok (.istore_n 1, 1) := op_60 kcX12_readLine (Nat.le_of_ble_eq_true rfl) rfl
theorem dX12_readLine_18 : decode cX12_readLine 18 = .ok (.aload_n 0, 1) := op_42 kcX12_readLine (Nat.le_of_ble_eq_true rfl) rfl
theorem dX12_readLine_19 : decode cX12_readLine 19 = .ok (.iload_n 1, 1) := op_27 kcX12_readLine (Nat.le_of_ble_eq_true rfl) rfl
theorem dX12_readLine_20 : decode cX12_readLine 20 = .ok (.bipush (-4), 2) := op_16 (a := 252) kcX12_readLine (Nat.le_of_ble_eq_true rfl) rfl rfl (by decide)
theorem dX12_readLine_22 : decode cX12_readLine 22 = .ok (.if_icmp .eq 7, 3) := op_159 (a := 0) (b := 7) kcX12_readLine (Nat.le_of_ble_eq_true rfl) rfl rfl rfl (by decide)
theorem dX12_readLine_25 : decode cX12_readLine 25 = .ok (.iconst 1, 1) := op_4 kcX12_readLine (Nat.le_of_ble_eq_true rfl) rfl
theorem dX12_readLine_26 : decode cX12_readLine 26 = .ok (.goto 4, 3) := op_167 (a := 0) (b := 4) kcX12_readLine (Nat.le_of_ble_eq_true rfl) rfl rfl rfl (by decide)
theorem dX12_readLine_29 : decode cX12_readLine 29 = .ok (.iconst 0, 1) := op_3 kcX12_readLine (Nat.le_of_ble_eq_true rfl) rfl
theorem dX12_readLine_30 : decode cX12_readLine 30 = .ok (.iconst 2, 1) := op_5 kcX12_readLine (Nat.le_of_ble_eq_true rfl) rfl
theorem dX12_readLine_31 : decode cX12_readLine 31 = .ok (.invokevirtual 161, 3) := op_182 (a := 0) (b := 161) kcX12_readLine (Nat.le_of_ble_eq_true rfl) rfl rfl rfl
theorem dX12_readLine_34 : decode cX12_readLine 34 = .ok (.aload_n 0, 1) := op_42 kcX12_readLine (Nat.le_of_ble_eq_true rfl) rfl
theorem dX12_readLine_35 : decode cX12_readLine 35 = .ok (.iload_n 1, 1) := op_27 kcX12_readLine (Nat.le_of_ble_eq_true rfl) rfl
theorem dX12_readLine_36 : decode cX12_readLine 36 = .ok (.iconst 3, 1) := op_6 kcX12_readLine (Nat.le_of_ble_eq_true rfl) rfl
theorem dX12_readLine_37 : decode cX12_readLine 37 = .ok (.if_icmp .gt 11, 3) := op_163 (a := 0) (b := 11) kcX12_readLine (Nat.le_of_ble_eq_true rfl) rfl rfl rfl (by decide)
theorem dX12_readLine_40 : decode cX12_readLine 40 = .ok (.aload_n 0, 1) := op_42 kcX12_readLine (Nat.le_of_ble_eq_true rfl) rfl
theorem dX12_readLine_41 : decode cX12_readLine 41 = .ok (.getfield 91, 3) := op_180 (a := 0) (b := 91) kcX12_readLine (Nat.le_of_ble_eq_true rfl) rfl rfl rfl
theorem dX12_readLine_44 : decode cX12_readLine 44 = .ok (.iconst 5, 1) := op_8 kcX12_readLine (Nat.le_of_ble_eq_true rfl) rfl
theorem dX12_readLine_45 : decode cX12_readLine 45 = .ok (.if_icmp .ge 7, 3) := op_162 (a := 0) (b := 7) kcX12_readLine (Nat.le_of_ble_eq_true rfl) rfl rfl rfl (by decide)
theorem dX12_readLine_48 : decode cX12_readLine 48 = .ok (.iconst 1, 1) := op_4 kcX12_readLine (Nat.le_of_ble_eq_true rfl) rfl
theorem dX12_readLine_49 : decode cX12_readLine 49 = .ok (.goto 4, 3) := op_167 (a := 0) (b := 4) kcX12_readLine (Nat.le_of_ble_eq_true rfl) rfl rfl rfl (by decide)
theorem dX12_readLine_52 : decode cX12_readLine 52 = .ok (.iconst 0, 1) := op_3 kcX12_readLine (Nat.le_of_ble_eq_true rfl) rfl
theorem dX12_readLine_53 : decode cX12_readLine 53 = .ok (.iconst 5, 1) := op_8 kcX12_readLine (Nat.le_of_ble_eq_true rfl) rfl
theorem dX12_readLine_54 : decode cX12_readLine 54 = .ok (.invokevirtual 161, 3) := op_182 (a := 0) (b := 161) kcX12_readLine (Nat.le_of_ble_eq_true rfl) rfl rfl rfl
theorem dX12_readLine_57 : decode cX12_readLine 57 = .ok (.aload_n 0, 1) := op_42 kcX12_readLine (Nat.le_of_ble_eq_true rfl) rfl
theorem dX12_readLine_58 : decode cX12_readLine 58 = .ok (.getfield 119, 3) := op_180 (a := 0) (b := 119) kcX12_readLine (Nat.le_of_ble_eq_true rfl) rfl rfl rfl
theorem dX12_readLine_61 : decode cX12_readLine 61 = .ok (.ifCond .ne 50, 3) := op_154 (a := 0) (b := 50) kcX12_readLine (Nat.le_of_ble_eq_true rfl) rfl rfl rfl (by decide)
theorem dX12_readLine_64 : decode cX12_readLine 64 = .ok (.iload_n 1, 1) := op_27 kcX12_readLine (Nat.le_of_ble_eq_true rfl) rfl
theorem dX12_readLine_65 : decode cX12_readLine 65 = .ok (.i2l, 1) := op_133 kcX12_readLine (Nat.le_of_ble_eq_true rfl) rfl
theorem dX12_readLine_66 : decode cX12_readLine 66 = .ok (.ldc2_w 193, 3) := op_20 (a := 0) (b := 193) kcX12_readLine (Nat.le_of_ble_eq_true rfl) rfl rfl rfl
theorem dX12_readLine_69 : decode cX12_readLine 69 = .ok (.ldc2_w 195, 3) := op_20 (a := 0) (b := 195) kcX12_readLine (Nat.le_of_ble_eq_true rfl) rfl rfl rfl
theorem dX12_readLine_72 : decode cX12_readLine 72 = .ok (.invokestatic 115, 3) := op_184 (a := 0) (b := 115) kcX12_readLine (Nat.le_of_ble_eq_true rfl) rfl rfl rfl
theorem dX12_readLine_75 : decode cX12_readLine 75 = .ok (.ifCond .eq 36, 3) := op_153 (a := 0) (b := 36) kcX12_readLine (Nat.le_of_ble_eq_true rfl) rfl rfl rfl (by decide)
theorem dX12_readLine_78 : decode cX12_readLine 78 = .ok (.aload_n 0, 1) := op_42 kcX12_readLine (Nat.le_of_ble_eq_true rfl) rfl
theorem dX12_readLine_79 : decode cX12_readLine 79 = .ok (.aload_n 0, 1) := op_42 kcX12_readLine (Nat.le_of_ble_eq_true rfl) rfl
theorem dX12_readLine_80 : decode cX12_readLine 80 = .ok (.getfield 94, 3) := op_180 (a := 0) (b := 94) kcX12_readLine (Nat.le_of_ble_eq_true rfl) rfl rfl rfl
theorem dX12_readLine_83 : decode cX12_readLine 83 = .ok (.iload_n 1, 1) := op_27 kcX12_readLine (Nat.le_of_ble_eq_true rfl) rfl
theorem dX12_readLine_84 : decode cX12_readLine 84 = .ok (.ishr, 1) := op_122 kcX12_readLine (Nat.le_of_ble_eq_true rfl) rfl
theorem dX12_readLine_85 : decode cX12_readLine 85 = .ok (.iconst 1, 1) := op_4 kcX12_readLine (Nat.le_of_ble_eq_true rfl) rfl
theorem dX12_readLine_86 : decode cX12_readLine 86 = .ok (.iand, 1) := op_126 kcX12_readLine (Nat.le_of_ble_eq_true rfl) rfl
theorem dX12_readLine_87 : decode cX12_readLine 87 = .ok (.ifCond .ne 7, 3) := op_154 (a := 0) (b := 7) kcX12_readLine (Nat.le_of_ble_eq_true rfl) rfl rfl rfl (by decide)
theorem dX12_readLine_90 : decode cX12_readLine 90 = .ok (.iconst 1, 1) := op_4 kcX12_readLine (Nat.le_of_ble_eq_true rfl) rfl
theorem dX12_readLine_91 : decode cX12_readLine 91 = .ok (.goto 4, 3) := op_167 (a := 0) (b := 4) kcX12_readLine (Nat.le_of_ble_eq_true rfl) rfl rfl rfl (by decide)
theorem dX12_readLine_94 : decode cX12_readLine 94 = .ok (.iconst 0, 1) := op_3 kcX12_readLine (Nat.le_of_ble_eq_true rfl) rfl
theorem dX12_readLine_95 : decode cX12_readLine 95 = .ok (.iconst 4, 1) := op_7 kcX12_readLine (Nat.le_of_ble_eq_true rfl) rfl
theorem dX12_readLine_96 : decode cX12_readLine 96 = .ok (.invokevirtual 161, 3) := op_182 (a := 0) (b := 161) kcX12_readLine (Nat.le_of_ble_eq_true rfl) rfl rfl rfl
theorem dX12_readLine_99 : decode cX12_readLine 99 = .ok (.aload_n 0, 1) := op_42 kcX12_readLine (Nat.le_of_ble_eq_true rfl) rfl
theorem dX12_readLine_100 : decode cX12_readLine 100 = .ok (.dup, 1) := op_89 kcX12_readLine (Nat.le_of_ble_eq_true rfl) rfl
theorem dX12_readLine_101 : decode cX12_readLine 101 = .ok (.getfield 94, 3) := op_180 (a := 0) (b := 94) kcX12_readLine (Nat.le_of_ble_eq_true rfl) rfl rfl rfl
theorem dX12_readLine_104 : decode cX12_readLine 104 = .ok (.iconst 1, 1) := op_4 kcX12_readLine (Nat.le_of_ble_eq_true rfl) rfl
theorem dX12_readLine_105 : decode cX12_readLine 105 = .ok (.iload_n 1, 1) := op_27 kcX12_readLine (Nat.le_of_ble_eq_true rfl) rfl
theorem dX12_readLine_106 : decode cX12_readLine 106 = .ok (.ishl, 1) := op_120 kcX12_readLine (Nat.le_of_ble_eq_true rfl) rfl
theorem dX12_readLine_107 : decode cX12_readLine 107 = .ok (.ior, 1) := op_128 kcX12_readLine (Nat.le_of_ble_eq_true rfl) rfl
theorem dX12_readLine_108 : decode cX12_readLine 108 = .ok (.putfield 94, 3) := op_181 (a := 0) (b := 94) kcX12_readLine (Nat.le_of_ble_eq_true rfl) rfl rfl rfl
theorem dX12_readLine_111 : decode cX12_readLine 111 = .ok (.aload_n 0, 1) := op_42 kcX12_readLine (Nat.le_of_ble_eq_true rfl) rfl
theorem dX12_readLine_112 : decode cX12_readLine 112 = .ok (.invokevirtual 168, 3) := op_182 (a := 0) (b := 168) kcX12_readLine (Nat.le_of_ble_eq_true rfl) rfl rfl rfl
theorem dX12_readLine_115 : decode cX12_readLine 115 = .ok (.aload_n 0, 1) := op_42 kcX12_readLine (Nat.le_of_ble_eq_true rfl) rfl
theorem dX12_readLine_116 : decode cX12_readLine 116 = .ok (.getfield 119, 3) := op_180 (a := 0) (b := 119) kcX12_readLine (Nat.le_of_ble_eq_true rfl) rfl rfl rfl
theorem dX12_readLine_119 : decode cX12_readLine 119 = .ok (.ifCond .le 4, 3) := op_158 (a := 0) (b := 4) kcX12_readLine (Nat.le_of_ble_eq_true rfl) rfl rfl rfl (by decide)
theorem dX12_readLine_122 : decode cX12_readLine 122 = .ok (.return_, 1) := op_177 kcX12_readLine (Nat.le_of_ble_eq_true rfl) rfl
theorem dX12_readLine_123 : decode cX12_readLine 123 = .ok (.aload_n 0, 1) := op_42 kcX12_readLine (Nat.le_of_ble_eq_true rfl) rfl
theorem dX12_readLine_124 : decode cX12_readLine 124 = .ok (.iload_n 1, 1) := op_27 kcX12_readLine (Nat.le_of_ble_eq_true rfl) rfl
theorem dX12_readLine_125 : decode cX12_readLine 125 = .ok (.invokevirtual 197, 3) := op_182 (a := 0) (b := 197) kcX12_readLine (Nat.le_of_ble_eq_true rfl) rfl rfl rfl
theorem dX12_readLine_128 : decode cX12_readLine 128 = .ok (.aload_n 0, 1) := op_42 kcX12_readLine (Nat.le_of_ble_eq_true rfl) rfl
theorem dX12_readLine_129 : decode cX12_readLine 129 = .ok (.getfield 119, 3) := op_180 (a := 0) (b := 119) kcX12_readLine (Nat.le_of_ble_eq_true rfl) rfl rfl rfl
theorem dX12_readLine_132 : decode cX12_readLine 132 = .ok (.ifCond .ne 21, 3) := op_154 (a := 0) (b := 21) kcX12_readLine (Nat.le_of_ble_eq_true rfl) rfl rfl rfl (by decide)
theorem dX12_readLine_135 : decode cX12_readLine 135 = .ok (.aload_n 0, 1) := op_42 kcX12_readLine (Nat.le_of_ble_eq_true rfl) rfl
theorem dX12_readLine_136 : decode cX12_readLine 136 = .ok (.aload_n 0, 1) := op_42 kcX12_readLine (Nat.le_of_ble_eq_true rfl) rfl
theorem dX12_readLine_137 : decode cX12_readLine 137 = .ok (.getfield 147, 3) := op_180 (a := 0) (b := 147) kcX12_readLine (Nat.le_of_ble_eq_true rfl) rfl rfl rfl
theorem dX12_readLine_140 : decode cX12_readLine 140 = .ok (.iconst 3, 1) := op_6 kcX12_readLine (Nat.le_of_ble_eq_true rfl) rfl
theorem dX12_readLine_141 : decode cX12_readLine 141 = .ok (.if_icmp .ne 7, 3) := op_160 (a := 0) (b := 7) kcX12_readLine (Nat.le_of_ble_eq_true rfl) rfl rfl rfl (by decide)
theorem dX12_readLine_144 : decode cX12_readLine 144 = .ok (.iconst 1, 1) := op_4 kcX12_readLine (Nat.le_of_ble_eq_true rfl) rfl
theorem dX12_readLine_145 : decode cX12_readLine 145 = .ok (.goto 4, 3) := op_167 (a := 0) (b := 4) kcX12_readLine (Nat.le_of_ble_eq_true rfl) rfl rfl rfl (by decide)
theorem dX12_readLine_148 : decode cX12_readLine 148 = .ok (.iconst 0, 1) := op_3 kcX12_readLine (Nat.le_of_ble_eq_true rfl) rfl
theorem dX12_readLine_149 : decode cX12_readLine 149 = .ok (.iconst 2, 1) := op_5 kcX12_readLine (Nat.le_of_ble_eq_true rfl) rfl
theorem dX12_readLine_150 : decode cX12_readLine 150 = .ok (.invokevirtual 161, 3) := op_182 (a := 0) (b := 161) kcX12_readLine (Nat.le_of_ble_eq_true rfl) rfl rfl rfl
theorem dX12_readLine_153 : decode cX12_readLine 153 = .ok (.aload_n 0, 1) := op_42 kcX12_readLine (Nat.le_of_ble_eq_true rfl) rfl
theorem dX12_readLine_154 : decode cX12_readLine 154 = .ok (.invokevirtual 168, 3) := op_182 (a := 0) (b := 168) kcX12_readLine (Nat.le_of_ble_eq_true rfl) rfl rfl rfl
theorem dX12_readLine_157 : decode cX12_readLine 157 = .ok (.return_, 1) := op_177 kcX12_readLine (Nat.le_of_ble_eq_true rfl) rfl
set_option maxRecDepth 20000 in
theorem ggX12_text_X12_firstDraft : GoodIn wsX12_text wsX12_firstDraft := goodIn_r _ [12, 13, 14, 5, 15, 16, 4, 108, 109, 110, 111, 112, 113, 114, 115, 116, 117, 118, 119, 120, 121, 122, 123, 124, 125, 126, 127, 128, 129, 130, 131, 132, 133, 134, 135, 136, 137, 138, 139, 140, 141, 142, 143, 144] rfl gw_wsX12_firstDraft
set_option maxRecDepth 20000 in
theorem gX12_text_X12_firstDraft : GoodIn wsX12_text (wsV RX12 81 RX12 yX12_firstDraft wsX12_firstDraft) := goodIn_app (goodIn_of _ (by decide +kernel)) ggX12_text_X12_firstDraft
set_option maxRecDepth 20000 in
theorem ggX12_text_X12_nextToken : GoodIn wsX12_text wsX12_nextToken := goodIn_r _ [20, 1, 2, 21, 3, 22, 23, 24, 25, 26, 27, 28, 29, 11, 30, 6, 31, 32, 33, 34, 35, 36, 37, 38, 7, 108, 109, 110, 111, 112, 113, 114, 115, 116, 117, 118, 119, 120, 121, 122, 123, 124, 125, 126, 127, 128, 129, 130, 131, 132, 133, 134, 135, 136, 137, 138, 139, 140, 141, 142, 143, 144] rfl gw_wsX12_nextToken
set_option maxRecDepth 20000 in
theorem gX12_text_X12_nextToken : GoodIn wsX12_text (wsV RX12 168 RX12 yX12_nextToken wsX12_nextToken) := goodIn_app (goodIn_of _ (by decide +kernel)) ggX12_text_X12_nextToken
set_option maxRecDepth 20000 in
theorem gw_wsX12_readLine : (wsX12_readLine).all goodWord = true := by decide +kernel
set_option maxRecDepth 20000 in
theorem ggX12_text_X12_readLine : GoodIn wsX12_text wsX12_readLine := goodIn_r _ [42, 3, 15, 1, 43, 44, 16, 45, 46, 47, 11, 48, 49, 50, 51, 52, 2, 21, 27, 28, 29, 30, 6, 31, 53, 54, 55, 56, 57, 58, 59, 60, 35, 36, 37, 38, 7, 32, 33, 34, 17, 18, 19, 20, 22, 23, 24, 25, 26, 61, 62, 63, 64, 5, 13, 14, 65, 66, 67, 68, 69, 70, 71, 72, 73, 74, 75, 76, 4, 77, 78, 79, 80, 81, 82, 83, 84, 85, 86, 87, 88, 89, 90, 91, 92, 93, 108, 109, 110, 111, 112, 113, 114, 115, 116, 117, 118, 119, 120, 121, 122, 123, 124, 125, 126, 127, 128, 129, 130, 131, 132, 133, 134, 135, 136, 137, 138, 139, 140, 141, 142, 143, 144] rfl gw_wsX12_readLine
set_option maxRecDepth 20000 in
theorem gX12_text_X12_readLine : GoodIn wsX12_text (wsV RX12 200 RX12 yX12_readLine wsX12_readLine) := goodIn_app (goodIn_of _ (by decide +kernel)) ggX12_text_X12_readLine
set_option maxRecDepth 20000 in
theorem ggX12_text_X12_needs : GoodIn wsX12_text wsX12_needs := goodIn_r _ [38, 1, 21, 7, 108, 109, 110, 111, 112, 113, 114, 115, 116, 117, 118, 119, 120, 121, 122, 123, 124, 125, 126, 127, 128, 129, 130, 131, 132, 133, 134, 135, 136, 137, 138, 139, 140, 141, 142, 143, 144] rfl gw_wsX12_needs
set_option maxRecDepth 20000 in
theorem gX12_text_X12_needs : GoodIn wsX12_text (wsV RX12 161 RX12 yX12_needs wsX12_needs) := goodIn_app (goodIn_of _ (by decide +kernel)) ggX12_text_X12_needs
set_option maxRecDepth 20000 in
theorem ggX12_text_X12_keepDraft : GoodIn wsX12_text wsX12_keepDraft := goodIn_r _ [97, 98, 13, 5, 99, 15, 100, 101, 14, 102, 103, 104, 105, 106, 11, 107, 93, 108, 109, 110, 111, 112, 113, 114, 115, 116, 117, 118, 119, 120, 121, 122, 123, 124, 125, 126, 127, 128, 129, 130, 131, 132, 133, 134, 135, 136, 137, 138, 139, 140, 141, 142, 143, 144] rfl gw_wsX12_keepDraft
set_option maxRecDepth 20000 in
theorem gX12_text_X12_keepDraft : GoodIn wsX12_text (wsV RX12 84 RX12 yX12_keepDraft wsX12_keepDraft) := goodIn_app (goodIn_of _ (by decide +kernel)) ggX12_text_X12_keepDraft
theorem kcX12_text : (cX12_text).data.toList = cbs 0xac1b5400b62aac647d00b42af6100b009e7700b42a6e00b5032aa100b60610030400a7040700a25700b42a6100b42a2a19009a7700b42aebffa7010184c800b62a0d00999300b42a14009a7700b42aa800b62a5100b62a8000b5032a7700b5032a3c03 99 := by decide +kernel
theorem dX12_text_0 : decode cX12_text 0 = .ok (.iconst 0, 1) := op_3 kcX12_text (Nat.le_of_ble_eq_true rfl) rfl
theorem dX12_text_1 : decode cX12_text 1 = .ok (.istore_n 1, 1) := op_60 kcX12_text (Nat.le_of_ble_eq_true rfl) rfl
theorem dX12_text_2 : decode cX12_text 2 = .ok (.aload_n 0, 1) := op_42 kcX12_text (Nat.le_of_ble_eq_true rfl) rfl
theorem dX12_text_3 : decode cX12_text 3 = .ok (.iconst 0, 1) := op_3 kcX12_text (Nat.le_of_ble_eq_true rfl) rfl
theorem dX12_text_4 : decode cX12_text 4 = .ok (.putfield 119, 3) := op_181 (a := 0) (b := 119) kcX12_text (Nat.le_of_ble_eq_true rfl) rfl rfl rfl
theorem dX12_text_7 : decode cX12_text 7 = .ok (.aload_n 0, 1) := op_42 kcX12_text (Nat.le_of_ble_eq_true rfl) rfl
theorem dX12_text_8 : decode cX12_text 8 = .ok (.iconst 0, 1) := op_3 kcX12_text (Nat.le_of_ble_eq_true rfl) rfl
theorem dX12_text_9 : decode cX12_text 9 = .ok (.putfield 128, 3) := op_181 (a := 0) (b := 128) kcX12_text (Nat.le_of_ble_eq_true rfl) rfl rfl rfl
theorem dX12_text_12 : decode cX12_text 12 = .ok (.aload_n 0, 1) := op_42 kcX12_text (Nat.le_of_ble_eq_true rfl) rfl
theorem dX12_text_13 : decode cX12_text 13 = .ok (.invokevirtual 81, 3) := op_182 (a := 0) (b := 81) kcX12_text (Nat.le_of_ble_eq_true rfl) rfl rfl rfl
theorem dX12_text_16 : decode cX12_text 16 = .ok (.aload_n 0, 1) := op_42 kcX12_text (Nat.le_of_ble_eq_true rfl) rfl
theorem dX12_text_17 : decode cX12_text 17 = .ok (.invokevirtual 168, 3) := op_182 (a := 0) (b := 168) kcX12_text (Nat.le_of_ble_eq_true rfl) rfl rfl rfl
theorem dX12_text_20 : decode cX12_text 20 = .ok (.aload_n 0, 1) := op_42 kcX12_text (Nat.le_of_ble_eq_true rfl) rfl
theorem dX12_text_21 : decode cX12_text 21 = .ok (.getfield 119, 3) := op_180 (a := 0) (b := 119) kcX12_text (Nat.le_of_ble_eq_true rfl) rfl rfl rfl
theorem dX12_text_24 : decode cX12_text 24 = .ok (.ifCond .ne 20, 3) := op_154 (a := 0) (b := 20) kcX12_text (Nat.le_of_ble_eq_true rfl) rfl rfl rfl (by decide)
theorem dX12_text_27 : decode cX12_text 27 = .ok (.aload_n 0, 1) := op_42 kcX12_text (Nat.le_of_ble_eq_true rfl) rfl
theorem dX12_text_28 : decode cX12_text 28 = .ok (.getfield 147, 3) := op_180 (a := 0) (b := 147) kcX12_text (Nat.le_of_ble_eq_true rfl) rfl rfl rfl
theorem dX12_text_31 : decode cX12_text 31 = .ok (.ifCond .eq 13, 3) := op_153 (a := 0) (b := 13) kcX12_text (Nat.le_of_ble_eq_true rfl) rfl rfl rfl (by decide)
theorem dX12_text_34 : decode cX12_text 34 = .ok (.aload_n 0, 1) := op_42 kcX12_text (Nat.le_of_ble_eq_true rfl) rfl
theorem dX12_text_35 : decode cX12_text 35 = .ok (.invokevirtual 200, 3) := op_182 (a := 0) (b := 200) kcX12_text (Nat.le_of_ble_eq_true rfl) rfl rfl rfl
theorem dX12_text_38 : decode cX12_text 38 = .ok (.iinc 1 1, 3) := by decide +kernel
theorem dX12_text_41 : decode cX12_text 41 = .ok (.goto (-21), 3) := op_167 (a := 255) (b := 235) kcX12_text (Nat.le_of_ble_eq_true rfl) rfl rfl rfl (by decide)
theorem dX12_text_44 : decode cX12_text 44 = .ok (.aload_n 0, 1) := op_42 kcX12_text (Nat.le_of_ble_eq_true rfl) rfl
theorem dX12_text_45 : decode cX12_text 45 = .ok (.getfield 119, 3) := op_180 (a := 0) (b := 119) kcX12_text (Nat.le_of_ble_eq_true rfl) rfl rfl rfl
theorem dX12_text_48 : decode cX12_text 48 = .ok (.ifCond .ne 25, 3) := op_154 (a := 0) (b := 25) kcX12_text (Nat.le_of_ble_eq_true rfl) rfl rfl rfl (by decide)
theorem dX12_text_51 : decode cX12_text 51 = .ok (.aload_n 0, 1) := op_42 kcX12_text (Nat.le_of_ble_eq_true rfl) rfl
theorem dX12_text_52 : decode cX12_text 52 = .ok (.aload_n 0, 1) := op_42 kcX12_text (Nat.le_of_ble_eq_true rfl) rfl
theorem dX12_text_53 : decode cX12_text 53 = .ok (.getfield 97, 3) := op_180 (a := 0) (b := 97) kcX12_text (Nat.le_of_ble_eq_true rfl) rfl rfl rfl
theorem dX12_text_56 : decode cX12_text 56 = .ok (.aload_n 0, 1) := op_42 kcX12_text (Nat.le_of_ble_eq_true rfl) rfl
theorem dX12_text_57 : decode cX12_text 57 = .ok (.getfield 87, 3) := op_180 (a := 0) (b := 87) kcX12_text (Nat.le_of_ble_eq_true rfl) rfl rfl rfl
theorem dX12_text_60 : decode cX12_text 60 = .ok (.if_icmp .ge 7, 3) := op_162 (a := 0) (b := 7) kcX12_text (Nat.le_of_ble_eq_true rfl) rfl rfl rfl (by decide)
theorem dX12_text_63 : decode cX12_text 63 = .ok (.iconst 1, 1) := op_4 kcX12_text (Nat.le_of_ble_eq_true rfl) rfl
theorem dX12_text_64 : decode cX12_text 64 = .ok (.goto 4, 3) := op_167 (a := 0) (b := 4) kcX12_text (Nat.le_of_ble_eq_true rfl) rfl rfl rfl (by decide)
theorem dX12_text_67 : decode cX12_text 67 = .ok (.iconst 0, 1) := op_3 kcX12_text (Nat.le_of_ble_eq_true rfl) rfl
theorem dX12_text_68 : decode cX12_text 68 = .ok (.bipush 6, 2) := op_16 (a := 6) kcX12_text (Nat.le_of_ble_eq_true rfl) rfl rfl (by decide)
theorem dX12_text_70 : decode cX12_text 70 = .ok (.invokevirtual 161, 3) := op_182 (a := 0) (b := 161) kcX12_text (Nat.le_of_ble_eq_true rfl) rfl rfl rfl
theorem dX12_text_73 : decode cX12_text 73 = .ok (.aload_n 0, 1) := op_42 kcX12_text (Nat.le_of_ble_eq_true rfl) rfl
theorem dX12_text_74 : decode cX12_text 74 = .ok (.iconst 0, 1) := op_3 kcX12_text (Nat.le_of_ble_eq_true rfl) rfl
theorem dX12_text_75 : decode cX12_text 75 = .ok (.putfield 110, 3) := op_181 (a := 0) (b := 110) kcX12_text (Nat.le_of_ble_eq_true rfl) rfl rfl rfl
theorem dX12_text_78 : decode cX12_text 78 = .ok (.aload_n 0, 1) := op_42 kcX12_text (Nat.le_of_ble_eq_true rfl) rfl
theorem dX12_text_79 : decode cX12_text 79 = .ok (.getfield 119, 3) := op_180 (a := 0) (b := 119) kcX12_text (Nat.le_of_ble_eq_true rfl) rfl rfl rfl
theorem dX12_text_82 : decode cX12_text 82 = .ok (.ifCond .le 11, 3) := op_158 (a := 0) (b := 11) kcX12_text (Nat.le_of_ble_eq_true rfl) rfl rfl rfl (by decide)
theorem dX12_text_85 : decode cX12_text 85 = .ok (.bipush (-10), 2) := op_16 (a := 246) kcX12_text (Nat.le_of_ble_eq_true rfl) rfl rfl (by decide)
theorem dX12_text_87 : decode cX12_text 87 = .ok (.aload_n 0, 1) := op_42 kcX12_text (Nat.le_of_ble_eq_true rfl) rfl
theorem dX12_text_88 : decode cX12_text 88 = .ok (.getfield 125, 3) := op_180 (a := 0) (b := 125) kcX12_text (Nat.le_of_ble_eq_true rfl) rfl rfl rfl
theorem dX12_text_91 : decode cX12_text 91 = .ok (.isub, 1) := op_100 kcX12_text (Nat.le_of_ble_eq_true rfl) rfl
theorem dX12_text_92 : decode cX12_text 92 = .ok (.ireturn, 1) := op_172 kcX12_text (Nat.le_of_ble_eq_true rfl) rfl
theorem dX12_text_93 : decode cX12_text 93 = .ok (.aload_n 0, 1) := op_42 kcX12_text (Nat.le_of_ble_eq_true rfl) rfl
theorem dX12_text_94 : decode cX12_text 94 = .ok (.invokevirtual 84, 3) := op_182 (a := 0) (b := 84) kcX12_text (Nat.le_of_ble_eq_true rfl) rfl rfl rfl
theorem dX12_text_97 : decode cX12_text 97 = .ok (.iload_n 1, 1) := op_27 kcX12_text (Nat.le_of_ble_eq_true rfl) rfl
theorem dX12_text_98 : decode cX12_text 98 = .ok (.ireturn, 1) := op_172 kcX12_text (Nat.le_of_ble_eq_true rfl) rfl
theorem kcX12_fault : (cX12_fault).data.toList = cbs 0xac7700b42a 5 := by decide +kernel
theorem dX12_fault_0 : decode cX12_fault 0 = .ok (.aload_n 0, 1) := op_42 kcX12_fault (Nat.le_of_ble_eq_true rfl) rfl
theorem dX12_fault_1 : decode cX12_fault 1 = .ok (.getfield 119, 3) := op_180 (a := 0) (b := 119) kcX12_fault (Nat.le_of_ble_eq_true rfl) rfl rfl rfl
theorem dX12_fault_4 : decode cX12_fault 4 = .ok (.ireturn, 1) := op_172 kcX12_fault (Nat.le_of_ble_eq_true rfl) rfl
set_option maxRecDepth 20000 in
theorem ggX12_isSeat_X12_in : GoodIn wsX12_isSeat wsX12_in := goodIn_r _ [5] rfl gw_wsX12_in
set_option maxRecDepth 20000 in
theorem gX12_isSeat_X12_in : GoodIn wsX12_isSeat (va_wsS RX12 115 yX12_in wsX12_in) := goodIn_app (goodIn_of _ (by decide +kernel)) ggX12_isSeat_X12_in
theorem kcX12_isSeat : (cX12_isSeat).data.toList = cbs 0xac7300b88564046400b42a09851b 14 := by decide +kernel
theorem dX12_isSeat_0 : decode cX12_isSeat 0 = .ok (.iload_n 1, 1) := op_27 kcX12_isSeat (Nat.le_of_ble_eq_true rfl) rfl
theorem dX12_isSeat_1 : decode cX12_isSeat 1 = .ok (.i2l, 1) := op_133 kcX12_isSeat (Nat.le_of_ble_eq_true rfl) rfl
theorem dX12_isSeat_2 : decode cX12_isSeat 2 = .ok (.lconst 0, 1) := op_9 kcX12_isSeat (Nat.le_of_ble_eq_true rfl) rfl
theorem dX12_isSeat_3 : decode cX12_isSeat 3 = .ok (.aload_n 0, 1) := op_42 kcX12_isSeat (Nat.le_of_ble_eq_true rfl) rfl
theorem dX12_isSeat_4 : decode cX12_isSeat 4 = .ok (.getfield 100, 3) := op_180 (a := 0) (b := 100) kcX12_isSeat (Nat.le_of_ble_eq_true rfl) rfl rfl rfl
theorem dX12_isSeat_7 : decode cX12_isSeat 7 = .ok (.iconst 1, 1) := op_4 kcX12_isSeat (Nat.le_of_ble_eq_true rfl) rfl
theorem dX12_isSeat_8 : decode cX12_isSeat 8 = .ok (.isub, 1) := op_100 kcX12_isSeat (Nat.le_of_ble_eq_true rfl) rfl
theorem dX12_isSeat_9 : decode cX12_isSeat 9 = .ok (.i2l, 1) := op_133 kcX12_isSeat (Nat.le_of_ble_eq_true rfl) rfl
theorem dX12_isSeat_10 : decode cX12_isSeat 10 = .ok (.invokestatic 115, 3) := op_184 (a := 0) (b := 115) kcX12_isSeat (Nat.le_of_ble_eq_true rfl) rfl rfl rfl
theorem dX12_isSeat_13 : decode cX12_isSeat 13 = .ok (.ireturn, 1) := op_172 kcX12_isSeat (Nat.le_of_ble_eq_true rfl) rfl
set_option maxRecDepth 20000 in
theorem ggX12_isStir_X12_in : GoodIn wsX12_isStir wsX12_in := goodIn_r _ [5] rfl gw_wsX12_in
set_option maxRecDepth 20000 in
theorem gX12_isStir_X12_in : GoodIn wsX12_isStir (va_wsS RX12 115 yX12_in wsX12_in) := goodIn_app (goodIn_of _ (by decide +kernel)) ggX12_isStir_X12_in
theorem kcX12_isStir : (cX12_isStir).data.toList = cbs 0xac7300b88564046700b42a09851b 14 := by decide +kernel
theorem dX12_isStir_0 : decode cX12_isStir 0 = .ok (.iload_n 1, 1) := op_27 kcX12_isStir (Nat.le_of_ble_eq_true rfl) rfl
theorem dX12_isStir_1 : decode cX12_isStir 1 = .ok (.i2l, 1) := op_133 kcX12_isStir (Nat.le_of_ble_eq_true rfl) rfl
theorem dX12_isStir_2 : decode cX12_isStir 2 = .ok (.lconst 0, 1) := op_9 kcX12_isStir (Nat.le_of_ble_eq_true rfl) rfl
theorem dX12_isStir_3 : decode cX12_isStir 3 = .ok (.aload_n 0, 1) := op_42 kcX12_isStir (Nat.le_of_ble_eq_true rfl) rfl
theorem dX12_isStir_4 : decode cX12_isStir 4 = .ok (.getfield 103, 3) := op_180 (a := 0) (b := 103) kcX12_isStir (Nat.le_of_ble_eq_true rfl) rfl rfl rfl
theorem dX12_isStir_7 : decode cX12_isStir 7 = .ok (.iconst 1, 1) := op_4 kcX12_isStir (Nat.le_of_ble_eq_true rfl) rfl
theorem dX12_isStir_8 : decode cX12_isStir 8 = .ok (.isub, 1) := op_100 kcX12_isStir (Nat.le_of_ble_eq_true rfl) rfl
theorem dX12_isStir_9 : decode cX12_isStir 9 = .ok (.i2l, 1) := op_133 kcX12_isStir (Nat.le_of_ble_eq_true rfl) rfl
theorem dX12_isStir_10 : decode cX12_isStir 10 = .ok (.invokestatic 115, 3) := op_184 (a := 0) (b := 115) kcX12_isStir (Nat.le_of_ble_eq_true rfl) rfl rfl rfl
theorem dX12_isStir_13 : decode cX12_isStir 13 = .ok (.ireturn, 1) := op_172 kcX12_isStir (Nat.le_of_ble_eq_true rfl) rfl
theorem kcX12_rule : (cX12_rule).data.toList = cbs 0xac02ac2e07100700b42aac2e1e100700b42aac2e08100700b42aac6700b42aac6400b42a3d000000350000002d00000028000000230000000400000000000000450000000000aa1b 72 := by decide +kernel
theorem dX12_rule_0 : decode cX12_rule 0 = .ok (.iload_n 1, 1) := op_27 kcX12_rule (Nat.le_of_ble_eq_true rfl) rfl
theorem dX12_rule_1 : decode cX12_rule 1 = .ok (.tableswitch 69 0 4 #[35, 40, 45, 53, 61], 35) := by decide +kernel
theorem dX12_rule_36 : decode cX12_rule 36 = .ok (.aload_n 0, 1) := op_42 kcX12_rule (Nat.le_of_ble_eq_true rfl) rfl
theorem dX12_rule_37 : decode cX12_rule 37 = .ok (.getfield 100, 3) := op_180 (a := 0) (b := 100) kcX12_rule (Nat.le_of_ble_eq_true rfl) rfl rfl rfl
theorem dX12_rule_40 : decode cX12_rule 40 = .ok (.ireturn, 1) := op_172 kcX12_rule (Nat.le_of_ble_eq_true rfl) rfl
theorem dX12_rule_41 : decode cX12_rule 41 = .ok (.aload_n 0, 1) := op_42 kcX12_rule (Nat.le_of_ble_eq_true rfl) rfl
theorem dX12_rule_42 : decode cX12_rule 42 = .ok (.getfield 103, 3) := op_180 (a := 0) (b := 103) kcX12_rule (Nat.le_of_ble_eq_true rfl) rfl rfl rfl
theorem dX12_rule_45 : decode cX12_rule 45 = .ok (.ireturn, 1) := op_172 kcX12_rule (Nat.le_of_ble_eq_true rfl) rfl
theorem dX12_rule_46 : decode cX12_rule 46 = .ok (.aload_n 0, 1) := op_42 kcX12_rule (Nat.le_of_ble_eq_true rfl) rfl
theorem dX12_rule_47 : decode cX12_rule 47 = .ok (.getfield 7, 3) := op_180 (a := 0) (b := 7) kcX12_rule (Nat.le_of_ble_eq_true rfl) rfl rfl rfl
theorem dX12_rule_50 : decode cX12_rule 50 = .ok (.bipush 8, 2) := op_16 (a := 8) kcX12_rule (Nat.le_of_ble_eq_true rfl) rfl rfl (by decide)
theorem dX12_rule_52 : decode cX12_rule 52 = .ok (.iaload, 1) := op_46 kcX12_rule (Nat.le_of_ble_eq_true rfl) rfl
theorem dX12_rule_53 : decode cX12_rule 53 = .ok (.ireturn, 1) := op_172 kcX12_rule (Nat.le_of_ble_eq_true rfl) rfl
theorem dX12_rule_54 : decode cX12_rule 54 = .ok (.aload_n 0, 1) := op_42 kcX12_rule (Nat.le_of_ble_eq_true rfl) rfl
theorem dX12_rule_55 : decode cX12_rule 55 = .ok (.getfield 7, 3) := op_180 (a := 0) (b := 7) kcX12_rule (Nat.le_of_ble_eq_true rfl) rfl rfl rfl
theorem dX12_rule_58 : decode cX12_rule 58 = .ok (.bipush 30, 2) := op_16 (a := 30) kcX12_rule (Nat.le_of_ble_eq_true rfl) rfl rfl (by decide)
theorem dX12_rule_60 : decode cX12_rule 60 = .ok (.iaload, 1) := op_46 kcX12_rule (Nat.le_of_ble_eq_true rfl) rfl
theorem dX12_rule_61 : decode cX12_rule 61 = .ok (.ireturn, 1) := op_172 kcX12_rule (Nat.le_of_ble_eq_true rfl) rfl
theorem dX12_rule_62 : decode cX12_rule 62 = .ok (.aload_n 0, 1) := op_42 kcX12_rule (Nat.le_of_ble_eq_true rfl) rfl
theorem dX12_rule_63 : decode cX12_rule 63 = .ok (.getfield 7, 3) := op_180 (a := 0) (b := 7) kcX12_rule (Nat.le_of_ble_eq_true rfl) rfl rfl rfl
theorem dX12_rule_66 : decode cX12_rule 66 = .ok (.bipush 7, 2) := op_16 (a := 7) kcX12_rule (Nat.le_of_ble_eq_true rfl) rfl rfl (by decide)
theorem dX12_rule_68 : decode cX12_rule 68 = .ok (.iaload, 1) := op_46 kcX12_rule (Nat.le_of_ble_eq_true rfl) rfl
theorem dX12_rule_69 : decode cX12_rule 69 = .ok (.ireturn, 1) := op_172 kcX12_rule (Nat.le_of_ble_eq_true rfl) rfl
theorem dX12_rule_70 : decode cX12_rule 70 = .ok (.iconst (-1), 1) := op_2 kcX12_rule (Nat.le_of_ble_eq_true rfl) rfl
theorem dX12_rule_71 : decode cX12_rule 71 = .ok (.ireturn, 1) := op_172 kcX12_rule (Nat.le_of_ble_eq_true rfl) rfl
set_option maxRecDepth 20000 in
theorem gw_wsX12_isSeat : (wsX12_isSeat).all goodWord = true := by decide +kernel
set_option maxRecDepth 20000 in
theorem ggX12_pot_X12_isSeat : GoodIn wsX12_pot wsX12_isSeat := goodIn_r _ [6, 7, 8, 9, 5, 10, 11, 12, 13, 14, 15, 16, 17, 18, 19, 20, 21, 22, 23, 24, 25, 26, 27, 28, 29, 30, 31, 32, 33, 34, 35, 36, 37, 38, 39, 40, 41, 42, 43, 44, 45, 46, 47] rfl gw_wsX12_isSeat
set_option maxRecDepth 20000 in
theorem gX12_pot_X12_isSeat : GoodIn wsX12_pot (wsV RX12 203 RX12 yX12_isSeat wsX12_isSeat) := goodIn_app (goodIn_of _ (by decide +kernel)) ggX12_pot_X12_isSeat
theorem kcX12_pot : (cX12_pot).data.toList = cbs 0xac020400a72e1b0700b42a0c0099cb00b61b2a 19 := by decide +kernel
theorem dX12_pot_0 : decode cX12_pot 0 = .ok (.aload_n 0, 1) := op_42 kcX12_pot (Nat.le_of_ble_eq_true rfl) rfl
theorem dX12_pot_1 : decode cX12_pot 1 = .ok (.iload_n 1, 1) := op_27 kcX12_pot (Nat.le_of_ble_eq_true rfl) rfl
theorem dX12_pot_2 : decode cX12_pot 2 = .ok (.invokevirtual 203, 3) := op_182 (a := 0) (b := 203) kcX12_pot (Nat.le_of_ble_eq_true rfl) rfl rfl rfl
theorem dX12_pot_5 : decode cX12_pot 5 = .ok (.ifCond .eq 12, 3) := op_153 (a := 0) (b := 12) kcX12_pot (Nat.le_of_ble_eq_true rfl) rfl rfl rfl (by decide)
theorem dX12_pot_8 : decode cX12_pot 8 = .ok (.aload_n 0, 1) := op_42 kcX12_pot (Nat.le_of_ble_eq_true rfl) rfl
theorem dX12_pot_9 : decode cX12_pot 9 = .ok (.getfield 7, 3) := op_180 (a := 0) (b := 7) kcX12_pot (Nat.le_of_ble_eq_true rfl) rfl rfl rfl
theorem dX12_pot_12 : decode cX12_pot 12 = .ok (.iload_n 1, 1) := op_27 kcX12_pot (Nat.le_of_ble_eq_true rfl) rfl
theorem dX12_pot_13 : decode cX12_pot 13 = .ok (.iaload, 1) := op_46 kcX12_pot (Nat.le_of_ble_eq_true rfl) rfl
theorem dX12_pot_14 : decode cX12_pot 14 = .ok (.goto 4, 3) := op_167 (a := 0) (b := 4) kcX12_pot (Nat.le_of_ble_eq_true rfl) rfl rfl rfl (by decide)
theorem dX12_pot_17 : decode cX12_pot 17 = .ok (.iconst (-1), 1) := op_2 kcX12_pot (Nat.le_of_ble_eq_true rfl) rfl
theorem dX12_pot_18 : decode cX12_pot 18 = .ok (.ireturn, 1) := op_172 kcX12_pot (Nat.le_of_ble_eq_true rfl) rfl
set_option maxRecDepth 20000 in
theorem ggX12_one_X12_isSeat : GoodIn wsX12_one wsX12_isSeat := goodIn_r _ [7, 8, 9, 10, 6, 11, 12, 13, 14, 15, 16, 17, 18, 19, 20, 21, 22, 23, 24, 25, 26, 27, 28, 29, 30, 31, 32, 33, 34, 35, 36, 37, 38, 39, 40, 41, 42, 43, 44, 45, 46, 47, 48] rfl gw_wsX12_isSeat
set_option maxRecDepth 20000 in
theorem gX12_one_X12_isSeat : GoodIn wsX12_one (wsV RX12 203 RX12 yX12_isSeat wsX12_isSeat) := goodIn_app (goodIn_of _ (by decide +kernel)) ggX12_one_X12_isSeat
theorem kcX12_one : (cX12_one).data.toList = cbs 0xac02ac2e601b17100700b42aac2e1b1400b42aac2e601b10100700b42aac2e601b09100700b42a3800000031000000270000001d000000030000000000000042000000aa1cac0205009acb00b61b2a 79 := by decide +kernel
theorem dX12_one_0 : decode cX12_one 0 = .ok (.aload_n 0, 1) := op_42 kcX12_one (Nat.le_of_ble_eq_true rfl) rfl
theorem dX12_one_1 : decode cX12_one 1 = .ok (.iload_n 1, 1) := op_27 kcX12_one (Nat.le_of_ble_eq_true rfl) rfl
theorem dX12_one_2 : decode cX12_one 2 = .ok (.invokevirtual 203, 3) := op_182 (a := 0) (b := 203) kcX12_one (Nat.le_of_ble_eq_true rfl) rfl rfl rfl
theorem dX12_one_5 : decode cX12_one 5 = .ok (.ifCond .ne 5, 3) := op_154 (a := 0) (b := 5) kcX12_one (Nat.le_of_ble_eq_true rfl) rfl rfl rfl (by decide)
theorem dX12_one_8 : decode cX12_one 8 = .ok (.iconst (-1), 1) := op_2 kcX12_one (Nat.le_of_ble_eq_true rfl) rfl
theorem dX12_one_9 : decode cX12_one 9 = .ok (.ireturn, 1) := op_172 kcX12_one (Nat.le_of_ble_eq_true rfl) rfl
theorem dX12_one_10 : decode cX12_one 10 = .ok (.iload_n 2, 1) := op_28 kcX12_one (Nat.le_of_ble_eq_true rfl) rfl
theorem dX12_one_11 : decode cX12_one 11 = .ok (.tableswitch 66 0 3 #[29, 39, 49, 56], 29) := by decide +kernel
theorem dX12_one_40 : decode cX12_one 40 = .ok (.aload_n 0, 1) := op_42 kcX12_one (Nat.le_of_ble_eq_true rfl) rfl
theorem dX12_one_41 : decode cX12_one 41 = .ok (.getfield 7, 3) := op_180 (a := 0) (b := 7) kcX12_one (Nat.le_of_ble_eq_true rfl) rfl rfl rfl
theorem dX12_one_44 : decode cX12_one 44 = .ok (.bipush 9, 2) := op_16 (a := 9) kcX12_one (Nat.le_of_ble_eq_true rfl) rfl rfl (by decide)
theorem dX12_one_46 : decode cX12_one 46 = .ok (.iload_n 1, 1) := op_27 kcX12_one (Nat.le_of_ble_eq_true rfl) rfl
theorem dX12_one_47 : decode cX12_one 47 = .ok (.iadd, 1) := op_96 kcX12_one (Nat.le_of_ble_eq_true rfl) rfl
theorem dX12_one_48 : decode cX12_one 48 = .ok (.iaload, 1) := op_46 kcX12_one (Nat.le_of_ble_eq_true rfl) rfl
theorem dX12_one_49 : decode cX12_one 49 = .ok (.ireturn, 1) := op_172 kcX12_one (Nat.le_of_ble_eq_true rfl) rfl
theorem dX12_one_50 : decode cX12_one 50 = .ok (.aload_n 0, 1) := op_42 kcX12_one (Nat.le_of_ble_eq_true rfl) rfl
theorem dX12_one_51 : decode cX12_one 51 = .ok (.getfield 7, 3) := op_180 (a := 0) (b := 7) kcX12_one (Nat.le_of_ble_eq_true rfl) rfl rfl rfl
theorem dX12_one_54 : decode cX12_one 54 = .ok (.bipush 16, 2) := op_16 (a := 16) kcX12_one (Nat.le_of_ble_eq_true rfl) rfl rfl (by decide)
theorem dX12_one_56 : decode cX12_one 56 = .ok (.iload_n 1, 1) := op_27 kcX12_one (Nat.le_of_ble_eq_true rfl) rfl
theorem dX12_one_57 : decode cX12_one 57 = .ok (.iadd, 1) := op_96 kcX12_one (Nat.le_of_ble_eq_true rfl) rfl
theorem dX12_one_58 : decode cX12_one 58 = .ok (.iaload, 1) := op_46 kcX12_one (Nat.le_of_ble_eq_true rfl) rfl
theorem dX12_one_59 : decode cX12_one 59 = .ok (.ireturn, 1) := op_172 kcX12_one (Nat.le_of_ble_eq_true rfl) rfl
theorem dX12_one_60 : decode cX12_one 60 = .ok (.aload_n 0, 1) := op_42 kcX12_one (Nat.le_of_ble_eq_true rfl) rfl
theorem dX12_one_61 : decode cX12_one 61 = .ok (.getfield 20, 3) := op_180 (a := 0) (b := 20) kcX12_one (Nat.le_of_ble_eq_true rfl) rfl rfl rfl
theorem dX12_one_64 : decode cX12_one 64 = .ok (.iload_n 1, 1) := op_27 kcX12_one (Nat.le_of_ble_eq_true rfl) rfl
theorem dX12_one_65 : decode cX12_one 65 = .ok (.iaload, 1) := op_46 kcX12_one (Nat.le_of_ble_eq_true rfl) rfl
theorem dX12_one_66 : decode cX12_one 66 = .ok (.ireturn, 1) := op_172 kcX12_one (Nat.le_of_ble_eq_true rfl) rfl
theorem dX12_one_67 : decode cX12_one 67 = .ok (.aload_n 0, 1) := op_42 kcX12_one (Nat.le_of_ble_eq_true rfl) rfl
theorem dX12_one_68 : decode cX12_one 68 = .ok (.getfield 7, 3) := op_180 (a := 0) (b := 7) kcX12_one (Nat.le_of_ble_eq_true rfl) rfl rfl rfl
theorem dX12_one_71 : decode cX12_one 71 = .ok (.bipush 23, 2) := op_16 (a := 23) kcX12_one (Nat.le_of_ble_eq_true rfl) rfl rfl (by decide)
theorem dX12_one_73 : decode cX12_one 73 = .ok (.iload_n 1, 1) := op_27 kcX12_one (Nat.le_of_ble_eq_true rfl) rfl
theorem dX12_one_74 : decode cX12_one 74 = .ok (.iadd, 1) := op_96 kcX12_one (Nat.le_of_ble_eq_true rfl) rfl
theorem dX12_one_75 : decode cX12_one 75 = .ok (.iaload, 1) := op_46 kcX12_one (Nat.le_of_ble_eq_true rfl) rfl
theorem dX12_one_76 : decode cX12_one 76 = .ok (.ireturn, 1) := op_172 kcX12_one (Nat.le_of_ble_eq_true rfl) rfl
theorem dX12_one_77 : decode cX12_one 77 = .ok (.iconst (-1), 1) := op_2 kcX12_one (Nat.le_of_ble_eq_true rfl) rfl
theorem dX12_one_78 : decode cX12_one 78 = .ok (.ireturn, 1) := op_172 kcX12_one (Nat.le_of_ble_eq_true rfl) rfl
set_option maxRecDepth 20000 in
theorem gw_wsX12_isStir : (wsX12_isStir).all goodWord = true := by decide +kernel
set_option maxRecDepth 20000 in
theorem ggX12_stir_X12_isStir : GoodIn wsX12_stir wsX12_isStir := goodIn_r _ [6, 7, 8, 9, 5, 10, 16, 17, 18, 19, 20, 21, 22, 23, 24, 25, 26, 27, 28, 29, 30, 31, 32, 33, 34, 35, 36, 37, 38, 39, 40, 41, 42, 43, 44, 45, 46, 47, 48, 49, 50, 51, 52] rfl gw_wsX12_isStir
set_option maxRecDepth 20000 in
theorem gX12_stir_X12_isStir : GoodIn wsX12_stir (wsV RX12 207 RX12 yX12_isStir wsX12_isStir) := goodIn_app (goodIn_of _ (by decide +kernel)) ggX12_stir_X12_isStir
set_option maxRecDepth 20000 in
theorem ggX12_stir_X12_isSeat : GoodIn wsX12_stir wsX12_isSeat := goodIn_r _ [14, 15, 8, 9, 5, 10, 16, 17, 18, 19, 20, 21, 22, 23, 24, 25, 26, 27, 28, 29, 30, 31, 32, 33, 34, 35, 36, 37, 38, 39, 40, 41, 42, 43, 44, 45, 46, 47, 48, 49, 50, 51, 52] rfl gw_wsX12_isSeat
set_option maxRecDepth 20000 in
theorem gX12_stir_X12_isSeat : GoodIn wsX12_stir (wsV RX12 203 RX12 yX12_isSeat wsX12_isSeat) := goodIn_app (goodIn_of _ (by decide +kernel)) ggX12_stir_X12_isSeat
theorem kcX12_stir : (cX12_stir).data.toList = cbs 0xac020400a72e601c681b07101100b42a110099cb00b61c2a190099cf00b61b2a 32 := by decide +kernel
theorem dX12_stir_0 : decode cX12_stir 0 = .ok (.aload_n 0, 1) := op_42 kcX12_stir (Nat.le_of_ble_eq_true rfl) rfl
theorem dX12_stir_1 : decode cX12_stir 1 = .ok (.iload_n 1, 1) := op_27 kcX12_stir (Nat.le_of_ble_eq_true rfl) rfl
theorem dX12_stir_2 : decode cX12_stir 2 = .ok (.invokevirtual 207, 3) := op_182 (a := 0) (b := 207) kcX12_stir (Nat.le_of_ble_eq_true rfl) rfl rfl rfl
theorem dX12_stir_5 : decode cX12_stir 5 = .ok (.ifCond .eq 25, 3) := op_153 (a := 0) (b := 25) kcX12_stir (Nat.le_of_ble_eq_true rfl) rfl rfl rfl (by decide)
theorem dX12_stir_8 : decode cX12_stir 8 = .ok (.aload_n 0, 1) := op_42 kcX12_stir (Nat.le_of_ble_eq_true rfl) rfl
theorem dX12_stir_9 : decode cX12_stir 9 = .ok (.iload_n 2, 1) := op_28 kcX12_stir (Nat.le_of_ble_eq_true rfl) rfl
theorem dX12_stir_10 : decode cX12_stir 10 = .ok (.invokevirtual 203, 3) := op_182 (a := 0) (b := 203) kcX12_stir (Nat.le_of_ble_eq_true rfl) rfl rfl rfl
theorem dX12_stir_13 : decode cX12_stir 13 = .ok (.ifCond .eq 17, 3) := op_153 (a := 0) (b := 17) kcX12_stir (Nat.le_of_ble_eq_true rfl) rfl rfl rfl (by decide)
theorem dX12_stir_16 : decode cX12_stir 16 = .ok (.aload_n 0, 1) := op_42 kcX12_stir (Nat.le_of_ble_eq_true rfl) rfl
theorem dX12_stir_17 : decode cX12_stir 17 = .ok (.getfield 17, 3) := op_180 (a := 0) (b := 17) kcX12_stir (Nat.le_of_ble_eq_true rfl) rfl rfl rfl
theorem dX12_stir_20 : decode cX12_stir 20 = .ok (.bipush 7, 2) := op_16 (a := 7) kcX12_stir (Nat.le_of_ble_eq_true rfl) rfl rfl (by decide)
theorem dX12_stir_22 : decode cX12_stir 22 = .ok (.iload_n 1, 1) := op_27 kcX12_stir (Nat.le_of_ble_eq_true rfl) rfl
theorem dX12_stir_23 : decode cX12_stir 23 = .ok (.imul, 1) := op_104 kcX12_stir (Nat.le_of_ble_eq_true rfl) rfl
theorem dX12_stir_24 : decode cX12_stir 24 = .ok (.iload_n 2, 1) := op_28 kcX12_stir (Nat.le_of_ble_eq_true rfl) rfl
theorem dX12_stir_25 : decode cX12_stir 25 = .ok (.iadd, 1) := op_96 kcX12_stir (Nat.le_of_ble_eq_true rfl) rfl
theorem dX12_stir_26 : decode cX12_stir 26 = .ok (.iaload, 1) := op_46 kcX12_stir (Nat.le_of_ble_eq_true rfl) rfl
theorem dX12_stir_27 : decode cX12_stir 27 = .ok (.goto 4, 3) := op_167 (a := 0) (b := 4) kcX12_stir (Nat.le_of_ble_eq_true rfl) rfl rfl rfl (by decide)
theorem dX12_stir_30 : decode cX12_stir 30 = .ok (.iconst (-1), 1) := op_2 kcX12_stir (Nat.le_of_ble_eq_true rfl) rfl
theorem dX12_stir_31 : decode cX12_stir 31 = .ok (.ireturn, 1) := op_172 kcX12_stir (Nat.le_of_ble_eq_true rfl) rfl
set_option maxRecDepth 20000 in
theorem ggX12_befriend_X12_isSeat : GoodIn wsX12_befriend wsX12_isSeat := goodIn_r _ [6, 7, 8, 9, 5, 10, 11, 12, 13, 14, 15, 16, 17, 18, 19, 20, 21, 22, 23, 24, 25, 26, 27, 28, 29, 30, 31, 32, 33, 34, 35, 36, 37, 38, 39, 40, 41, 42, 43, 44, 45, 46, 47] rfl gw_wsX12_isSeat
set_option maxRecDepth 20000 in
theorem gX12_befriend_X12_isSeat : GoodIn wsX12_befriend (wsV RX12 203 RX12 yX12_isSeat wsX12_isSeat) := goodIn_app (goodIn_of _ (by decide +kernel)) ggX12_befriend_X12_isSeat
theorem kcX12_befriend : (cX12_befriend).data.toList = cbs 0xac04154f7e8202781c042e601b09100700b42a1200a780781c042e601b09100700b42a1300991d601b09100700b42a04367e047a1c2e601b09100700b42aac020500a01c1b080099cb00b61c2a100099cb00b61b2a 85 := by decide +kernel
theorem dX12_befriend_0 : decode cX12_befriend 0 = .ok (.aload_n 0, 1) := op_42 kcX12_befriend (Nat.le_of_ble_eq_true rfl) rfl
theorem dX12_befriend_1 : decode cX12_befriend 1 = .ok (.iload_n 1, 1) := op_27 kcX12_befriend (Nat.le_of_ble_eq_true rfl) rfl
theorem dX12_befriend_2 : decode cX12_befriend 2 = .ok (.invokevirtual 203, 3) := op_182 (a := 0) (b := 203) kcX12_befriend (Nat.le_of_ble_eq_true rfl) rfl rfl rfl
theorem dX12_befriend_5 : decode cX12_befriend 5 = .ok (.ifCond .eq 16, 3) := op_153 (a := 0) (b := 16) kcX12_befriend (Nat.le_of_ble_eq_true rfl) rfl rfl rfl (by decide)
theorem dX12_befriend_8 : decode cX12_befriend 8 = .ok (.aload_n 0, 1) := op_42 kcX12_befriend (Nat.le_of_ble_eq_true rfl) rfl
theorem dX12_befriend_9 : decode cX12_befriend 9 = .ok (.iload_n 2, 1) := op_28 kcX12_befriend (Nat.le_of_ble_eq_true rfl) rfl
theorem dX12_befriend_10 : decode cX12_befriend 10 = .ok (.invokevirtual 203, 3) := op_182 (a := 0) (b := 203) kcX12_befriend (Nat.le_of_ble_eq_true rfl) rfl rfl rfl
theorem dX12_befriend_13 : decode cX12_befriend 13 = .ok (.ifCond .eq 8, 3) := op_153 (a := 0) (b := 8) kcX12_befriend (Nat.le_of_ble_eq_true rfl) rfl rfl rfl (by decide)
theorem dX12_befriend_16 : decode cX12_befriend 16 = .ok (.iload_n 1, 1) := op_27 kcX12_befriend (Nat.le_of_ble_eq_true rfl) rfl
theorem dX12_befriend_17 : decode cX12_befriend 17 = .ok (.iload_n 2, 1) := op_28 kcX12_befriend (Nat.le_of_ble_eq_true rfl) rfl
theorem dX12_befriend_18 : decode cX12_befriend 18 = .ok (.if_icmp .ne 5, 3) := op_160 (a := 0) (b := 5) kcX12_befriend (Nat.le_of_ble_eq_true rfl) rfl rfl rfl (by decide)
theorem dX12_befriend_21 : decode cX12_befriend 21 = .ok (.iconst (-1), 1) := op_2 kcX12_befriend (Nat.le_of_ble_eq_true rfl) rfl
theorem dX12_befriend_22 : decode cX12_befriend 22 = .ok (.ireturn, 1) := op_172 kcX12_befriend (Nat.le_of_ble_eq_true rfl) rfl
theorem dX12_befriend_23 : decode cX12_befriend 23 = .ok (.aload_n 0, 1) := op_42 kcX12_befriend (Nat.le_of_ble_eq_true rfl) rfl
theorem dX12_befriend_24 : decode cX12_befriend 24 = .ok (.getfield 7, 3) := op_180 (a := 0) (b := 7) kcX12_befriend (Nat.le_of_ble_eq_true rfl) rfl rfl rfl
theorem dX12_befriend_27 : decode cX12_befriend 27 = .ok (.bipush 9, 2) := op_16 (a := 9) kcX12_befriend (Nat.le_of_ble_eq_true rfl) rfl rfl (by decide)
theorem dX12_befriend_29 : decode cX12_befriend 29 = .ok (.iload_n 1, 1) := op_27 kcX12_befriend (Nat.le_of_ble_eq_true rfl) rfl
theorem dX12_befriend_30 : decode cX12_befriend 30 = .ok (.iadd, 1) := op_96 kcX12_befriend (Nat.le_of_ble_eq_true rfl) rfl
theorem dX12_befriend_31 : decode cX12_befriend 31 = .ok (.iaload, 1) := op_46 kcX12_befriend (Nat.le_of_ble_eq_true rfl) rfl
theorem dX12_befriend_32 : decode cX12_befriend 32 = .ok (.iload_n 2, 1) := op_28 kcX12_befriend (Nat.le_of_ble_eq_true rfl) rfl
theorem dX12_befriend_33 : decode cX12_befriend 33 = .ok (.ishr, 1) := op_122 kcX12_befriend (Nat.le_of_ble_eq_true rfl) rfl
theorem dX12_befriend_34 : decode cX12_befriend 34 = .ok (.iconst 1, 1) := op_4 kcX12_befriend (Nat.le_of_ble_eq_true rfl) rfl
theorem dX12_befriend_35 : decode cX12_befriend 35 = .ok (.iand, 1) := op_126 kcX12_befriend (Nat.le_of_ble_eq_true rfl) rfl
theorem dX12_befriend_36 : decode cX12_befriend 36 = .ok (.istore 4, 2) := op_54 (a := 4) kcX12_befriend (Nat.le_of_ble_eq_true rfl) rfl rfl
theorem dX12_befriend_38 : decode cX12_befriend 38 = .ok (.aload_n 0, 1) := op_42 kcX12_befriend (Nat.le_of_ble_eq_true rfl) rfl
theorem dX12_befriend_39 : decode cX12_befriend 39 = .ok (.getfield 7, 3) := op_180 (a := 0) (b := 7) kcX12_befriend (Nat.le_of_ble_eq_true rfl) rfl rfl rfl
theorem dX12_befriend_42 : decode cX12_befriend 42 = .ok (.bipush 9, 2) := op_16 (a := 9) kcX12_befriend (Nat.le_of_ble_eq_true rfl) rfl rfl (by decide)
theorem dX12_befriend_44 : decode cX12_befriend 44 = .ok (.iload_n 1, 1) := op_27 kcX12_befriend (Nat.le_of_ble_eq_true rfl) rfl
theorem dX12_befriend_45 : decode cX12_befriend 45 = .ok (.iadd, 1) := op_96 kcX12_befriend (Nat.le_of_ble_eq_true rfl) rfl
theorem dX12_befriend_46 : decode cX12_befriend 46 = .ok (.iload_n 3, 1) := op_29 kcX12_befriend (Nat.le_of_ble_eq_true rfl) rfl
theorem dX12_befriend_47 : decode cX12_befriend 47 = .ok (.ifCond .eq 19, 3) := op_153 (a := 0) (b := 19) kcX12_befriend (Nat.le_of_ble_eq_true rfl) rfl rfl rfl (by decide)
theorem dX12_befriend_50 : decode cX12_befriend 50 = .ok (.aload_n 0, 1) := op_42 kcX12_befriend (Nat.le_of_ble_eq_true rfl) rfl
theorem dX12_befriend_51 : decode cX12_befriend 51 = .ok (.getfield 7, 3) := op_180 (a := 0) (b := 7) kcX12_befriend (Nat.le_of_ble_eq_true rfl) rfl rfl rfl
theorem dX12_befriend_54 : decode cX12_befriend 54 = .ok (.bipush 9, 2) := op_16 (a := 9) kcX12_befriend (Nat.le_of_ble_eq_true rfl) rfl rfl (by decide)
theorem dX12_befriend_56 : decode cX12_befriend 56 = .ok (.iload_n 1, 1) := op_27 kcX12_befriend (Nat.le_of_ble_eq_true rfl) rfl
theorem dX12_befriend_57 : decode cX12_befriend 57 = .ok (.iadd, 1) := op_96 kcX12_befriend (Nat.le_of_ble_eq_true rfl) rfl
theorem dX12_befriend_58 : decode cX12_befriend 58 = .ok (.iaload, 1) := op_46 kcX12_befriend (Nat.le_of_ble_eq_true rfl) rfl
theorem dX12_befriend_59 : decode cX12_befriend 59 = .ok (.iconst 1, 1) := op_4 kcX12_befriend (Nat.le_of_ble_eq_true rfl) rfl
theorem dX12_befriend_60 : decode cX12_befriend 60 = .ok (.iload_n 2, 1) := op_28 kcX12_befriend (Nat.le_of_ble_eq_true rfl) rfl
theorem dX12_befriend_61 : decode cX12_befriend 61 = .ok (.ishl, 1) := op_120 kcX12_befriend (Nat.le_of_ble_eq_true rfl) rfl
theorem dX12_befriend_62 : decode cX12_befriend 62 = .ok (.ior, 1) := op_128 kcX12_befriend (Nat.le_of_ble_eq_true rfl) rfl
theorem dX12_befriend_63 : decode cX12_befriend 63 = .ok (.goto 18, 3) := op_167 (a := 0) (b := 18) kcX12_befriend (Nat.le_of_ble_eq_true rfl) rfl rfl rfl (by decide)
theorem dX12_befriend_66 : decode cX12_befriend 66 = .ok (.aload_n 0, 1) := op_42 kcX12_befriend (Nat.le_of_ble_eq_true rfl) rfl
theorem dX12_befriend_67 : decode cX12_befriend 67 = .ok (.getfield 7, 3) := op_180 (a := 0) (b := 7) kcX12_befriend (Nat.le_of_ble_eq_true rfl) rfl rfl rfl
theorem dX12_befriend_70 : decode cX12_befriend 70 = .ok (.bipush 9, 2) := op_16 (a := 9) kcX12_befriend (Nat.le_of_ble_eq_true rfl) rfl rfl (by decide)
theorem dX12_befriend_72 : decode cX12_befriend 72 = .ok (.iload_n 1, 1) := op_27 kcX12_befriend (Nat.le_of_ble_eq_true rfl) rfl
theorem dX12_befriend_73 : decode cX12_befriend 73 = .ok (.iadd, 1) := op_96 kcX12_befriend (Nat.le_of_ble_eq_true rfl) rfl
theorem dX12_befriend_74 : decode cX12_befriend 74 = .ok (.iaload, 1) := op_46 kcX12_befriend (Nat.le_of_ble_eq_true rfl) rfl
theorem dX12_befriend_75 : decode cX12_befriend 75 = .ok (.iconst 1, 1) := op_4 kcX12_befriend (Nat.le_of_ble_eq_true rfl) rfl
theorem dX12_befriend_76 : decode cX12_befriend 76 = .ok (.iload_n 2, 1) := op_28 kcX12_befriend (Nat.le_of_ble_eq_true rfl) rfl
theorem dX12_befriend_77 : decode cX12_befriend 77 = .ok (.ishl, 1) := op_120 kcX12_befriend (Nat.le_of_ble_eq_true rfl) rfl
theorem dX12_befriend_78 : decode cX12_befriend 78 = .ok (.iconst (-1), 1) := op_2 kcX12_befriend (Nat.le_of_ble_eq_true rfl) rfl
theorem dX12_befriend_79 : decode cX12_befriend 79 = .ok (.ixor, 1) := op_130 kcX12_befriend (Nat.le_of_ble_eq_true rfl) rfl
theorem dX12_befriend_80 : decode cX12_befriend 80 = .ok (.iand, 1) := op_126 kcX12_befriend (Nat.le_of_ble_eq_true rfl) rfl
theorem dX12_befriend_81 : decode cX12_befriend 81 = .ok (.iastore, 1) := op_79 kcX12_befriend (Nat.le_of_ble_eq_true rfl) rfl
theorem dX12_befriend_82 : decode cX12_befriend 82 = .ok (.iload 4, 2) := op_21 (a := 4) kcX12_befriend (Nat.le_of_ble_eq_true rfl) rfl rfl
theorem dX12_befriend_84 : decode cX12_befriend 84 = .ok (.ireturn, 1) := op_172 kcX12_befriend (Nat.le_of_ble_eq_true rfl) rfl
set_option maxRecDepth 20000 in
theorem ggX12_spoon_X12_isSeat : GoodIn wsX12_spoon wsX12_isSeat := goodIn_r _ [7, 8, 9, 10, 6, 11, 12, 13, 14, 15, 16, 17, 18, 19, 20, 21, 22, 23, 24, 25, 26, 27, 28, 29, 30, 31, 32, 33, 34, 35, 36, 37, 38, 39, 40, 41, 42, 43, 44, 45, 46, 47, 48] rfl gw_wsX12_isSeat
set_option maxRecDepth 20000 in
theorem gX12_spoon_X12_isSeat : GoodIn wsX12_spoon (wsV RX12 203 RX12 yX12_isSeat wsX12_isSeat) := goodIn_app (goodIn_of _ (by decide +kernel)) ggX12_spoon_X12_isSeat
set_option maxRecDepth 20000 in
theorem ggX12_spoon_X12_in : GoodIn wsX12_spoon wsX12_in := goodIn_r _ [11] rfl gw_wsX12_in
set_option maxRecDepth 20000 in
theorem gX12_spoon_X12_in : GoodIn wsX12_spoon (va_wsS RX12 115 yX12_in wsX12_in) := goodIn_app (goodIn_of _ (by decide +kernel)) ggX12_spoon_X12_in
theorem kcX12_spoon : (cX12_spoon).data.toList = cbs 0xac1d4f1c601b10100700b42a3e2e601b10100700b42aac0205009a7300b8d200140a851c0f0099cb00b61b2a 44 := by decide +kernel
theorem dX12_spoon_0 : decode cX12_spoon 0 = .ok (.aload_n 0, 1) := op_42 kcX12_spoon (Nat.le_of_ble_eq_true rfl) rfl
theorem dX12_spoon_1 : decode cX12_spoon 1 = .ok (.iload_n 1, 1) := op_27 kcX12_spoon (Nat.le_of_ble_eq_true rfl) rfl
theorem dX12_spoon_2 : decode cX12_spoon 2 = .ok (.invokevirtual 203, 3) := op_182 (a := 0) (b := 203) kcX12_spoon (Nat.le_of_ble_eq_true rfl) rfl rfl rfl
theorem dX12_spoon_5 : decode cX12_spoon 5 = .ok (.ifCond .eq 15, 3) := op_153 (a := 0) (b := 15) kcX12_spoon (Nat.le_of_ble_eq_true rfl) rfl rfl rfl (by decide)
theorem dX12_spoon_8 : decode cX12_spoon 8 = .ok (.iload_n 2, 1) := op_28 kcX12_spoon (Nat.le_of_ble_eq_true rfl) rfl
theorem dX12_spoon_9 : decode cX12_spoon 9 = .ok (.i2l, 1) := op_133 kcX12_spoon (Nat.le_of_ble_eq_true rfl) rfl
theorem dX12_spoon_10 : decode cX12_spoon 10 = .ok (.lconst 1, 1) := op_10 kcX12_spoon (Nat.le_of_ble_eq_true rfl) rfl
theorem dX12_spoon_11 : decode cX12_spoon 11 = .ok (.ldc2_w 210, 3) := op_20 (a := 0) (b := 210) kcX12_spoon (Nat.le_of_ble_eq_true rfl) rfl rfl rfl
theorem dX12_spoon_14 : decode cX12_spoon 14 = .ok (.invokestatic 115, 3) := op_184 (a := 0) (b := 115) kcX12_spoon (Nat.le_of_ble_eq_true rfl) rfl rfl rfl
theorem dX12_spoon_17 : decode cX12_spoon 17 = .ok (.ifCond .ne 5, 3) := op_154 (a := 0) (b := 5) kcX12_spoon (Nat.le_of_ble_eq_true rfl) rfl rfl rfl (by decide)
theorem dX12_spoon_20 : decode cX12_spoon 20 = .ok (.iconst (-1), 1) := op_2 kcX12_spoon (Nat.le_of_ble_eq_true rfl) rfl
theorem dX12_spoon_21 : decode cX12_spoon 21 = .ok (.ireturn, 1) := op_172 kcX12_spoon (Nat.le_of_ble_eq_true rfl) rfl
theorem dX12_spoon_22 : decode cX12_spoon 22 = .ok (.aload_n 0, 1) := op_42 kcX12_spoon (Nat.le_of_ble_eq_true rfl) rfl
theorem dX12_spoon_23 : decode cX12_spoon 23 = .ok (.getfield 7, 3) := op_180 (a := 0) (b := 7) kcX12_spoon (Nat.le_of_ble_eq_true rfl) rfl rfl rfl
theorem dX12_spoon_26 : decode cX12_spoon 26 = .ok (.bipush 16, 2) := op_16 (a := 16) kcX12_spoon (Nat.le_of_ble_eq_true rfl) rfl rfl (by decide)
theorem dX12_spoon_28 : decode cX12_spoon 28 = .ok (.iload_n 1, 1) := op_27 kcX12_spoon (Nat.le_of_ble_eq_true rfl) rfl
theorem dX12_spoon_29 : decode cX12_spoon 29 = .ok (.iadd, 1) := op_96 kcX12_spoon (Nat.le_of_ble_eq_true rfl) rfl
theorem dX12_spoon_30 : decode cX12_spoon 30 = .ok (.iaload, 1) := op_46 kcX12_spoon (Nat.le_of_ble_eq_true rfl) rfl
theorem dX12_spoon_31 : decode cX12_spoon 31 = .ok (.istore_n 3, 1) := op_62 kcX12_spoon (Nat.le_of_ble_eq_true rfl) rfl
theorem dX12_spoon_32 : decode cX12_spoon 32 = .ok (.aload_n 0, 1) := op_42 kcX12_spoon (Nat.le_of_ble_eq_true rfl) rfl
theorem dX12_spoon_33 : decode cX12_spoon 33 = .ok (.getfield 7, 3) := op_180 (a := 0) (b := 7) kcX12_spoon (Nat.le_of_ble_eq_true rfl) rfl rfl rfl
theorem dX12_spoon_36 : decode cX12_spoon 36 = .ok (.bipush 16, 2) := op_16 (a := 16) kcX12_spoon (Nat.le_of_ble_eq_true rfl) rfl rfl (by decide)
theorem dX12_spoon_38 : decode cX12_spoon 38 = .ok (.iload_n 1, 1) := op_27 kcX12_spoon (Nat.le_of_ble_eq_true rfl) rfl
theorem dX12_spoon_39 : decode cX12_spoon 39 = .ok (.iadd, 1) := op_96 kcX12_spoon (Nat.le_of_ble_eq_true rfl) rfl
theorem dX12_spoon_40 : decode cX12_spoon 40 = .ok (.iload_n 2, 1) := op_28 kcX12_spoon (Nat.le_of_ble_eq_true rfl) rfl
theorem dX12_spoon_41 : decode cX12_spoon 41 = .ok (.iastore, 1) := op_79 kcX12_spoon (Nat.le_of_ble_eq_true rfl) rfl
theorem dX12_spoon_42 : decode cX12_spoon 42 = .ok (.iload_n 3, 1) := op_29 kcX12_spoon (Nat.le_of_ble_eq_true rfl) rfl
theorem dX12_spoon_43 : decode cX12_spoon 43 = .ok (.ireturn, 1) := op_172 kcX12_spoon (Nat.le_of_ble_eq_true rfl) rfl
set_option maxRecDepth 20000 in
theorem ggX12_crown_X12_isSeat : GoodIn wsX12_crown wsX12_isSeat := goodIn_r _ [6, 7, 8, 9, 5, 10, 11, 12, 13, 14, 15, 16, 17, 18, 19, 20, 21, 22, 23, 24, 25, 26, 27, 28, 29, 30, 31, 32, 33, 34, 35, 36, 37, 38, 39, 40, 41, 42, 43, 44, 45, 46, 47] rfl gw_wsX12_isSeat
set_option maxRecDepth 20000 in
theorem gX12_crown_X12_isSeat : GoodIn wsX12_crown (wsV RX12 203 RX12 yX12_isSeat wsX12_isSeat) := goodIn_app (goodIn_of _ (by decide +kernel)) ggX12_crown_X12_isSeat
theorem kcX12_crown : (cX12_crown).data.toList = cbs 0xac1c4f1b08100700b42a3d2e08100700b42aac0205009acb00b61b2a 28 := by decide +kernel
theorem dX12_crown_0 : decode cX12_crown 0 = .ok (.aload_n 0, 1) := op_42 kcX12_crown (Nat.le_of_ble_eq_true rfl) rfl
theorem dX12_crown_1 : decode cX12_crown 1 = .ok (.iload_n 1, 1) := op_27 kcX12_crown (Nat.le_of_ble_eq_true rfl) rfl
theorem dX12_crown_2 : decode cX12_crown 2 = .ok (.invokevirtual 203, 3) := op_182 (a := 0) (b := 203) kcX12_crown (Nat.le_of_ble_eq_true rfl) rfl rfl rfl
theorem dX12_crown_5 : decode cX12_crown 5 = .ok (.ifCond .ne 5, 3) := op_154 (a := 0) (b := 5) kcX12_crown (Nat.le_of_ble_eq_true rfl) rfl rfl rfl (by decide)
theorem dX12_crown_8 : decode cX12_crown 8 = .ok (.iconst (-1), 1) := op_2 kcX12_crown (Nat.le_of_ble_eq_true rfl) rfl
theorem dX12_crown_9 : decode cX12_crown 9 = .ok (.ireturn, 1) := op_172 kcX12_crown (Nat.le_of_ble_eq_true rfl) rfl
theorem dX12_crown_10 : decode cX12_crown 10 = .ok (.aload_n 0, 1) := op_42 kcX12_crown (Nat.le_of_ble_eq_true rfl) rfl
theorem dX12_crown_11 : decode cX12_crown 11 = .ok (.getfield 7, 3) := op_180 (a := 0) (b := 7) kcX12_crown (Nat.le_of_ble_eq_true rfl) rfl rfl rfl
theorem dX12_crown_14 : decode cX12_crown 14 = .ok (.bipush 8, 2) := op_16 (a := 8) kcX12_crown (Nat.le_of_ble_eq_true rfl) rfl rfl (by decide)
theorem dX12_crown_16 : decode cX12_crown 16 = .ok (.iaload, 1) := op_46 kcX12_crown (Nat.le_of_ble_eq_true rfl) rfl
theorem dX12_crown_17 : decode cX12_crown 17 = .ok (.istore_n 2, 1) := op_61 kcX12_crown (Nat.le_of_ble_eq_true rfl) rfl
theorem dX12_crown_18 : decode cX12_crown 18 = .ok (.aload_n 0, 1) := op_42 kcX12_crown (Nat.le_of_ble_eq_true rfl) rfl
theorem dX12_crown_19 : decode cX12_crown 19 = .ok (.getfield 7, 3) := op_180 (a := 0) (b := 7) kcX12_crown (Nat.le_of_ble_eq_true rfl) rfl rfl rfl
theorem dX12_crown_22 : decode cX12_crown 22 = .ok (.bipush 8, 2) := op_16 (a := 8) kcX12_crown (Nat.le_of_ble_eq_true rfl) rfl rfl (by decide)
theorem dX12_crown_24 : decode cX12_crown 24 = .ok (.iload_n 1, 1) := op_27 kcX12_crown (Nat.le_of_ble_eq_true rfl) rfl
theorem dX12_crown_25 : decode cX12_crown 25 = .ok (.iastore, 1) := op_79 kcX12_crown (Nat.le_of_ble_eq_true rfl) rfl
theorem dX12_crown_26 : decode cX12_crown 26 = .ok (.iload_n 2, 1) := op_28 kcX12_crown (Nat.le_of_ble_eq_true rfl) rfl
theorem dX12_crown_27 : decode cX12_crown 27 = .ok (.ireturn, 1) := op_172 kcX12_crown (Nat.le_of_ble_eq_true rfl) rfl
set_option maxRecDepth 20000 in
theorem ggX12_fill_X12_isSeat : GoodIn wsX12_fill wsX12_isSeat := goodIn_r _ [7, 8, 9, 10, 6, 11, 12, 13, 14, 15, 16, 17, 18, 19, 20, 21, 22, 23, 24, 25, 26, 27, 28, 29, 30, 31, 32, 33, 34, 35, 36, 37, 38, 39, 40, 41, 42, 43, 44, 45, 46, 47, 48] rfl gw_wsX12_isSeat
set_option maxRecDepth 20000 in
theorem gX12_fill_X12_isSeat : GoodIn wsX12_fill (wsV RX12 203 RX12 yX12_isSeat wsX12_isSeat) := goodIn_app (goodIn_of _ (by decide +kernel)) ggX12_fill_X12_isSeat
set_option maxRecDepth 20000 in
theorem ggX12_fill_X12_in : GoodIn wsX12_fill wsX12_in := goodIn_r _ [11] rfl gw_wsX12_in
set_option maxRecDepth 20000 in
theorem gX12_fill_X12_in : GoodIn wsX12_fill (va_wsS RX12 115 yX12_in wsX12_in) := goodIn_app (goodIn_of _ (by decide +kernel)) ggX12_fill_X12_in
theorem kcX12_fill : (cX12_fill).data.toList = cbs 0xac1d4f1c1b0700b42a3e2e1b0700b42aac0205009a7300b8d2001409851c0f0099cb00b61b2a 38 := by decide +kernel
theorem dX12_fill_0 : decode cX12_fill 0 = .ok (.aload_n 0, 1) := op_42 kcX12_fill (Nat.le_of_ble_eq_true rfl) rfl
theorem dX12_fill_1 : decode cX12_fill 1 = .ok (.iload_n 1, 1) := op_27 kcX12_fill (Nat.le_of_ble_eq_true rfl) rfl
theorem dX12_fill_2 : decode cX12_fill 2 = .ok (.invokevirtual 203, 3) := op_182 (a := 0) (b := 203) kcX12_fill (Nat.le_of_ble_eq_true rfl) rfl rfl rfl
theorem dX12_fill_5 : decode cX12_fill 5 = .ok (.ifCond .eq 15, 3) := op_153 (a := 0) (b := 15) kcX12_fill (Nat.le_of_ble_eq_true rfl) rfl rfl rfl (by decide)
theorem dX12_fill_8 : decode cX12_fill 8 = .ok (.iload_n 2, 1) := op_28 kcX12_fill (Nat.le_of_ble_eq_true rfl) rfl
theorem dX12_fill_9 : decode cX12_fill 9 = .ok (.i2l, 1) := op_133 kcX12_fill (Nat.le_of_ble_eq_true rfl) rfl
theorem dX12_fill_10 : decode cX12_fill 10 = .ok (.lconst 0, 1) := op_9 kcX12_fill (Nat.le_of_ble_eq_true rfl) rfl
theorem dX12_fill_11 : decode cX12_fill 11 = .ok (.ldc2_w 210, 3) := op_20 (a := 0) (b := 210) kcX12_fill (Nat.le_of_ble_eq_true rfl) rfl rfl rfl
theorem dX12_fill_14 : decode cX12_fill 14 = .ok (.invokestatic 115, 3) := op_184 (a := 0) (b := 115) kcX12_fill (Nat.le_of_ble_eq_true rfl) rfl rfl rfl
theorem dX12_fill_17 : decode cX12_fill 17 = .ok (.ifCond .ne 5, 3) := op_154 (a := 0) (b := 5) kcX12_fill (Nat.le_of_ble_eq_true rfl) rfl rfl rfl (by decide)
theorem dX12_fill_20 : decode cX12_fill 20 = .ok (.iconst (-1), 1) := op_2 kcX12_fill (Nat.le_of_ble_eq_true rfl) rfl
theorem dX12_fill_21 : decode cX12_fill 21 = .ok (.ireturn, 1) := op_172 kcX12_fill (Nat.le_of_ble_eq_true rfl) rfl
theorem dX12_fill_22 : decode cX12_fill 22 = .ok (.aload_n 0, 1) := op_42 kcX12_fill (Nat.le_of_ble_eq_true rfl) rfl
theorem dX12_fill_23 : decode cX12_fill 23 = .ok (.getfield 7, 3) := op_180 (a := 0) (b := 7) kcX12_fill (Nat.le_of_ble_eq_true rfl) rfl rfl rfl
theorem dX12_fill_26 : decode cX12_fill 26 = .ok (.iload_n 1, 1) := op_27 kcX12_fill (Nat.le_of_ble_eq_true rfl) rfl
theorem dX12_fill_27 : decode cX12_fill 27 = .ok (.iaload, 1) := op_46 kcX12_fill (Nat.le_of_ble_eq_true rfl) rfl
theorem dX12_fill_28 : decode cX12_fill 28 = .ok (.istore_n 3, 1) := op_62 kcX12_fill (Nat.le_of_ble_eq_true rfl) rfl
theorem dX12_fill_29 : decode cX12_fill 29 = .ok (.aload_n 0, 1) := op_42 kcX12_fill (Nat.le_of_ble_eq_true rfl) rfl
theorem dX12_fill_30 : decode cX12_fill 30 = .ok (.getfield 7, 3) := op_180 (a := 0) (b := 7) kcX12_fill (Nat.le_of_ble_eq_true rfl) rfl rfl rfl
theorem dX12_fill_33 : decode cX12_fill 33 = .ok (.iload_n 1, 1) := op_27 kcX12_fill (Nat.le_of_ble_eq_true rfl) rfl
theorem dX12_fill_34 : decode cX12_fill 34 = .ok (.iload_n 2, 1) := op_28 kcX12_fill (Nat.le_of_ble_eq_true rfl) rfl
theorem dX12_fill_35 : decode cX12_fill 35 = .ok (.iastore, 1) := op_79 kcX12_fill (Nat.le_of_ble_eq_true rfl) rfl
theorem dX12_fill_36 : decode cX12_fill 36 = .ok (.iload_n 3, 1) := op_29 kcX12_fill (Nat.le_of_ble_eq_true rfl) rfl
theorem dX12_fill_37 : decode cX12_fill 37 = .ok (.ireturn, 1) := op_172 kcX12_fill (Nat.le_of_ble_eq_true rfl) rfl
set_option maxRecDepth 20000 in
theorem gw_wsX12_flag : (wsX12_flag).all goodWord = true := by decide +kernel
set_option maxRecDepth 20000 in
theorem ggX12_findPlaces_X12_flag : GoodIn wsX12_findPlaces wsX12_flag := goodIn_r _ [7] rfl gw_wsX12_flag
set_option maxRecDepth 20000 in
theorem gX12_findPlaces_X12_flag : GoodIn wsX12_findPlaces (va_wsS RX12 212 yX12_flag wsX12_flag) := goodIn_app (goodIn_of _ (by decide +kernel)) ggX12_findPlaces_X12_flag
theorem kcX12_findPlaces : (cX12_findPlaces).data.toList = cbs 0xb1a1ffa70104843d60d400b8030400a70407009a06151c3e64d400b806151d4f1c0400a71d070099061505152300b42a0636030400a7040700a0047e047a05152e601b09100700b42a15009f1b05150536706400b42a6004151b5c00a26400b42a04150436033e64046400b42a3d03 111 := by decide +kernel
theorem dX12_findPlaces_0 : decode cX12_findPlaces 0 = .ok (.iconst 0, 1) := op_3 kcX12_findPlaces (Nat.le_of_ble_eq_true rfl) rfl
theorem dX12_findPlaces_1 : decode cX12_findPlaces 1 = .ok (.istore_n 2, 1) := op_61 kcX12_findPlaces (Nat.le_of_ble_eq_true rfl) rfl
theorem dX12_findPlaces_2 : decode cX12_findPlaces 2 = .ok (.aload_n 0, 1) := op_42 kcX12_findPlaces (Nat.le_of_ble_eq_true rfl) rfl
theorem dX12_findPlaces_3 : decode cX12_findPlaces 3 = .ok (.getfield 100, 3) := op_180 (a := 0) (b := 100) kcX12_findPlaces (Nat.le_of_ble_eq_true rfl) rfl rfl rfl
theorem dX12_findPlaces_6 : decode cX12_findPlaces 6 = .ok (.iconst 1, 1) := op_4 kcX12_findPlaces (Nat.le_of_ble_eq_true rfl) rfl
theorem dX12_findPlaces_7 : decode cX12_findPlaces 7 = .ok (.isub, 1) := op_100 kcX12_findPlaces (Nat.le_of_ble_eq_true rfl) rfl
theorem dX12_findPlaces_8 : decode cX12_findPlaces 8 = .ok (.istore_n 3, 1) := op_62 kcX12_findPlaces (Nat.le_of_ble_eq_true rfl) rfl
theorem dX12_findPlaces_9 : decode cX12_findPlaces 9 = .ok (.iconst 0, 1) := op_3 kcX12_findPlaces (Nat.le_of_ble_eq_true rfl) rfl
theorem dX12_findPlaces_10 : decode cX12_findPlaces 10 = .ok (.istore 4, 2) := op_54 (a := 4) kcX12_findPlaces (Nat.le_of_ble_eq_true rfl) rfl rfl
theorem dX12_findPlaces_12 : decode cX12_findPlaces 12 = .ok (.iload 4, 2) := op_21 (a := 4) kcX12_findPlaces (Nat.le_of_ble_eq_true rfl) rfl rfl
theorem dX12_findPlaces_14 : decode cX12_findPlaces 14 = .ok (.aload_n 0, 1) := op_42 kcX12_findPlaces (Nat.le_of_ble_eq_true rfl) rfl
theorem dX12_findPlaces_15 : decode cX12_findPlaces 15 = .ok (.getfield 100, 3) := op_180 (a := 0) (b := 100) kcX12_findPlaces (Nat.le_of_ble_eq_true rfl) rfl rfl rfl
theorem dX12_findPlaces_18 : decode cX12_findPlaces 18 = .ok (.if_icmp .ge 92, 3) := op_162 (a := 0) (b := 92) kcX12_findPlaces (Nat.le_of_ble_eq_true rfl) rfl rfl rfl (by decide)
theorem dX12_findPlaces_21 : decode cX12_findPlaces 21 = .ok (.iload_n 1, 1) := op_27 kcX12_findPlaces (Nat.le_of_ble_eq_true rfl) rfl
theorem dX12_findPlaces_22 : decode cX12_findPlaces 22 = .ok (.iload 4, 2) := op_21 (a := 4) kcX12_findPlaces (Nat.le_of_ble_eq_true rfl) rfl rfl
theorem dX12_findPlaces_24 : decode cX12_findPlaces 24 = .ok (.iadd, 1) := op_96 kcX12_findPlaces (Nat.le_of_ble_eq_true rfl) rfl
theorem dX12_findPlaces_25 : decode cX12_findPlaces 25 = .ok (.aload_n 0, 1) := op_42 kcX12_findPlaces (Nat.le_of_ble_eq_true rfl) rfl
theorem dX12_findPlaces_26 : decode cX12_findPlaces 26 = .ok (.getfield 100, 3) := op_180 (a := 0) (b := 100) kcX12_findPlaces (Nat.le_of_ble_eq_true rfl) rfl rfl rfl
theorem dX12_findPlaces_29 : decode cX12_findPlaces 29 = .ok (.irem, 1) := op_112 kcX12_findPlaces (Nat.le_of_ble_eq_true rfl) rfl
theorem dX12_findPlaces_30 : decode cX12_findPlaces 30 = .ok (.istore 5, 2) := op_54 (a := 5) kcX12_findPlaces (Nat.le_of_ble_eq_true rfl) rfl rfl
theorem dX12_findPlaces_32 : decode cX12_findPlaces 32 = .ok (.iload 5, 2) := op_21 (a := 5) kcX12_findPlaces (Nat.le_of_ble_eq_true rfl) rfl rfl
theorem dX12_findPlaces_34 : decode cX12_findPlaces 34 = .ok (.iload_n 1, 1) := op_27 kcX12_findPlaces (Nat.le_of_ble_eq_true rfl) rfl
theorem dX12_findPlaces_35 : decode cX12_findPlaces 35 = .ok (.if_icmp .eq 21, 3) := op_159 (a := 0) (b := 21) kcX12_findPlaces (Nat.le_of_ble_eq_true rfl) rfl rfl rfl (by decide)
theorem dX12_findPlaces_38 : decode cX12_findPlaces 38 = .ok (.aload_n 0, 1) := op_42 kcX12_findPlaces (Nat.le_of_ble_eq_true rfl) rfl
theorem dX12_findPlaces_39 : decode cX12_findPlaces 39 = .ok (.getfield 7, 3) := op_180 (a := 0) (b := 7) kcX12_findPlaces (Nat.le_of_ble_eq_true rfl) rfl rfl rfl
theorem dX12_findPlaces_42 : decode cX12_findPlaces 42 = .ok (.bipush 9, 2) := op_16 (a := 9) kcX12_findPlaces (Nat.le_of_ble_eq_true rfl) rfl rfl (by decide)
theorem dX12_findPlaces_44 : decode cX12_findPlaces 44 = .ok (.iload_n 1, 1) := op_27 kcX12_findPlaces (Nat.le_of_ble_eq_true rfl) rfl
theorem dX12_findPlaces_45 : decode cX12_findPlaces 45 = .ok (.iadd, 1) := op_96 kcX12_findPlaces (Nat.le_of_ble_eq_true rfl) rfl
theorem dX12_findPlaces_46 : decode cX12_findPlaces 46 = .ok (.iaload, 1) := op_46 kcX12_findPlaces (Nat.le_of_ble_eq_true rfl) rfl
theorem dX12_findPlaces_47 : decode cX12_findPlaces 47 = .ok (.iload 5, 2) := op_21 (a := 5) kcX12_findPlaces (Nat.le_of_ble_eq_true rfl) rfl rfl
theorem dX12_findPlaces_49 : decode cX12_findPlaces 49 = .ok (.ishr, 1) := op_122 kcX12_findPlaces (Nat.le_of_ble_eq_true rfl) rfl
theorem dX12_findPlaces_50 : decode cX12_findPlaces 50 = .ok (.iconst 1, 1) := op_4 kcX12_findPlaces (Nat.le_of_ble_eq_true rfl) rfl
theorem dX12_findPlaces_51 : decode cX12_findPlaces 51 = .ok (.iand, 1) := op_126 kcX12_findPlaces (Nat.le_of_ble_eq_true rfl) rfl
theorem dX12_findPlaces_52 : decode cX12_findPlaces 52 = .ok (.iconst 1, 1) := op_4 kcX12_findPlaces (Nat.le_of_ble_eq_true rfl) rfl
theorem dX12_findPlaces_53 : decode cX12_findPlaces 53 = .ok (.if_icmp .ne 7, 3) := op_160 (a := 0) (b := 7) kcX12_findPlaces (Nat.le_of_ble_eq_true rfl) rfl rfl rfl (by decide)
theorem dX12_findPlaces_56 : decode cX12_findPlaces 56 = .ok (.iconst 1, 1) := op_4 kcX12_findPlaces (Nat.le_of_ble_eq_true rfl) rfl
theorem dX12_findPlaces_57 : decode cX12_findPlaces 57 = .ok (.goto 4, 3) := op_167 (a := 0) (b := 4) kcX12_findPlaces (Nat.le_of_ble_eq_true rfl) rfl rfl rfl (by decide)
theorem dX12_findPlaces_60 : decode cX12_findPlaces 60 = .ok (.iconst 0, 1) := op_3 kcX12_findPlaces (Nat.le_of_ble_eq_true rfl) rfl
theorem dX12_findPlaces_61 : decode cX12_findPlaces 61 = .ok (.istore 6, 2) := op_54 (a := 6) kcX12_findPlaces (Nat.le_of_ble_eq_true rfl) rfl rfl
theorem dX12_findPlaces_63 : decode cX12_findPlaces 63 = .ok (.aload_n 0, 1) := op_42 kcX12_findPlaces (Nat.le_of_ble_eq_true rfl) rfl
theorem dX12_findPlaces_64 : decode cX12_findPlaces 64 = .ok (.getfield 35, 3) := op_180 (a := 0) (b := 35) kcX12_findPlaces (Nat.le_of_ble_eq_true rfl) rfl rfl rfl
theorem dX12_findPlaces_67 : decode cX12_findPlaces 67 = .ok (.iload 5, 2) := op_21 (a := 5) kcX12_findPlaces (Nat.le_of_ble_eq_true rfl) rfl rfl
theorem dX12_findPlaces_69 : decode cX12_findPlaces 69 = .ok (.iload 6, 2) := op_21 (a := 6) kcX12_findPlaces (Nat.le_of_ble_eq_true rfl) rfl rfl
theorem dX12_findPlaces_71 : decode cX12_findPlaces 71 = .ok (.ifCond .eq 7, 3) := op_153 (a := 0) (b := 7) kcX12_findPlaces (Nat.le_of_ble_eq_true rfl) rfl rfl rfl (by decide)
theorem dX12_findPlaces_74 : decode cX12_findPlaces 74 = .ok (.iload_n 3, 1) := op_29 kcX12_findPlaces (Nat.le_of_ble_eq_true rfl) rfl
theorem dX12_findPlaces_75 : decode cX12_findPlaces 75 = .ok (.goto 4, 3) := op_167 (a := 0) (b := 4) kcX12_findPlaces (Nat.le_of_ble_eq_true rfl) rfl rfl rfl (by decide)
theorem dX12_findPlaces_78 : decode cX12_findPlaces 78 = .ok (.iload_n 2, 1) := op_28 kcX12_findPlaces (Nat.le_of_ble_eq_true rfl) rfl
theorem dX12_findPlaces_79 : decode cX12_findPlaces 79 = .ok (.iastore, 1) := op_79 kcX12_findPlaces (Nat.le_of_ble_eq_true rfl) rfl
theorem dX12_findPlaces_80 : decode cX12_findPlaces 80 = .ok (.iload_n 3, 1) := op_29 kcX12_findPlaces (Nat.le_of_ble_eq_true rfl) rfl
theorem dX12_findPlaces_81 : decode cX12_findPlaces 81 = .ok (.iload 6, 2) := op_21 (a := 6) kcX12_findPlaces (Nat.le_of_ble_eq_true rfl) rfl rfl
theorem dX12_findPlaces_83 : decode cX12_findPlaces 83 = .ok (.invokestatic 212, 3) := op_184 (a := 0) (b := 212) kcX12_findPlaces (Nat.le_of_ble_eq_true rfl) rfl rfl rfl
theorem dX12_findPlaces_86 : decode cX12_findPlaces 86 = .ok (.isub, 1) := op_100 kcX12_findPlaces (Nat.le_of_ble_eq_true rfl) rfl
theorem dX12_findPlaces_87 : decode cX12_findPlaces 87 = .ok (.istore_n 3, 1) := op_62 kcX12_findPlaces (Nat.le_of_ble_eq_true rfl) rfl
theorem dX12_findPlaces_88 : decode cX12_findPlaces 88 = .ok (.iload_n 2, 1) := op_28 kcX12_findPlaces (Nat.le_of_ble_eq_true rfl) rfl
theorem dX12_findPlaces_89 : decode cX12_findPlaces 89 = .ok (.iload 6, 2) := op_21 (a := 6) kcX12_findPlaces (Nat.le_of_ble_eq_true rfl) rfl rfl
theorem dX12_findPlaces_91 : decode cX12_findPlaces 91 = .ok (.ifCond .ne 7, 3) := op_154 (a := 0) (b := 7) kcX12_findPlaces (Nat.le_of_ble_eq_true rfl) rfl rfl rfl (by decide)
theorem dX12_findPlaces_94 : decode cX12_findPlaces 94 = .ok (.iconst 1, 1) := op_4 kcX12_findPlaces (Nat.le_of_ble_eq_true rfl) rfl
theorem dX12_findPlaces_95 : decode cX12_findPlaces 95 = .ok (.goto 4, 3) := op_167 (a := 0) (b := 4) kcX12_findPlaces (Nat.le_of_ble_eq_true rfl) rfl rfl rfl (by decide)
theorem dX12_findPlaces_98 : decode cX12_findPlaces 98 = .ok (.iconst 0, 1) := op_3 kcX12_findPlaces (Nat.le_of_ble_eq_true rfl) rfl
theorem dX12_findPlaces_99 : decode cX12_findPlaces 99 = .ok (.invokestatic 212, 3) := op_184 (a := 0) (b := 212) kcX12_findPlaces (Nat.le_of_ble_eq_true rfl) rfl rfl rfl
theorem dX12_findPlaces_102 : decode cX12_findPlaces 102 = .ok (.iadd, 1) := op_96 kcX12_findPlaces (Nat.le_of_ble_eq_true rfl) rfl
theorem dX12_findPlaces_103 : decode cX12_findPlaces 103 = .ok (.istore_n 2, 1) := op_61 kcX12_findPlaces (Nat.le_of_ble_eq_true rfl) rfl
theorem dX12_findPlaces_104 : decode cX12_findPlaces 104 = .ok (.iinc 4 1, 3) := by decide +kernel
theorem dX12_findPlaces_107 : decode cX12_findPlaces 107 = .ok (.goto (-95), 3) := op_167 (a := 255) (b := 161) kcX12_findPlaces (Nat.le_of_ble_eq_true rfl) rfl rfl rfl (by decide)
theorem dX12_findPlaces_110 : decode cX12_findPlaces 110 = .ok (.return_, 1) := op_177 kcX12_findPlaces (Nat.le_of_ble_eq_true rfl) rfl
theorem kcX12_cameFrom : (cX12_cameFrom).data.toList = cbs 0xac1deeffa701038409009f1c2e601d681b07101100b42a3e03 25 := by decide +kernel
theorem dX12_cameFrom_0 : decode cX12_cameFrom 0 = .ok (.iconst 0, 1) := op_3 kcX12_cameFrom (Nat.le_of_ble_eq_true rfl) rfl
theorem dX12_cameFrom_1 : decode cX12_cameFrom 1 = .ok (.istore_n 3, 1) := op_62 kcX12_cameFrom (Nat.le_of_ble_eq_true rfl) rfl
theorem dX12_cameFrom_2 : decode cX12_cameFrom 2 = .ok (.aload_n 0, 1) := op_42 kcX12_cameFrom (Nat.le_of_ble_eq_true rfl) rfl
theorem dX12_cameFrom_3 : decode cX12_cameFrom 3 = .ok (.getfield 17, 3) := op_180 (a := 0) (b := 17) kcX12_cameFrom (Nat.le_of_ble_eq_true rfl) rfl rfl rfl
theorem dX12_cameFrom_6 : decode cX12_cameFrom 6 = .ok (.bipush 7, 2) := op_16 (a := 7) kcX12_cameFrom (Nat.le_of_ble_eq_true rfl) rfl rfl (by decide)
theorem dX12_cameFrom_8 : decode cX12_cameFrom 8 = .ok (.iload_n 1, 1) := op_27 kcX12_cameFrom (Nat.le_of_ble_eq_true rfl) rfl
theorem dX12_cameFrom_9 : decode cX12_cameFrom 9 = .ok (.imul, 1) := op_104 kcX12_cameFrom (Nat.le_of_ble_eq_true rfl) rfl
theorem dX12_cameFrom_10 : decode cX12_cameFrom 10 = .ok (.iload_n 3, 1) := op_29 kcX12_cameFrom (Nat.le_of_ble_eq_true rfl) rfl
theorem dX12_cameFrom_11 : decode cX12_cameFrom 11 = .ok (.iadd, 1) := op_96 kcX12_cameFrom (Nat.le_of_ble_eq_true rfl) rfl
theorem dX12_cameFrom_12 : decode cX12_cameFrom 12 = .ok (.iaload, 1) := op_46 kcX12_cameFrom (Nat.le_of_ble_eq_true rfl) rfl
theorem dX12_cameFrom_13 : decode cX12_cameFrom 13 = .ok (.iload_n 2, 1) := op_28 kcX12_cameFrom (Nat.le_of_ble_eq_true rfl) rfl
theorem dX12_cameFrom_14 : decode cX12_cameFrom 14 = .ok (.if_icmp .eq 9, 3) := op_159 (a := 0) (b := 9) kcX12_cameFrom (Nat.le_of_ble_eq_true rfl) rfl rfl rfl (by decide)
theorem dX12_cameFrom_17 : decode cX12_cameFrom 17 = .ok (.iinc 3 1, 3) := by decide +kernel
theorem dX12_cameFrom_20 : decode cX12_cameFrom 20 = .ok (.goto (-18), 3) := op_167 (a := 255) (b := 238) kcX12_cameFrom (Nat.le_of_ble_eq_true rfl) rfl rfl rfl (by decide)
theorem dX12_cameFrom_23 : decode cX12_cameFrom 23 = .ok (.iload_n 3, 1) := op_29 kcX12_cameFrom (Nat.le_of_ble_eq_true rfl) rfl
theorem dX12_cameFrom_24 : decode cX12_cameFrom 24 = .ok (.ireturn, 1) := op_172 kcX12_cameFrom (Nat.le_of_ble_eq_true rfl) rfl
set_option maxRecDepth 20000 in
theorem gw_wsX12_findPlaces : (wsX12_findPlaces).all goodWord = true := by decide +kernel
set_option maxRecDepth 20000 in
theorem ggX12_nextBy_X12_findPlaces : GoodIn wsX12_nextBy wsX12_findPlaces := goodIn_r _ [7, 8, 9, 1, 10, 11, 6, 12, 13, 14, 15, 16, 17, 18, 19, 20, 21, 22, 23, 24, 25, 26, 27, 28, 29, 30, 31, 32, 33, 34, 35, 36, 37, 38, 39, 40, 41, 42, 43, 44, 45, 46, 47, 48, 49] rfl gw_wsX12_findPlaces
set_option maxRecDepth 20000 in
theorem gX12_nextBy_X12_findPlaces : GoodIn wsX12_nextBy (wsV RX12 216 RX12 yX12_findPlaces wsX12_findPlaces) := goodIn_app (goodIn_of _ (by decide +kernel)) ggX12_nextBy_X12_findPlaces
theorem kcX12_nextBy : (cX12_nextBy).data.toList = cbs 0xac0415e8ffa701048409009f2e601d681c07101100b42a2e04152300b42a043603d800b61b2a 38 := by decide +kernel
theorem dX12_nextBy_0 : decode cX12_nextBy 0 = .ok (.aload_n 0, 1) := op_42 kcX12_nextBy (Nat.le_of_ble_eq_true rfl) rfl
theorem dX12_nextBy_1 : decode cX12_nextBy 1 = .ok (.iload_n 1, 1) := op_27 kcX12_nextBy (Nat.le_of_ble_eq_true rfl) rfl
theorem dX12_nextBy_2 : decode cX12_nextBy 2 = .ok (.invokevirtual 216, 3) := op_182 (a := 0) (b := 216) kcX12_nextBy (Nat.le_of_ble_eq_true rfl) rfl rfl rfl
theorem dX12_nextBy_5 : decode cX12_nextBy 5 = .ok (.iconst 0, 1) := op_3 kcX12_nextBy (Nat.le_of_ble_eq_true rfl) rfl
theorem dX12_nextBy_6 : decode cX12_nextBy 6 = .ok (.istore 4, 2) := op_54 (a := 4) kcX12_nextBy (Nat.le_of_ble_eq_true rfl) rfl rfl
theorem dX12_nextBy_8 : decode cX12_nextBy 8 = .ok (.aload_n 0, 1) := op_42 kcX12_nextBy (Nat.le_of_ble_eq_true rfl) rfl
theorem dX12_nextBy_9 : decode cX12_nextBy 9 = .ok (.getfield 35, 3) := op_180 (a := 0) (b := 35) kcX12_nextBy (Nat.le_of_ble_eq_true rfl) rfl rfl rfl
theorem dX12_nextBy_12 : decode cX12_nextBy 12 = .ok (.iload 4, 2) := op_21 (a := 4) kcX12_nextBy (Nat.le_of_ble_eq_true rfl) rfl rfl
theorem dX12_nextBy_14 : decode cX12_nextBy 14 = .ok (.iaload, 1) := op_46 kcX12_nextBy (Nat.le_of_ble_eq_true rfl) rfl
theorem dX12_nextBy_15 : decode cX12_nextBy 15 = .ok (.aload_n 0, 1) := op_42 kcX12_nextBy (Nat.le_of_ble_eq_true rfl) rfl
theorem dX12_nextBy_16 : decode cX12_nextBy 16 = .ok (.getfield 17, 3) := op_180 (a := 0) (b := 17) kcX12_nextBy (Nat.le_of_ble_eq_true rfl) rfl rfl rfl
theorem dX12_nextBy_19 : decode cX12_nextBy 19 = .ok (.bipush 7, 2) := op_16 (a := 7) kcX12_nextBy (Nat.le_of_ble_eq_true rfl) rfl rfl (by decide)
theorem dX12_nextBy_21 : decode cX12_nextBy 21 = .ok (.iload_n 2, 1) := op_28 kcX12_nextBy (Nat.le_of_ble_eq_true rfl) rfl
theorem dX12_nextBy_22 : decode cX12_nextBy 22 = .ok (.imul, 1) := op_104 kcX12_nextBy (Nat.le_of_ble_eq_true rfl) rfl
theorem dX12_nextBy_23 : decode cX12_nextBy 23 = .ok (.iload_n 3, 1) := op_29 kcX12_nextBy (Nat.le_of_ble_eq_true rfl) rfl
theorem dX12_nextBy_24 : decode cX12_nextBy 24 = .ok (.iadd, 1) := op_96 kcX12_nextBy (Nat.le_of_ble_eq_true rfl) rfl
theorem dX12_nextBy_25 : decode cX12_nextBy 25 = .ok (.iaload, 1) := op_46 kcX12_nextBy (Nat.le_of_ble_eq_true rfl) rfl
theorem dX12_nextBy_26 : decode cX12_nextBy 26 = .ok (.if_icmp .eq 9, 3) := op_159 (a := 0) (b := 9) kcX12_nextBy (Nat.le_of_ble_eq_true rfl) rfl rfl rfl (by decide)
theorem dX12_nextBy_29 : decode cX12_nextBy 29 = .ok (.iinc 4 1, 3) := by decide +kernel
theorem dX12_nextBy_32 : decode cX12_nextBy 32 = .ok (.goto (-24), 3) := op_167 (a := 255) (b := 232) kcX12_nextBy (Nat.le_of_ble_eq_true rfl) rfl rfl rfl (by decide)
theorem dX12_nextBy_35 : decode cX12_nextBy 35 = .ok (.iload 4, 2) := op_21 (a := 4) kcX12_nextBy (Nat.le_of_ble_eq_true rfl) rfl rfl
theorem dX12_nextBy_37 : decode cX12_nextBy 37 = .ok (.ireturn, 1) := op_172 kcX12_nextBy (Nat.le_of_ble_eq_true rfl) rfl
set_option maxRecDepth 20000 in
theorem ggX12_bowl_X12_isSeat : GoodIn wsX12_bowl wsX12_isSeat := goodIn_r _ [7, 8, 9, 10, 6, 11, 29, 30, 31, 32, 33, 34, 35, 36, 37, 38, 39, 40, 41, 42, 43, 44, 45, 46, 47, 48, 49, 50, 51, 52, 53, 54, 55, 56, 57, 58, 59, 60, 61, 62, 63, 64, 65] rfl gw_wsX12_isSeat
set_option maxRecDepth 20000 in
theorem gX12_bowl_X12_isSeat : GoodIn wsX12_bowl (wsV RX12 203 RX12 yX12_isSeat wsX12_isSeat) := goodIn_app (goodIn_of _ (by decide +kernel)) ggX12_bowl_X12_isSeat
set_option maxRecDepth 20000 in
theorem ggX12_bowl_X12_isStir : GoodIn wsX12_bowl wsX12_isStir := goodIn_r _ [15, 16, 9, 10, 6, 11, 29, 30, 31, 32, 33, 34, 35, 36, 37, 38, 39, 40, 41, 42, 43, 44, 45, 46, 47, 48, 49, 50, 51, 52, 53, 54, 55, 56, 57, 58, 59, 60, 61, 62, 63, 64, 65] rfl gw_wsX12_isStir
set_option maxRecDepth 20000 in
theorem gX12_bowl_X12_isStir : GoodIn wsX12_bowl (wsV RX12 207 RX12 yX12_isStir wsX12_isStir) := goodIn_app (goodIn_of _ (by decide +kernel)) ggX12_bowl_X12_isStir
set_option maxRecDepth 20000 in
theorem ggX12_bowl_X12_findPlaces : GoodIn wsX12_bowl wsX12_findPlaces := goodIn_r _ [20, 8, 1, 2, 21, 22, 6, 23, 29, 30, 31, 32, 33, 34, 35, 36, 37, 38, 39, 40, 41, 42, 43, 44, 45, 46, 47, 48, 49, 50, 51, 52, 53, 54, 55, 56, 57, 58, 59, 60, 61, 62, 63, 64, 65] rfl gw_wsX12_findPlaces
set_option maxRecDepth 20000 in
theorem gX12_bowl_X12_findPlaces : GoodIn wsX12_bowl (wsV RX12 216 RX12 yX12_findPlaces wsX12_findPlaces) := goodIn_app (goodIn_of _ (by decide +kernel)) ggX12_bowl_X12_findPlaces
set_option maxRecDepth 20000 in
theorem gw_wsX12_cameFrom : (wsX12_cameFrom).all goodWord = true := by decide +kernel
set_option maxRecDepth 20000 in
theorem ggX12_bowl_X12_cameFrom : GoodIn wsX12_bowl wsX12_cameFrom := goodIn_r _ [27, 28, 29, 30, 31, 32, 33, 34, 35, 36, 37, 38, 39, 40, 41, 42, 43, 44, 45, 46, 47, 48, 49, 50, 51, 52, 53, 54, 55, 56, 57, 58, 59, 60, 61, 62, 63, 64, 65] rfl gw_wsX12_cameFrom
set_option maxRecDepth 20000 in
theorem gX12_bowl_X12_cameFrom : GoodIn wsX12_bowl (wsV RX12 219 RX12 yX12_cameFrom wsX12_cameFrom) := goodIn_app (goodIn_of _ (by decide +kernel)) ggX12_bowl_X12_cameFrom
theorem kcX12_bowl : (cX12_bowl).data.toList = cbs 0xac2edb00b62e1c2300b42a1d2a0700b42ad800b61b2aac0205009acf00b61d2a0b0099cb00b61c2a130099cb00b61b2a 48 := by decide +kernel
theorem dX12_bowl_0 : decode cX12_bowl 0 = .ok (.aload_n 0, 1) := op_42 kcX12_bowl (Nat.le_of_ble_eq_true rfl) rfl
theorem dX12_bowl_1 : decode cX12_bowl 1 = .ok (.iload_n 1, 1) := op_27 kcX12_bowl (Nat.le_of_ble_eq_true rfl) rfl
theorem dX12_bowl_2 : decode cX12_bowl 2 = .ok (.invokevirtual 203, 3) := op_182 (a := 0) (b := 203) kcX12_bowl (Nat.le_of_ble_eq_true rfl) rfl rfl rfl
theorem dX12_bowl_5 : decode cX12_bowl 5 = .ok (.ifCond .eq 19, 3) := op_153 (a := 0) (b := 19) kcX12_bowl (Nat.le_of_ble_eq_true rfl) rfl rfl rfl (by decide)
theorem dX12_bowl_8 : decode cX12_bowl 8 = .ok (.aload_n 0, 1) := op_42 kcX12_bowl (Nat.le_of_ble_eq_true rfl) rfl
theorem dX12_bowl_9 : decode cX12_bowl 9 = .ok (.iload_n 2, 1) := op_28 kcX12_bowl (Nat.le_of_ble_eq_true rfl) rfl
theorem dX12_bowl_10 : decode cX12_bowl 10 = .ok (.invokevirtual 203, 3) := op_182 (a := 0) (b := 203) kcX12_bowl (Nat.le_of_ble_eq_true rfl) rfl rfl rfl
theorem dX12_bowl_13 : decode cX12_bowl 13 = .ok (.ifCond .eq 11, 3) := op_153 (a := 0) (b := 11) kcX12_bowl (Nat.le_of_ble_eq_true rfl) rfl rfl rfl (by decide)
theorem dX12_bowl_16 : decode cX12_bowl 16 = .ok (.aload_n 0, 1) := op_42 kcX12_bowl (Nat.le_of_ble_eq_true rfl) rfl
theorem dX12_bowl_17 : decode cX12_bowl 17 = .ok (.iload_n 3, 1) := op_29 kcX12_bowl (Nat.le_of_ble_eq_true rfl) rfl
theorem dX12_bowl_18 : decode cX12_bowl 18 = .ok (.invokevirtual 207, 3) := op_182 (a := 0) (b := 207) kcX12_bowl (Nat.le_of_ble_eq_true rfl) rfl rfl rfl
theorem dX12_bowl_21 : decode cX12_bowl 21 = .ok (.ifCond .ne 5, 3) := op_154 (a := 0) (b := 5) kcX12_bowl (Nat.le_of_ble_eq_true rfl) rfl rfl rfl (by decide)
theorem dX12_bowl_24 : decode cX12_bowl 24 = .ok (.iconst (-1), 1) := op_2 kcX12_bowl (Nat.le_of_ble_eq_true rfl) rfl
theorem dX12_bowl_25 : decode cX12_bowl 25 = .ok (.ireturn, 1) := op_172 kcX12_bowl (Nat.le_of_ble_eq_true rfl) rfl
theorem dX12_bowl_26 : decode cX12_bowl 26 = .ok (.aload_n 0, 1) := op_42 kcX12_bowl (Nat.le_of_ble_eq_true rfl) rfl
theorem dX12_bowl_27 : decode cX12_bowl 27 = .ok (.iload_n 1, 1) := op_27 kcX12_bowl (Nat.le_of_ble_eq_true rfl) rfl
theorem dX12_bowl_28 : decode cX12_bowl 28 = .ok (.invokevirtual 216, 3) := op_182 (a := 0) (b := 216) kcX12_bowl (Nat.le_of_ble_eq_true rfl) rfl rfl rfl
theorem dX12_bowl_31 : decode cX12_bowl 31 = .ok (.aload_n 0, 1) := op_42 kcX12_bowl (Nat.le_of_ble_eq_true rfl) rfl
theorem dX12_bowl_32 : decode cX12_bowl 32 = .ok (.getfield 7, 3) := op_180 (a := 0) (b := 7) kcX12_bowl (Nat.le_of_ble_eq_true rfl) rfl rfl rfl
theorem dX12_bowl_35 : decode cX12_bowl 35 = .ok (.aload_n 0, 1) := op_42 kcX12_bowl (Nat.le_of_ble_eq_true rfl) rfl
theorem dX12_bowl_36 : decode cX12_bowl 36 = .ok (.iload_n 3, 1) := op_29 kcX12_bowl (Nat.le_of_ble_eq_true rfl) rfl
theorem dX12_bowl_37 : decode cX12_bowl 37 = .ok (.aload_n 0, 1) := op_42 kcX12_bowl (Nat.le_of_ble_eq_true rfl) rfl
theorem dX12_bowl_38 : decode cX12_bowl 38 = .ok (.getfield 35, 3) := op_180 (a := 0) (b := 35) kcX12_bowl (Nat.le_of_ble_eq_true rfl) rfl rfl rfl
theorem dX12_bowl_41 : decode cX12_bowl 41 = .ok (.iload_n 2, 1) := op_28 kcX12_bowl (Nat.le_of_ble_eq_true rfl) rfl
theorem dX12_bowl_42 : decode cX12_bowl 42 = .ok (.iaload, 1) := op_46 kcX12_bowl (Nat.le_of_ble_eq_true rfl) rfl
theorem dX12_bowl_43 : decode cX12_bowl 43 = .ok (.invokevirtual 219, 3) := op_182 (a := 0) (b := 219) kcX12_bowl (Nat.le_of_ble_eq_true rfl) rfl rfl rfl
theorem dX12_bowl_46 : decode cX12_bowl 46 = .ok (.iaload, 1) := op_46 kcX12_bowl (Nat.le_of_ble_eq_true rfl) rfl
theorem dX12_bowl_47 : decode cX12_bowl 47 = .ok (.ireturn, 1) := op_172 kcX12_bowl (Nat.le_of_ble_eq_true rfl) rfl
set_option maxRecDepth 20000 in
theorem ggX12_ladle_X12_isSeat : GoodIn wsX12_ladle wsX12_isSeat := goodIn_r _ [6, 7, 8, 9, 5, 10, 24, 25, 26, 27, 28, 29, 30, 31, 32, 33, 34, 35, 36, 37, 38, 39, 40, 41, 42, 43, 44, 45, 46, 47, 48, 49, 50, 51, 52, 53, 54, 55, 56, 57, 58, 59, 60] rfl gw_wsX12_isSeat
set_option maxRecDepth 20000 in
theorem gX12_ladle_X12_isSeat : GoodIn wsX12_ladle (wsV RX12 203 RX12 yX12_isSeat wsX12_isSeat) := goodIn_app (goodIn_of _ (by decide +kernel)) ggX12_ladle_X12_isSeat
set_option maxRecDepth 20000 in
theorem ggX12_ladle_X12_isStir : GoodIn wsX12_ladle wsX12_isStir := goodIn_r _ [14, 15, 8, 9, 5, 10, 24, 25, 26, 27, 28, 29, 30, 31, 32, 33, 34, 35, 36, 37, 38, 39, 40, 41, 42, 43, 44, 45, 46, 47, 48, 49, 50, 51, 52, 53, 54, 55, 56, 57, 58, 59, 60] rfl gw_wsX12_isStir
set_option maxRecDepth 20000 in
theorem gX12_ladle_X12_isStir : GoodIn wsX12_ladle (wsV RX12 207 RX12 yX12_isStir wsX12_isStir) := goodIn_app (goodIn_of _ (by decide +kernel)) ggX12_ladle_X12_isStir
set_option maxRecDepth 20000 in
theorem ggX12_ladle_X12_findPlaces : GoodIn wsX12_ladle wsX12_findPlaces := goodIn_r _ [19, 7, 20, 1, 21, 22, 5, 23, 24, 25, 26, 27, 28, 29, 30, 31, 32, 33, 34, 35, 36, 37, 38, 39, 40, 41, 42, 43, 44, 45, 46, 47, 48, 49, 50, 51, 52, 53, 54, 55, 56, 57, 58, 59, 60] rfl gw_wsX12_findPlaces
set_option maxRecDepth 20000 in
theorem gX12_ladle_X12_findPlaces : GoodIn wsX12_ladle (wsV RX12 216 RX12 yX12_findPlaces wsX12_findPlaces) := goodIn_app (goodIn_of _ (by decide +kernel)) ggX12_ladle_X12_findPlaces
theorem kcX12_ladle : (cX12_ladle).data.toList = cbs 0xac2e1c2300b42ad800b61b2aac0205009acf00b61d2a0b0099cb00b61c2a130099cb00b61b2a 38 := by decide +kernel
theorem dX12_ladle_0 : decode cX12_ladle 0 = .ok (.aload_n 0, 1) := op_42 kcX12_ladle (Nat.le_of_ble_eq_true rfl) rfl
theorem dX12_ladle_1 : decode cX12_ladle 1 = .ok (.iload_n 1, 1) := op_27 kcX12_ladle (Nat.le_of_ble_eq_true rfl) rfl
theorem dX12_ladle_2 : decode cX12_ladle 2 = .ok (.invokevirtual 203, 3) := op_182 (a := 0) (b := 203) kcX12_ladle (Nat.le_of_ble_eq_true rfl) rfl rfl rfl
theorem dX12_ladle_5 : decode cX12_ladle 5 = .ok (.ifCond .eq 19, 3) := op_153 (a := 0) (b := 19) kcX12_ladle (Nat.le_of_ble_eq_true rfl) rfl rfl rfl (by decide)
theorem dX12_ladle_8 : decode cX12_ladle 8 = .ok (.aload_n 0, 1) := op_42 kcX12_ladle (Nat.le_of_ble_eq_true rfl) rfl
theorem dX12_ladle_9 : decode cX12_ladle 9 = .ok (.iload_n 2, 1) := op_28 kcX12_ladle (Nat.le_of_ble_eq_true rfl) rfl
theorem dX12_ladle_10 : decode cX12_ladle 10 = .ok (.invokevirtual 203, 3) := op_182 (a := 0) (b := 203) kcX12_ladle (Nat.le_of_ble_eq_true rfl) rfl rfl rfl
theorem dX12_ladle_13 : decode cX12_ladle 13 = .ok (.ifCond .eq 11, 3) := op_153 (a := 0) (b := 11) kcX12_ladle (Nat.le_of_ble_eq_true rfl) rfl rfl rfl (by decide)
theorem dX12_ladle_16 : decode cX12_ladle 16 = .ok (.aload_n 0, 1) := op_42 kcX12_ladle (Nat.le_of_ble_eq_true rfl) rfl
theorem dX12_ladle_17 : decode cX12_ladle 17 = .ok (.iload_n 3, 1) := op_29 kcX12_ladle (Nat.le_of_ble_eq_true rfl) rfl
theorem dX12_ladle_18 : decode cX12_ladle 18 = .ok (.invokevirtual 207, 3) := op_182 (a := 0) (b := 207) kcX12_ladle (Nat.le_of_ble_eq_true rfl) rfl rfl rfl
theorem dX12_ladle_21 : decode cX12_ladle 21 = .ok (.ifCond .ne 5, 3) := op_154 (a := 0) (b := 5) kcX12_ladle (Nat.le_of_ble_eq_true rfl) rfl rfl rfl (by decide)
theorem dX12_ladle_24 : decode cX12_ladle 24 = .ok (.iconst (-1), 1) := op_2 kcX12_ladle (Nat.le_of_ble_eq_true rfl) rfl
theorem dX12_ladle_25 : decode cX12_ladle 25 = .ok (.ireturn, 1) := op_172 kcX12_ladle (Nat.le_of_ble_eq_true rfl) rfl
theorem dX12_ladle_26 : decode cX12_ladle 26 = .ok (.aload_n 0, 1) := op_42 kcX12_ladle (Nat.le_of_ble_eq_true rfl) rfl
theorem dX12_ladle_27 : decode cX12_ladle 27 = .ok (.iload_n 1, 1) := op_27 kcX12_ladle (Nat.le_of_ble_eq_true rfl) rfl
theorem dX12_ladle_28 : decode cX12_ladle 28 = .ok (.invokevirtual 216, 3) := op_182 (a := 0) (b := 216) kcX12_ladle (Nat.le_of_ble_eq_true rfl) rfl rfl rfl
theorem dX12_ladle_31 : decode cX12_ladle 31 = .ok (.aload_n 0, 1) := op_42 kcX12_ladle (Nat.le_of_ble_eq_true rfl) rfl
theorem dX12_ladle_32 : decode cX12_ladle 32 = .ok (.getfield 35, 3) := op_180 (a := 0) (b := 35) kcX12_ladle (Nat.le_of_ble_eq_true rfl) rfl rfl rfl
theorem dX12_ladle_35 : decode cX12_ladle 35 = .ok (.iload_n 2, 1) := op_28 kcX12_ladle (Nat.le_of_ble_eq_true rfl) rfl
theorem dX12_ladle_36 : decode cX12_ladle 36 = .ok (.iaload, 1) := op_46 kcX12_ladle (Nat.le_of_ble_eq_true rfl) rfl
theorem dX12_ladle_37 : decode cX12_ladle 37 = .ok (.ireturn, 1) := op_172 kcX12_ladle (Nat.le_of_ble_eq_true rfl) rfl
set_option maxRecDepth 20000 in
theorem ggX12_next_X12_isSeat : GoodIn wsX12_next wsX12_isSeat := goodIn_r _ [6, 7, 8, 9, 5, 10, 29, 30, 31, 32, 33, 34, 35, 36, 37, 38, 39, 40, 41, 42, 43, 44, 45, 46, 47, 48, 49, 50, 51, 52, 53, 54, 55, 56, 57, 58, 59, 60, 61, 62, 63, 64, 65] rfl gw_wsX12_isSeat
set_option maxRecDepth 20000 in
theorem gX12_next_X12_isSeat : GoodIn wsX12_next (wsV RX12 203 RX12 yX12_isSeat wsX12_isSeat) := goodIn_app (goodIn_of _ (by decide +kernel)) ggX12_next_X12_isSeat
set_option maxRecDepth 20000 in
theorem ggX12_next_X12_isStir : GoodIn wsX12_next wsX12_isStir := goodIn_r _ [14, 15, 8, 9, 5, 10, 29, 30, 31, 32, 33, 34, 35, 36, 37, 38, 39, 40, 41, 42, 43, 44, 45, 46, 47, 48, 49, 50, 51, 52, 53, 54, 55, 56, 57, 58, 59, 60, 61, 62, 63, 64, 65] rfl gw_wsX12_isStir
set_option maxRecDepth 20000 in
theorem gX12_next_X12_isStir : GoodIn wsX12_next (wsV RX12 207 RX12 yX12_isStir wsX12_isStir) := goodIn_app (goodIn_of _ (by decide +kernel)) ggX12_next_X12_isStir
set_option maxRecDepth 20000 in
theorem gw_wsX12_nextBy : (wsX12_nextBy).all goodWord = true := by decide +kernel
set_option maxRecDepth 20000 in
theorem ggX12_next_X12_nextBy : GoodIn wsX12_next wsX12_nextBy := goodIn_r _ [19, 20, 21, 22, 23, 24, 5, 25, 7, 1, 26, 27, 28, 29, 30, 31, 32, 33, 34, 35, 36, 37, 38, 39, 40, 41, 42, 43, 44, 45, 46, 47, 48, 49, 50, 51, 52, 53, 54, 55, 56, 57, 58, 59, 60, 61, 62, 63, 64, 65] rfl gw_wsX12_nextBy
set_option maxRecDepth 20000 in
theorem gX12_next_X12_nextBy : GoodIn wsX12_next (wsV RX12 222 RX12 yX12_nextBy wsX12_nextBy) := goodIn_app (goodIn_of _ (by decide +kernel)) ggX12_next_X12_nextBy
theorem kcX12_next : (cX12_next).data.toList = cbs 0xac020400a7de00b62e07100700b42a1c1b2a130099cf00b61c2a1b0099cb00b61b2a 34 := by decide +kernel
theorem dX12_next_0 : decode cX12_next 0 = .ok (.aload_n 0, 1) := op_42 kcX12_next (Nat.le_of_ble_eq_true rfl) rfl
theorem dX12_next_1 : decode cX12_next 1 = .ok (.iload_n 1, 1) := op_27 kcX12_next (Nat.le_of_ble_eq_true rfl) rfl
theorem dX12_next_2 : decode cX12_next 2 = .ok (.invokevirtual 203, 3) := op_182 (a := 0) (b := 203) kcX12_next (Nat.le_of_ble_eq_true rfl) rfl rfl rfl
theorem dX12_next_5 : decode cX12_next 5 = .ok (.ifCond .eq 27, 3) := op_153 (a := 0) (b := 27) kcX12_next (Nat.le_of_ble_eq_true rfl) rfl rfl rfl (by decide)
theorem dX12_next_8 : decode cX12_next 8 = .ok (.aload_n 0, 1) := op_42 kcX12_next (Nat.le_of_ble_eq_true rfl) rfl
theorem dX12_next_9 : decode cX12_next 9 = .ok (.iload_n 2, 1) := op_28 kcX12_next (Nat.le_of_ble_eq_true rfl) rfl
theorem dX12_next_10 : decode cX12_next 10 = .ok (.invokevirtual 207, 3) := op_182 (a := 0) (b := 207) kcX12_next (Nat.le_of_ble_eq_true rfl) rfl rfl rfl
theorem dX12_next_13 : decode cX12_next 13 = .ok (.ifCond .eq 19, 3) := op_153 (a := 0) (b := 19) kcX12_next (Nat.le_of_ble_eq_true rfl) rfl rfl rfl (by decide)
theorem dX12_next_16 : decode cX12_next 16 = .ok (.aload_n 0, 1) := op_42 kcX12_next (Nat.le_of_ble_eq_true rfl) rfl
theorem dX12_next_17 : decode cX12_next 17 = .ok (.iload_n 1, 1) := op_27 kcX12_next (Nat.le_of_ble_eq_true rfl) rfl
theorem dX12_next_18 : decode cX12_next 18 = .ok (.iload_n 2, 1) := op_28 kcX12_next (Nat.le_of_ble_eq_true rfl) rfl
theorem dX12_next_19 : decode cX12_next 19 = .ok (.aload_n 0, 1) := op_42 kcX12_next (Nat.le_of_ble_eq_true rfl) rfl
theorem dX12_next_20 : decode cX12_next 20 = .ok (.getfield 7, 3) := op_180 (a := 0) (b := 7) kcX12_next (Nat.le_of_ble_eq_true rfl) rfl rfl rfl
theorem dX12_next_23 : decode cX12_next 23 = .ok (.bipush 7, 2) := op_16 (a := 7) kcX12_next (Nat.le_of_ble_eq_true rfl) rfl rfl (by decide)
theorem dX12_next_25 : decode cX12_next 25 = .ok (.iaload, 1) := op_46 kcX12_next (Nat.le_of_ble_eq_true rfl) rfl
theorem dX12_next_26 : decode cX12_next 26 = .ok (.invokevirtual 222, 3) := op_182 (a := 0) (b := 222) kcX12_next (Nat.le_of_ble_eq_true rfl) rfl rfl rfl
theorem dX12_next_29 : decode cX12_next 29 = .ok (.goto 4, 3) := op_167 (a := 0) (b := 4) kcX12_next (Nat.le_of_ble_eq_true rfl) rfl rfl rfl (by decide)
theorem dX12_next_32 : decode cX12_next 32 = .ok (.iconst (-1), 1) := op_2 kcX12_next (Nat.le_of_ble_eq_true rfl) rfl
theorem dX12_next_33 : decode cX12_next 33 = .ok (.ireturn, 1) := op_172 kcX12_next (Nat.le_of_ble_eq_true rfl) rfl
set_option maxRecDepth 20000 in
theorem ggX12_goesDay_X12_nextBy : GoodIn wsX12_goesDay wsX12_nextBy := goodIn_r _ [10, 5, 4, 11, 12, 13, 9, 14, 2, 1, 15, 16, 17, 18, 19, 20, 21, 22, 23, 24, 25, 26, 27, 28, 29, 30, 31, 32, 33, 34, 35, 36, 37, 38, 39, 40, 41, 42, 43, 44, 45, 46, 47, 48, 49, 50, 51, 52, 53, 54] rfl gw_wsX12_nextBy
set_option maxRecDepth 20000 in
theorem gX12_goesDay_X12_nextBy : GoodIn wsX12_goesDay (wsV RX12 222 RX12 yX12_nextBy wsX12_nextBy) := goodIn_app (goodIn_of _ (by decide +kernel)) ggX12_goesDay_X12_nextBy
theorem kcX12_goesDay : (cX12_goesDay).data.toList = cbs 0xb14f60042e5c1e100700b42a4f1c08100700b42a4f2e602e07100700b42a681b07101100b42a07100700b42adeffa70103844f602e2e1d2300b42a0700b42a2e5c601d17100700b42a2000a26400b42a1d3e03e9ffa70103844f2e1d2600b42a1d0700b42a1500a26400b42a1d3e03dfffa70103844f2e1d0700b42a2e601d681b07101100b42a2600b42a1f00a26400b42a1d3e033dde00b62e07100700b42a1b2e08100700b42a2a 169 := by decide +kernel
theorem dX12_goesDay_0 : decode cX12_goesDay 0 = .ok (.aload_n 0, 1) := op_42 kcX12_goesDay (Nat.le_of_ble_eq_true rfl) rfl
theorem dX12_goesDay_1 : decode cX12_goesDay 1 = .ok (.aload_n 0, 1) := op_42 kcX12_goesDay (Nat.le_of_ble_eq_true rfl) rfl
theorem dX12_goesDay_2 : decode cX12_goesDay 2 = .ok (.getfield 7, 3) := op_180 (a := 0) (b := 7) kcX12_goesDay (Nat.le_of_ble_eq_true rfl) rfl rfl rfl
theorem dX12_goesDay_5 : decode cX12_goesDay 5 = .ok (.bipush 8, 2) := op_16 (a := 8) kcX12_goesDay (Nat.le_of_ble_eq_true rfl) rfl rfl (by decide)
theorem dX12_goesDay_7 : decode cX12_goesDay 7 = .ok (.iaload, 1) := op_46 kcX12_goesDay (Nat.le_of_ble_eq_true rfl) rfl
theorem dX12_goesDay_8 : decode cX12_goesDay 8 = .ok (.iload_n 1, 1) := op_27 kcX12_goesDay (Nat.le_of_ble_eq_true rfl) rfl
theorem dX12_goesDay_9 : decode cX12_goesDay 9 = .ok (.aload_n 0, 1) := op_42 kcX12_goesDay (Nat.le_of_ble_eq_true rfl) rfl
theorem dX12_goesDay_10 : decode cX12_goesDay 10 = .ok (.getfield 7, 3) := op_180 (a := 0) (b := 7) kcX12_goesDay (Nat.le_of_ble_eq_true rfl) rfl rfl rfl
theorem dX12_goesDay_13 : decode cX12_goesDay 13 = .ok (.bipush 7, 2) := op_16 (a := 7) kcX12_goesDay (Nat.le_of_ble_eq_true rfl) rfl rfl (by decide)
theorem dX12_goesDay_15 : decode cX12_goesDay 15 = .ok (.iaload, 1) := op_46 kcX12_goesDay (Nat.le_of_ble_eq_true rfl) rfl
theorem dX12_goesDay_16 : decode cX12_goesDay 16 = .ok (.invokevirtual 222, 3) := op_182 (a := 0) (b := 222) kcX12_goesDay (Nat.le_of_ble_eq_true rfl) rfl rfl rfl
theorem dX12_goesDay_19 : decode cX12_goesDay 19 = .ok (.istore_n 2, 1) := op_61 kcX12_goesDay (Nat.le_of_ble_eq_true rfl) rfl
theorem dX12_goesDay_20 : decode cX12_goesDay 20 = .ok (.iconst 0, 1) := op_3 kcX12_goesDay (Nat.le_of_ble_eq_true rfl) rfl
theorem dX12_goesDay_21 : decode cX12_goesDay 21 = .ok (.istore_n 3, 1) := op_62 kcX12_goesDay (Nat.le_of_ble_eq_true rfl) rfl
theorem dX12_goesDay_22 : decode cX12_goesDay 22 = .ok (.iload_n 3, 1) := op_29 kcX12_goesDay (Nat.le_of_ble_eq_true rfl) rfl
theorem dX12_goesDay_23 : decode cX12_goesDay 23 = .ok (.aload_n 0, 1) := op_42 kcX12_goesDay (Nat.le_of_ble_eq_true rfl) rfl
theorem dX12_goesDay_24 : decode cX12_goesDay 24 = .ok (.getfield 100, 3) := op_180 (a := 0) (b := 100) kcX12_goesDay (Nat.le_of_ble_eq_true rfl) rfl rfl rfl
theorem dX12_goesDay_27 : decode cX12_goesDay 27 = .ok (.if_icmp .ge 31, 3) := op_162 (a := 0) (b := 31) kcX12_goesDay (Nat.le_of_ble_eq_true rfl) rfl rfl rfl (by decide)
theorem dX12_goesDay_30 : decode cX12_goesDay 30 = .ok (.aload_n 0, 1) := op_42 kcX12_goesDay (Nat.le_of_ble_eq_true rfl) rfl
theorem dX12_goesDay_31 : decode cX12_goesDay 31 = .ok (.getfield 38, 3) := op_180 (a := 0) (b := 38) kcX12_goesDay (Nat.le_of_ble_eq_true rfl) rfl rfl rfl
theorem dX12_goesDay_34 : decode cX12_goesDay 34 = .ok (.aload_n 0, 1) := op_42 kcX12_goesDay (Nat.le_of_ble_eq_true rfl) rfl
theorem dX12_goesDay_35 : decode cX12_goesDay 35 = .ok (.getfield 17, 3) := op_180 (a := 0) (b := 17) kcX12_goesDay (Nat.le_of_ble_eq_true rfl) rfl rfl rfl
theorem dX12_goesDay_38 : decode cX12_goesDay 38 = .ok (.bipush 7, 2) := op_16 (a := 7) kcX12_goesDay (Nat.le_of_ble_eq_true rfl) rfl rfl (by decide)
theorem dX12_goesDay_40 : decode cX12_goesDay 40 = .ok (.iload_n 1, 1) := op_27 kcX12_goesDay (Nat.le_of_ble_eq_true rfl) rfl
theorem dX12_goesDay_41 : decode cX12_goesDay 41 = .ok (.imul, 1) := op_104 kcX12_goesDay (Nat.le_of_ble_eq_true rfl) rfl
theorem dX12_goesDay_42 : decode cX12_goesDay 42 = .ok (.iload_n 3, 1) := op_29 kcX12_goesDay (Nat.le_of_ble_eq_true rfl) rfl
theorem dX12_goesDay_43 : decode cX12_goesDay 43 = .ok (.iadd, 1) := op_96 kcX12_goesDay (Nat.le_of_ble_eq_true rfl) rfl
theorem dX12_goesDay_44 : decode cX12_goesDay 44 = .ok (.iaload, 1) := op_46 kcX12_goesDay (Nat.le_of_ble_eq_true rfl) rfl
theorem dX12_goesDay_45 : decode cX12_goesDay 45 = .ok (.aload_n 0, 1) := op_42 kcX12_goesDay (Nat.le_of_ble_eq_true rfl) rfl
theorem dX12_goesDay_46 : decode cX12_goesDay 46 = .ok (.getfield 7, 3) := op_180 (a := 0) (b := 7) kcX12_goesDay (Nat.le_of_ble_eq_true rfl) rfl rfl rfl
theorem dX12_goesDay_49 : decode cX12_goesDay 49 = .ok (.iload_n 3, 1) := op_29 kcX12_goesDay (Nat.le_of_ble_eq_true rfl) rfl
theorem dX12_goesDay_50 : decode cX12_goesDay 50 = .ok (.iaload, 1) := op_46 kcX12_goesDay (Nat.le_of_ble_eq_true rfl) rfl
theorem dX12_goesDay_51 : decode cX12_goesDay 51 = .ok (.iastore, 1) := op_79 kcX12_goesDay (Nat.le_of_ble_eq_true rfl) rfl
theorem dX12_goesDay_52 : decode cX12_goesDay 52 = .ok (.iinc 3 1, 3) := by decide +kernel
theorem dX12_goesDay_55 : decode cX12_goesDay 55 = .ok (.goto (-33), 3) := op_167 (a := 255) (b := 223) kcX12_goesDay (Nat.le_of_ble_eq_true rfl) rfl rfl rfl (by decide)
theorem dX12_goesDay_58 : decode cX12_goesDay 58 = .ok (.iconst 0, 1) := op_3 kcX12_goesDay (Nat.le_of_ble_eq_true rfl) rfl
theorem dX12_goesDay_59 : decode cX12_goesDay 59 = .ok (.istore_n 3, 1) := op_62 kcX12_goesDay (Nat.le_of_ble_eq_true rfl) rfl
theorem dX12_goesDay_60 : decode cX12_goesDay 60 = .ok (.iload_n 3, 1) := op_29 kcX12_goesDay (Nat.le_of_ble_eq_true rfl) rfl
theorem dX12_goesDay_61 : decode cX12_goesDay 61 = .ok (.aload_n 0, 1) := op_42 kcX12_goesDay (Nat.le_of_ble_eq_true rfl) rfl
theorem dX12_goesDay_62 : decode cX12_goesDay 62 = .ok (.getfield 100, 3) := op_180 (a := 0) (b := 100) kcX12_goesDay (Nat.le_of_ble_eq_true rfl) rfl rfl rfl
theorem dX12_goesDay_65 : decode cX12_goesDay 65 = .ok (.if_icmp .ge 21, 3) := op_162 (a := 0) (b := 21) kcX12_goesDay (Nat.le_of_ble_eq_true rfl) rfl rfl rfl (by decide)
theorem dX12_goesDay_68 : decode cX12_goesDay 68 = .ok (.aload_n 0, 1) := op_42 kcX12_goesDay (Nat.le_of_ble_eq_true rfl) rfl
theorem dX12_goesDay_69 : decode cX12_goesDay 69 = .ok (.getfield 7, 3) := op_180 (a := 0) (b := 7) kcX12_goesDay (Nat.le_of_ble_eq_true rfl) rfl rfl rfl
theorem dX12_goesDay_72 : decode cX12_goesDay 72 = .ok (.iload_n 3, 1) := op_29 kcX12_goesDay (Nat.le_of_ble_eq_true rfl) rfl
theorem dX12_goesDay_73 : decode cX12_goesDay 73 = .ok (.aload_n 0, 1) := op_42 kcX12_goesDay (Nat.le_of_ble_eq_true rfl) rfl
theorem dX12_goesDay_74 : decode cX12_goesDay 74 = .ok (.getfield 38, 3) := op_180 (a := 0) (b := 38) kcX12_goesDay (Nat.le_of_ble_eq_true rfl) rfl rfl rfl
theorem dX12_goesDay_77 : decode cX12_goesDay 77 = .ok (.iload_n 3, 1) := op_29 kcX12_goesDay (Nat.le_of_ble_eq_true rfl) rfl
theorem dX12_goesDay_78 : decode cX12_goesDay 78 = .ok (.iaload, 1) := op_46 kcX12_goesDay (Nat.le_of_ble_eq_true rfl) rfl
theorem dX12_goesDay_79 : decode cX12_goesDay 79 = .ok (.iastore, 1) := op_79 kcX12_goesDay (Nat.le_of_ble_eq_true rfl) rfl
theorem dX12_goesDay_80 : decode cX12_goesDay 80 = .ok (.iinc 3 1, 3) := by decide +kernel
theorem dX12_goesDay_83 : decode cX12_goesDay 83 = .ok (.goto (-23), 3) := op_167 (a := 255) (b := 233) kcX12_goesDay (Nat.le_of_ble_eq_true rfl) rfl rfl rfl (by decide)
theorem dX12_goesDay_86 : decode cX12_goesDay 86 = .ok (.iconst 0, 1) := op_3 kcX12_goesDay (Nat.le_of_ble_eq_true rfl) rfl
theorem dX12_goesDay_87 : decode cX12_goesDay 87 = .ok (.istore_n 3, 1) := op_62 kcX12_goesDay (Nat.le_of_ble_eq_true rfl) rfl
theorem dX12_goesDay_88 : decode cX12_goesDay 88 = .ok (.iload_n 3, 1) := op_29 kcX12_goesDay (Nat.le_of_ble_eq_true rfl) rfl
theorem dX12_goesDay_89 : decode cX12_goesDay 89 = .ok (.aload_n 0, 1) := op_42 kcX12_goesDay (Nat.le_of_ble_eq_true rfl) rfl
theorem dX12_goesDay_90 : decode cX12_goesDay 90 = .ok (.getfield 100, 3) := op_180 (a := 0) (b := 100) kcX12_goesDay (Nat.le_of_ble_eq_true rfl) rfl rfl rfl
theorem dX12_goesDay_93 : decode cX12_goesDay 93 = .ok (.if_icmp .ge 32, 3) := op_162 (a := 0) (b := 32) kcX12_goesDay (Nat.le_of_ble_eq_true rfl) rfl rfl rfl (by decide)
theorem dX12_goesDay_96 : decode cX12_goesDay 96 = .ok (.aload_n 0, 1) := op_42 kcX12_goesDay (Nat.le_of_ble_eq_true rfl) rfl
theorem dX12_goesDay_97 : decode cX12_goesDay 97 = .ok (.getfield 7, 3) := op_180 (a := 0) (b := 7) kcX12_goesDay (Nat.le_of_ble_eq_true rfl) rfl rfl rfl
theorem dX12_goesDay_100 : decode cX12_goesDay 100 = .ok (.bipush 23, 2) := op_16 (a := 23) kcX12_goesDay (Nat.le_of_ble_eq_true rfl) rfl rfl (by decide)
theorem dX12_goesDay_102 : decode cX12_goesDay 102 = .ok (.iload_n 3, 1) := op_29 kcX12_goesDay (Nat.le_of_ble_eq_true rfl) rfl
theorem dX12_goesDay_103 : decode cX12_goesDay 103 = .ok (.iadd, 1) := op_96 kcX12_goesDay (Nat.le_of_ble_eq_true rfl) rfl
theorem dX12_goesDay_104 : decode cX12_goesDay 104 = .ok (.dup2, 1) := op_92 kcX12_goesDay (Nat.le_of_ble_eq_true rfl) rfl
theorem dX12_goesDay_105 : decode cX12_goesDay 105 = .ok (.iaload, 1) := op_46 kcX12_goesDay (Nat.le_of_ble_eq_true rfl) rfl
theorem dX12_goesDay_106 : decode cX12_goesDay 106 = .ok (.aload_n 0, 1) := op_42 kcX12_goesDay (Nat.le_of_ble_eq_true rfl) rfl
theorem dX12_goesDay_107 : decode cX12_goesDay 107 = .ok (.getfield 7, 3) := op_180 (a := 0) (b := 7) kcX12_goesDay (Nat.le_of_ble_eq_true rfl) rfl rfl rfl
theorem dX12_goesDay_110 : decode cX12_goesDay 110 = .ok (.aload_n 0, 1) := op_42 kcX12_goesDay (Nat.le_of_ble_eq_true rfl) rfl
theorem dX12_goesDay_111 : decode cX12_goesDay 111 = .ok (.getfield 35, 3) := op_180 (a := 0) (b := 35) kcX12_goesDay (Nat.le_of_ble_eq_true rfl) rfl rfl rfl
theorem dX12_goesDay_114 : decode cX12_goesDay 114 = .ok (.iload_n 3, 1) := op_29 kcX12_goesDay (Nat.le_of_ble_eq_true rfl) rfl
theorem dX12_goesDay_115 : decode cX12_goesDay 115 = .ok (.iaload, 1) := op_46 kcX12_goesDay (Nat.le_of_ble_eq_true rfl) rfl
theorem dX12_goesDay_116 : decode cX12_goesDay 116 = .ok (.iaload, 1) := op_46 kcX12_goesDay (Nat.le_of_ble_eq_true rfl) rfl
theorem dX12_goesDay_117 : decode cX12_goesDay 117 = .ok (.iadd, 1) := op_96 kcX12_goesDay (Nat.le_of_ble_eq_true rfl) rfl
theorem dX12_goesDay_118 : decode cX12_goesDay 118 = .ok (.iastore, 1) := op_79 kcX12_goesDay (Nat.le_of_ble_eq_true rfl) rfl
theorem dX12_goesDay_119 : decode cX12_goesDay 119 = .ok (.iinc 3 1, 3) := by decide +kernel
theorem dX12_goesDay_122 : decode cX12_goesDay 122 = .ok (.goto (-34), 3) := op_167 (a := 255) (b := 222) kcX12_goesDay (Nat.le_of_ble_eq_true rfl) rfl rfl rfl (by decide)
theorem dX12_goesDay_125 : decode cX12_goesDay 125 = .ok (.aload_n 0, 1) := op_42 kcX12_goesDay (Nat.le_of_ble_eq_true rfl) rfl
theorem dX12_goesDay_126 : decode cX12_goesDay 126 = .ok (.getfield 7, 3) := op_180 (a := 0) (b := 7) kcX12_goesDay (Nat.le_of_ble_eq_true rfl) rfl rfl rfl
theorem dX12_goesDay_129 : decode cX12_goesDay 129 = .ok (.bipush 7, 2) := op_16 (a := 7) kcX12_goesDay (Nat.le_of_ble_eq_true rfl) rfl rfl (by decide)
theorem dX12_goesDay_131 : decode cX12_goesDay 131 = .ok (.aload_n 0, 1) := op_42 kcX12_goesDay (Nat.le_of_ble_eq_true rfl) rfl
theorem dX12_goesDay_132 : decode cX12_goesDay 132 = .ok (.getfield 17, 3) := op_180 (a := 0) (b := 17) kcX12_goesDay (Nat.le_of_ble_eq_true rfl) rfl rfl rfl
theorem dX12_goesDay_135 : decode cX12_goesDay 135 = .ok (.bipush 7, 2) := op_16 (a := 7) kcX12_goesDay (Nat.le_of_ble_eq_true rfl) rfl rfl (by decide)
theorem dX12_goesDay_137 : decode cX12_goesDay 137 = .ok (.iload_n 1, 1) := op_27 kcX12_goesDay (Nat.le_of_ble_eq_true rfl) rfl
theorem dX12_goesDay_138 : decode cX12_goesDay 138 = .ok (.imul, 1) := op_104 kcX12_goesDay (Nat.le_of_ble_eq_true rfl) rfl
theorem dX12_goesDay_139 : decode cX12_goesDay 139 = .ok (.aload_n 0, 1) := op_42 kcX12_goesDay (Nat.le_of_ble_eq_true rfl) rfl
theorem dX12_goesDay_140 : decode cX12_goesDay 140 = .ok (.getfield 7, 3) := op_180 (a := 0) (b := 7) kcX12_goesDay (Nat.le_of_ble_eq_true rfl) rfl rfl rfl
theorem dX12_goesDay_143 : decode cX12_goesDay 143 = .ok (.bipush 7, 2) := op_16 (a := 7) kcX12_goesDay (Nat.le_of_ble_eq_true rfl) rfl rfl (by decide)
theorem dX12_goesDay_145 : decode cX12_goesDay 145 = .ok (.iaload, 1) := op_46 kcX12_goesDay (Nat.le_of_ble_eq_true rfl) rfl
theorem dX12_goesDay_146 : decode cX12_goesDay 146 = .ok (.iadd, 1) := op_96 kcX12_goesDay (Nat.le_of_ble_eq_true rfl) rfl
theorem dX12_goesDay_147 : decode cX12_goesDay 147 = .ok (.iaload, 1) := op_46 kcX12_goesDay (Nat.le_of_ble_eq_true rfl) rfl
theorem dX12_goesDay_148 : decode cX12_goesDay 148 = .ok (.iastore, 1) := op_79 kcX12_goesDay (Nat.le_of_ble_eq_true rfl) rfl
theorem dX12_goesDay_149 : decode cX12_goesDay 149 = .ok (.aload_n 0, 1) := op_42 kcX12_goesDay (Nat.le_of_ble_eq_true rfl) rfl
theorem dX12_goesDay_150 : decode cX12_goesDay 150 = .ok (.getfield 7, 3) := op_180 (a := 0) (b := 7) kcX12_goesDay (Nat.le_of_ble_eq_true rfl) rfl rfl rfl
theorem dX12_goesDay_153 : decode cX12_goesDay 153 = .ok (.bipush 8, 2) := op_16 (a := 8) kcX12_goesDay (Nat.le_of_ble_eq_true rfl) rfl rfl (by decide)
theorem dX12_goesDay_155 : decode cX12_goesDay 155 = .ok (.iload_n 2, 1) := op_28 kcX12_goesDay (Nat.le_of_ble_eq_true rfl) rfl
theorem dX12_goesDay_156 : decode cX12_goesDay 156 = .ok (.iastore, 1) := op_79 kcX12_goesDay (Nat.le_of_ble_eq_true rfl) rfl
theorem dX12_goesDay_157 : decode cX12_goesDay 157 = .ok (.aload_n 0, 1) := op_42 kcX12_goesDay (Nat.le_of_ble_eq_true rfl) rfl
theorem dX12_goesDay_158 : decode cX12_goesDay 158 = .ok (.getfield 7, 3) := op_180 (a := 0) (b := 7) kcX12_goesDay (Nat.le_of_ble_eq_true rfl) rfl rfl rfl
theorem dX12_goesDay_161 : decode cX12_goesDay 161 = .ok (.bipush 30, 2) := op_16 (a := 30) kcX12_goesDay (Nat.le_of_ble_eq_true rfl) rfl rfl (by decide)
theorem dX12_goesDay_163 : decode cX12_goesDay 163 = .ok (.dup2, 1) := op_92 kcX12_goesDay (Nat.le_of_ble_eq_true rfl) rfl
theorem dX12_goesDay_164 : decode cX12_goesDay 164 = .ok (.iaload, 1) := op_46 kcX12_goesDay (Nat.le_of_ble_eq_true rfl) rfl
theorem dX12_goesDay_165 : decode cX12_goesDay 165 = .ok (.iconst 1, 1) := op_4 kcX12_goesDay (Nat.le_of_ble_eq_true rfl) rfl
theorem dX12_goesDay_166 : decode cX12_goesDay 166 = .ok (.iadd, 1) := op_96 kcX12_goesDay (Nat.le_of_ble_eq_true rfl) rfl
theorem dX12_goesDay_167 : decode cX12_goesDay 167 = .ok (.iastore, 1) := op_79 kcX12_goesDay (Nat.le_of_ble_eq_true rfl) rfl
theorem dX12_goesDay_168 : decode cX12_goesDay 168 = .ok (.return_, 1) := op_177 kcX12_goesDay (Nat.le_of_ble_eq_true rfl) rfl
set_option maxRecDepth 20000 in
theorem ggX12_day_X12_isStir : GoodIn wsX12_day wsX12_isStir := goodIn_r _ [6, 7, 8, 9, 5, 10, 30, 31, 32, 33, 34, 35, 36, 37, 38, 39, 40, 41, 42, 43, 44, 45, 46, 47, 48, 49, 50, 51, 52, 53, 54, 55, 56, 57, 58, 59, 60, 61, 62, 63, 64, 65, 66] rfl gw_wsX12_isStir
set_option maxRecDepth 20000 in
theorem gX12_day_X12_isStir : GoodIn wsX12_day (wsV RX12 207 RX12 yX12_isStir wsX12_isStir) := goodIn_app (goodIn_of _ (by decide +kernel)) ggX12_day_X12_isStir
set_option maxRecDepth 20000 in
theorem gw_wsX12_goesDay : (wsX12_goesDay).all goodWord = true := by decide +kernel
set_option maxRecDepth 20000 in
theorem ggX12_day_X12_goesDay : GoodIn wsX12_day wsX12_goesDay := goodIn_r _ [14, 1, 15, 16, 17, 18, 19, 20, 21, 5, 22, 23, 24, 25, 26, 27, 28, 29, 30, 31, 32, 33, 34, 35, 36, 37, 38, 39, 40, 41, 42, 43, 44, 45, 46, 47, 48, 49, 50, 51, 52, 53, 54, 55, 56, 57, 58, 59, 60, 61, 62, 63, 64, 65, 66] rfl gw_wsX12_goesDay
set_option maxRecDepth 20000 in
theorem gX12_day_X12_goesDay : GoodIn wsX12_day (wsV RX12 226 RX12 yX12_goesDay wsX12_goesDay) := goodIn_app (goodIn_of _ (by decide +kernel)) ggX12_day_X12_goesDay
theorem kcX12_day : (cX12_day).data.toList = cbs 0xac2e08100700b42ae200b61b2aacfd100600a0e703112e1e100700b42aac0205009acf00b61b2a 39 := by decide +kernel
theorem dX12_day_0 : decode cX12_day 0 = .ok (.aload_n 0, 1) := op_42 kcX12_day (Nat.le_of_ble_eq_true rfl) rfl
theorem dX12_day_1 : decode cX12_day 1 = .ok (.iload_n 1, 1) := op_27 kcX12_day (Nat.le_of_ble_eq_true rfl) rfl
theorem dX12_day_2 : decode cX12_day 2 = .ok (.invokevirtual 207, 3) := op_182 (a := 0) (b := 207) kcX12_day (Nat.le_of_ble_eq_true rfl) rfl rfl rfl
theorem dX12_day_5 : decode cX12_day 5 = .ok (.ifCond .ne 5, 3) := op_154 (a := 0) (b := 5) kcX12_day (Nat.le_of_ble_eq_true rfl) rfl rfl rfl (by decide)
theorem dX12_day_8 : decode cX12_day 8 = .ok (.iconst (-1), 1) := op_2 kcX12_day (Nat.le_of_ble_eq_true rfl) rfl
theorem dX12_day_9 : decode cX12_day 9 = .ok (.ireturn, 1) := op_172 kcX12_day (Nat.le_of_ble_eq_true rfl) rfl
theorem dX12_day_10 : decode cX12_day 10 = .ok (.aload_n 0, 1) := op_42 kcX12_day (Nat.le_of_ble_eq_true rfl) rfl
theorem dX12_day_11 : decode cX12_day 11 = .ok (.getfield 7, 3) := op_180 (a := 0) (b := 7) kcX12_day (Nat.le_of_ble_eq_true rfl) rfl rfl rfl
theorem dX12_day_14 : decode cX12_day 14 = .ok (.bipush 30, 2) := op_16 (a := 30) kcX12_day (Nat.le_of_ble_eq_true rfl) rfl rfl (by decide)
theorem dX12_day_16 : decode cX12_day 16 = .ok (.iaload, 1) := op_46 kcX12_day (Nat.le_of_ble_eq_true rfl) rfl
theorem dX12_day_17 : decode cX12_day 17 = .ok (.sipush 999, 3) := by decide +kernel
theorem dX12_day_20 : decode cX12_day 20 = .ok (.if_icmp .ne 6, 3) := op_160 (a := 0) (b := 6) kcX12_day (Nat.le_of_ble_eq_true rfl) rfl rfl rfl (by decide)
theorem dX12_day_23 : decode cX12_day 23 = .ok (.bipush (-3), 2) := op_16 (a := 253) kcX12_day (Nat.le_of_ble_eq_true rfl) rfl rfl (by decide)
theorem dX12_day_25 : decode cX12_day 25 = .ok (.ireturn, 1) := op_172 kcX12_day (Nat.le_of_ble_eq_true rfl) rfl
theorem dX12_day_26 : decode cX12_day 26 = .ok (.aload_n 0, 1) := op_42 kcX12_day (Nat.le_of_ble_eq_true rfl) rfl
theorem dX12_day_27 : decode cX12_day 27 = .ok (.iload_n 1, 1) := op_27 kcX12_day (Nat.le_of_ble_eq_true rfl) rfl
theorem dX12_day_28 : decode cX12_day 28 = .ok (.invokevirtual 226, 3) := op_182 (a := 0) (b := 226) kcX12_day (Nat.le_of_ble_eq_true rfl) rfl rfl rfl
theorem dX12_day_31 : decode cX12_day 31 = .ok (.aload_n 0, 1) := op_42 kcX12_day (Nat.le_of_ble_eq_true rfl) rfl
theorem dX12_day_32 : decode cX12_day 32 = .ok (.getfield 7, 3) := op_180 (a := 0) (b := 7) kcX12_day (Nat.le_of_ble_eq_true rfl) rfl rfl rfl
theorem dX12_day_35 : decode cX12_day 35 = .ok (.bipush 8, 2) := op_16 (a := 8) kcX12_day (Nat.le_of_ble_eq_true rfl) rfl rfl (by decide)
theorem dX12_day_37 : decode cX12_day 37 = .ok (.iaload, 1) := op_46 kcX12_day (Nat.le_of_ble_eq_true rfl) rfl
theorem dX12_day_38 : decode cX12_day 38 = .ok (.ireturn, 1) := op_172 kcX12_day (Nat.le_of_ble_eq_true rfl) rfl
set_option maxRecDepth 20000 in
theorem ggX12_hungry_X12_flag : GoodIn wsX12_hungry wsX12_flag := goodIn_r _ [7] rfl gw_wsX12_flag
set_option maxRecDepth 20000 in
theorem gX12_hungry_X12_flag : GoodIn wsX12_hungry (va_wsS RX12 212 yX12_flag wsX12_flag) := goodIn_app (goodIn_of _ (by decide +kernel)) ggX12_hungry_X12_flag
theorem kcX12_hungry : (cX12_hungry).data.toList = cbs 0xac1bceffa70102843c80781cd400b8030400a7040700a2682e1e100700b42a2e1c1400b42a2e601c17100700b42a1b3000a26400b42a1c3d033c03 59 := by decide +kernel
theorem dX12_hungry_0 : decode cX12_hungry 0 = .ok (.iconst 0, 1) := op_3 kcX12_hungry (Nat.le_of_ble_eq_true rfl) rfl
theorem dX12_hungry_1 : decode cX12_hungry 1 = .ok (.istore_n 1, 1) := op_60 kcX12_hungry (Nat.le_of_ble_eq_true rfl) rfl
theorem dX12_hungry_2 : decode cX12_hungry 2 = .ok (.iconst 0, 1) := op_3 kcX12_hungry (Nat.le_of_ble_eq_true rfl) rfl
theorem dX12_hungry_3 : decode cX12_hungry 3 = .ok (.istore_n 2, 1) := op_61 kcX12_hungry (Nat.le_of_ble_eq_true rfl) rfl
theorem dX12_hungry_4 : decode cX12_hungry 4 = .ok (.iload_n 2, 1) := op_28 kcX12_hungry (Nat.le_of_ble_eq_true rfl) rfl
theorem dX12_hungry_5 : decode cX12_hungry 5 = .ok (.aload_n 0, 1) := op_42 kcX12_hungry (Nat.le_of_ble_eq_true rfl) rfl
theorem dX12_hungry_6 : decode cX12_hungry 6 = .ok (.getfield 100, 3) := op_180 (a := 0) (b := 100) kcX12_hungry (Nat.le_of_ble_eq_true rfl) rfl rfl rfl
theorem dX12_hungry_9 : decode cX12_hungry 9 = .ok (.if_icmp .ge 48, 3) := op_162 (a := 0) (b := 48) kcX12_hungry (Nat.le_of_ble_eq_true rfl) rfl rfl rfl (by decide)
theorem dX12_hungry_12 : decode cX12_hungry 12 = .ok (.iload_n 1, 1) := op_27 kcX12_hungry (Nat.le_of_ble_eq_true rfl) rfl
theorem dX12_hungry_13 : decode cX12_hungry 13 = .ok (.aload_n 0, 1) := op_42 kcX12_hungry (Nat.le_of_ble_eq_true rfl) rfl
theorem dX12_hungry_14 : decode cX12_hungry 14 = .ok (.getfield 7, 3) := op_180 (a := 0) (b := 7) kcX12_hungry (Nat.le_of_ble_eq_true rfl) rfl rfl rfl
theorem dX12_hungry_17 : decode cX12_hungry 17 = .ok (.bipush 23, 2) := op_16 (a := 23) kcX12_hungry (Nat.le_of_ble_eq_true rfl) rfl rfl (by decide)
theorem dX12_hungry_19 : decode cX12_hungry 19 = .ok (.iload_n 2, 1) := op_28 kcX12_hungry (Nat.le_of_ble_eq_true rfl) rfl
theorem dX12_hungry_20 : decode cX12_hungry 20 = .ok (.iadd, 1) := op_96 kcX12_hungry (Nat.le_of_ble_eq_true rfl) rfl
theorem dX12_hungry_21 : decode cX12_hungry 21 = .ok (.iaload, 1) := op_46 kcX12_hungry (Nat.le_of_ble_eq_true rfl) rfl
theorem dX12_hungry_22 : decode cX12_hungry 22 = .ok (.aload_n 0, 1) := op_42 kcX12_hungry (Nat.le_of_ble_eq_true rfl) rfl
theorem dX12_hungry_23 : decode cX12_hungry 23 = .ok (.getfield 20, 3) := op_180 (a := 0) (b := 20) kcX12_hungry (Nat.le_of_ble_eq_true rfl) rfl rfl rfl
theorem dX12_hungry_26 : decode cX12_hungry 26 = .ok (.iload_n 2, 1) := op_28 kcX12_hungry (Nat.le_of_ble_eq_true rfl) rfl
theorem dX12_hungry_27 : decode cX12_hungry 27 = .ok (.iaload, 1) := op_46 kcX12_hungry (Nat.le_of_ble_eq_true rfl) rfl
theorem dX12_hungry_28 : decode cX12_hungry 28 = .ok (.aload_n 0, 1) := op_42 kcX12_hungry (Nat.le_of_ble_eq_true rfl) rfl
theorem dX12_hungry_29 : decode cX12_hungry 29 = .ok (.getfield 7, 3) := op_180 (a := 0) (b := 7) kcX12_hungry (Nat.le_of_ble_eq_true rfl) rfl rfl rfl
theorem dX12_hungry_32 : decode cX12_hungry 32 = .ok (.bipush 30, 2) := op_16 (a := 30) kcX12_hungry (Nat.le_of_ble_eq_true rfl) rfl rfl (by decide)
theorem dX12_hungry_34 : decode cX12_hungry 34 = .ok (.iaload, 1) := op_46 kcX12_hungry (Nat.le_of_ble_eq_true rfl) rfl
theorem dX12_hungry_35 : decode cX12_hungry 35 = .ok (.imul, 1) := op_104 kcX12_hungry (Nat.le_of_ble_eq_true rfl) rfl
theorem dX12_hungry_36 : decode cX12_hungry 36 = .ok (.if_icmp .ge 7, 3) := op_162 (a := 0) (b := 7) kcX12_hungry (Nat.le_of_ble_eq_true rfl) rfl rfl rfl (by decide)
theorem dX12_hungry_39 : decode cX12_hungry 39 = .ok (.iconst 1, 1) := op_4 kcX12_hungry (Nat.le_of_ble_eq_true rfl) rfl
theorem dX12_hungry_40 : decode cX12_hungry 40 = .ok (.goto 4, 3) := op_167 (a := 0) (b := 4) kcX12_hungry (Nat.le_of_ble_eq_true rfl) rfl rfl rfl (by decide)
theorem dX12_hungry_43 : decode cX12_hungry 43 = .ok (.iconst 0, 1) := op_3 kcX12_hungry (Nat.le_of_ble_eq_true rfl) rfl
theorem dX12_hungry_44 : decode cX12_hungry 44 = .ok (.invokestatic 212, 3) := op_184 (a := 0) (b := 212) kcX12_hungry (Nat.le_of_ble_eq_true rfl) rfl rfl rfl
theorem dX12_hungry_47 : decode cX12_hungry 47 = .ok (.iload_n 2, 1) := op_28 kcX12_hungry (Nat.le_of_ble_eq_true rfl) rfl
theorem dX12_hungry_48 : decode cX12_hungry 48 = .ok (.ishl, 1) := op_120 kcX12_hungry (Nat.le_of_ble_eq_true rfl) rfl
theorem dX12_hungry_49 : decode cX12_hungry 49 = .ok (.ior, 1) := op_128 kcX12_hungry (Nat.le_of_ble_eq_true rfl) rfl
theorem dX12_hungry_50 : decode cX12_hungry 50 = .ok (.istore_n 1, 1) := op_60 kcX12_hungry (Nat.le_of_ble_eq_true rfl) rfl
theorem dX12_hungry_51 : decode cX12_hungry 51 = .ok (.iinc 2 1, 3) := by decide +kernel
theorem dX12_hungry_54 : decode cX12_hungry 54 = .ok (.goto (-50), 3) := op_167 (a := 255) (b := 206) kcX12_hungry (Nat.le_of_ble_eq_true rfl) rfl rfl rfl (by decide)
theorem dX12_hungry_57 : decode cX12_hungry 57 = .ok (.iload_n 1, 1) := op_27 kcX12_hungry (Nat.le_of_ble_eq_true rfl) rfl
theorem dX12_hungry_58 : decode cX12_hungry 58 = .ok (.ireturn, 1) := op_172 kcX12_hungry (Nat.le_of_ble_eq_true rfl) rfl
theorem kcX12_common : (cX12_common).data.toList = cbs 0xad0416eaffa70637081604370616083771061604161500999409061606372004371e 34 := by decide +kernel
theorem dX12_common_0 : decode cX12_common 0 = .ok (.lload_n 0, 1) := op_30 kcX12_common (Nat.le_of_ble_eq_true rfl) rfl
theorem dX12_common_1 : decode cX12_common 1 = .ok (.lstore 4, 2) := op_55 (a := 4) kcX12_common (Nat.le_of_ble_eq_true rfl) rfl rfl
theorem dX12_common_3 : decode cX12_common 3 = .ok (.lload_n 2, 1) := op_32 kcX12_common (Nat.le_of_ble_eq_true rfl) rfl
theorem dX12_common_4 : decode cX12_common 4 = .ok (.lstore 6, 2) := op_55 (a := 6) kcX12_common (Nat.le_of_ble_eq_true rfl) rfl rfl
theorem dX12_common_6 : decode cX12_common 6 = .ok (.lload 6, 2) := op_22 (a := 6) kcX12_common (Nat.le_of_ble_eq_true rfl) rfl rfl
theorem dX12_common_8 : decode cX12_common 8 = .ok (.lconst 0, 1) := op_9 kcX12_common (Nat.le_of_ble_eq_true rfl) rfl
theorem dX12_common_9 : decode cX12_common 9 = .ok (.lcmp, 1) := op_148 kcX12_common (Nat.le_of_ble_eq_true rfl) rfl
theorem dX12_common_10 : decode cX12_common 10 = .ok (.ifCond .eq 21, 3) := op_153 (a := 0) (b := 21) kcX12_common (Nat.le_of_ble_eq_true rfl) rfl rfl rfl (by decide)
theorem dX12_common_13 : decode cX12_common 13 = .ok (.lload 4, 2) := op_22 (a := 4) kcX12_common (Nat.le_of_ble_eq_true rfl) rfl rfl
theorem dX12_common_15 : decode cX12_common 15 = .ok (.lload 6, 2) := op_22 (a := 6) kcX12_common (Nat.le_of_ble_eq_true rfl) rfl rfl
theorem dX12_common_17 : decode cX12_common 17 = .ok (.lrem, 1) := op_113 kcX12_common (Nat.le_of_ble_eq_true rfl) rfl
theorem dX12_common_18 : decode cX12_common 18 = .ok (.lstore 8, 2) := op_55 (a := 8) kcX12_common (Nat.le_of_ble_eq_true rfl) rfl rfl
theorem dX12_common_20 : decode cX12_common 20 = .ok (.lload 6, 2) := op_22 (a := 6) kcX12_common (Nat.le_of_ble_eq_true rfl) rfl rfl
theorem dX12_common_22 : decode cX12_common 22 = .ok (.lstore 4, 2) := op_55 (a := 4) kcX12_common (Nat.le_of_ble_eq_true rfl) rfl rfl
theorem dX12_common_24 : decode cX12_common 24 = .ok (.lload 8, 2) := op_22 (a := 8) kcX12_common (Nat.le_of_ble_eq_true rfl) rfl rfl
theorem dX12_common_26 : decode cX12_common 26 = .ok (.lstore 6, 2) := op_55 (a := 6) kcX12_common (Nat.le_of_ble_eq_true rfl) rfl rfl
theorem dX12_common_28 : decode cX12_common 28 = .ok (.goto (-22), 3) := op_167 (a := 255) (b := 234) kcX12_common (Nat.le_of_ble_eq_true rfl) rfl rfl rfl (by decide)
theorem dX12_common_31 : decode cX12_common 31 = .ok (.lload 4, 2) := op_22 (a := 4) kcX12_common (Nat.le_of_ble_eq_true rfl) rfl rfl
theorem dX12_common_33 : decode cX12_common 33 = .ok (.lreturn, 1) := op_173 kcX12_common (Nat.le_of_ble_eq_true rfl) rfl
set_option maxRecDepth 20000 in
theorem gw_wsX12_common : (wsX12_common).all goodWord = true := by decide +kernel
set_option maxRecDepth 20000 in
theorem ggX12_lowest_X12_common : GoodIn wsX12_lowest wsX12_common := goodIn_r _ [4] rfl gw_wsX12_common
set_option maxRecDepth 20000 in
theorem gX12_lowest_X12_common : GoodIn wsX12_lowest (va_wsS RX12 229 yX12_common wsX12_common) := goodIn_app (goodIn_of _ (by decide +kernel)) ggX12_lowest_X12_common
theorem kcX12_lowest : (cX12_lowest).data.toList = cbs 0xad6d0516200700a76d05161e0a009a04150537e500b81e20 24 := by decide +kernel
theorem dX12_lowest_0 : decode cX12_lowest 0 = .ok (.lload_n 2, 1) := op_32 kcX12_lowest (Nat.le_of_ble_eq_true rfl) rfl
theorem dX12_lowest_1 : decode cX12_lowest 1 = .ok (.lload_n 0, 1) := op_30 kcX12_lowest (Nat.le_of_ble_eq_true rfl) rfl
theorem dX12_lowest_2 : decode cX12_lowest 2 = .ok (.invokestatic 229, 3) := op_184 (a := 0) (b := 229) kcX12_lowest (Nat.le_of_ble_eq_true rfl) rfl rfl rfl
theorem dX12_lowest_5 : decode cX12_lowest 5 = .ok (.lstore 5, 2) := op_55 (a := 5) kcX12_lowest (Nat.le_of_ble_eq_true rfl) rfl rfl
theorem dX12_lowest_7 : decode cX12_lowest 7 = .ok (.iload 4, 2) := op_21 (a := 4) kcX12_lowest (Nat.le_of_ble_eq_true rfl) rfl rfl
theorem dX12_lowest_9 : decode cX12_lowest 9 = .ok (.ifCond .ne 10, 3) := op_154 (a := 0) (b := 10) kcX12_lowest (Nat.le_of_ble_eq_true rfl) rfl rfl rfl (by decide)
theorem dX12_lowest_12 : decode cX12_lowest 12 = .ok (.lload_n 0, 1) := op_30 kcX12_lowest (Nat.le_of_ble_eq_true rfl) rfl
theorem dX12_lowest_13 : decode cX12_lowest 13 = .ok (.lload 5, 2) := op_22 (a := 5) kcX12_lowest (Nat.le_of_ble_eq_true rfl) rfl rfl
theorem dX12_lowest_15 : decode cX12_lowest 15 = .ok (.ldiv, 1) := op_109 kcX12_lowest (Nat.le_of_ble_eq_true rfl) rfl
theorem dX12_lowest_16 : decode cX12_lowest 16 = .ok (.goto 7, 3) := op_167 (a := 0) (b := 7) kcX12_lowest (Nat.le_of_ble_eq_true rfl) rfl rfl rfl (by decide)
theorem dX12_lowest_19 : decode cX12_lowest 19 = .ok (.lload_n 2, 1) := op_32 kcX12_lowest (Nat.le_of_ble_eq_true rfl) rfl
theorem dX12_lowest_20 : decode cX12_lowest 20 = .ok (.lload 5, 2) := op_22 (a := 5) kcX12_lowest (Nat.le_of_ble_eq_true rfl) rfl rfl
theorem dX12_lowest_22 : decode cX12_lowest 22 = .ok (.ldiv, 1) := op_109 kcX12_lowest (Nat.le_of_ble_eq_true rfl) rfl
theorem dX12_lowest_23 : decode cX12_lowest 23 = .ok (.lreturn, 1) := op_173 kcX12_lowest (Nat.le_of_ble_eq_true rfl) rfl
theorem kcX12_power : (cX12_power).data.toList = cbs 0xad0416f1ffa70106840437691f04160f00a21d061506360304370a 27 := by decide +kernel
theorem dX12_power_0 : decode cX12_power 0 = .ok (.lconst 1, 1) := op_10 kcX12_power (Nat.le_of_ble_eq_true rfl) rfl
theorem dX12_power_1 : decode cX12_power 1 = .ok (.lstore 4, 2) := op_55 (a := 4) kcX12_power (Nat.le_of_ble_eq_true rfl) rfl rfl
theorem dX12_power_3 : decode cX12_power 3 = .ok (.iconst 0, 1) := op_3 kcX12_power (Nat.le_of_ble_eq_true rfl) rfl
theorem dX12_power_4 : decode cX12_power 4 = .ok (.istore 6, 2) := op_54 (a := 6) kcX12_power (Nat.le_of_ble_eq_true rfl) rfl rfl
theorem dX12_power_6 : decode cX12_power 6 = .ok (.iload 6, 2) := op_21 (a := 6) kcX12_power (Nat.le_of_ble_eq_true rfl) rfl rfl
theorem dX12_power_8 : decode cX12_power 8 = .ok (.iload_n 3, 1) := op_29 kcX12_power (Nat.le_of_ble_eq_true rfl) rfl
theorem dX12_power_9 : decode cX12_power 9 = .ok (.if_icmp .ge 15, 3) := op_162 (a := 0) (b := 15) kcX12_power (Nat.le_of_ble_eq_true rfl) rfl rfl rfl (by decide)
theorem dX12_power_12 : decode cX12_power 12 = .ok (.lload 4, 2) := op_22 (a := 4) kcX12_power (Nat.le_of_ble_eq_true rfl) rfl rfl
theorem dX12_power_14 : decode cX12_power 14 = .ok (.lload_n 1, 1) := op_31 kcX12_power (Nat.le_of_ble_eq_true rfl) rfl
theorem dX12_power_15 : decode cX12_power 15 = .ok (.lmul, 1) := op_105 kcX12_power (Nat.le_of_ble_eq_true rfl) rfl
theorem dX12_power_16 : decode cX12_power 16 = .ok (.lstore 4, 2) := op_55 (a := 4) kcX12_power (Nat.le_of_ble_eq_true rfl) rfl rfl
theorem dX12_power_18 : decode cX12_power 18 = .ok (.iinc 6 1, 3) := by decide +kernel
theorem dX12_power_21 : decode cX12_power 21 = .ok (.goto (-15), 3) := op_167 (a := 255) (b := 241) kcX12_power (Nat.le_of_ble_eq_true rfl) rfl rfl rfl (by decide)
theorem dX12_power_24 : decode cX12_power 24 = .ok (.lload 4, 2) := op_22 (a := 4) kcX12_power (Nat.le_of_ble_eq_true rfl) rfl rfl
theorem dX12_power_26 : decode cX12_power 26 = .ok (.lreturn, 1) := op_173 kcX12_power (Nat.le_of_ble_eq_true rfl) rfl
theorem kcX12_firstWays : (cX12_firstWays).data.toList = cbs 0xb1500a602e08100700b42a682e07100700b42a07102900b42af0ffa701018450091b2900b42a1000a231101b3c03 46 := by decide +kernel
theorem dX12_firstWays_0 : decode cX12_firstWays 0 = .ok (.iconst 0, 1) := op_3 kcX12_firstWays (Nat.le_of_ble_eq_true rfl) rfl
theorem dX12_firstWays_1 : decode cX12_firstWays 1 = .ok (.istore_n 1, 1) := op_60 kcX12_firstWays (Nat.le_of_ble_eq_true rfl) rfl
theorem dX12_firstWays_2 : decode cX12_firstWays 2 = .ok (.iload_n 1, 1) := op_27 kcX12_firstWays (Nat.le_of_ble_eq_true rfl) rfl
theorem dX12_firstWays_3 : decode cX12_firstWays 3 = .ok (.bipush 49, 2) := op_16 (a := 49) kcX12_firstWays (Nat.le_of_ble_eq_true rfl) rfl rfl (by decide)
theorem dX12_firstWays_5 : decode cX12_firstWays 5 = .ok (.if_icmp .ge 16, 3) := op_162 (a := 0) (b := 16) kcX12_firstWays (Nat.le_of_ble_eq_true rfl) rfl rfl rfl (by decide)
theorem dX12_firstWays_8 : decode cX12_firstWays 8 = .ok (.aload_n 0, 1) := op_42 kcX12_firstWays (Nat.le_of_ble_eq_true rfl) rfl
theorem dX12_firstWays_9 : decode cX12_firstWays 9 = .ok (.getfield 41, 3) := op_180 (a := 0) (b := 41) kcX12_firstWays (Nat.le_of_ble_eq_true rfl) rfl rfl rfl
theorem dX12_firstWays_12 : decode cX12_firstWays 12 = .ok (.iload_n 1, 1) := op_27 kcX12_firstWays (Nat.le_of_ble_eq_true rfl) rfl
theorem dX12_firstWays_13 : decode cX12_firstWays 13 = .ok (.lconst 0, 1) := op_9 kcX12_firstWays (Nat.le_of_ble_eq_true rfl) rfl
theorem dX12_firstWays_14 : decode cX12_firstWays 14 = .ok (.lastore, 1) := op_80 kcX12_firstWays (Nat.le_of_ble_eq_true rfl) rfl
theorem dX12_firstWays_15 : decode cX12_firstWays 15 = .ok (.iinc 1 1, 3) := by decide +kernel
theorem dX12_firstWays_18 : decode cX12_firstWays 18 = .ok (.goto (-16), 3) := op_167 (a := 255) (b := 240) kcX12_firstWays (Nat.le_of_ble_eq_true rfl) rfl rfl rfl (by decide)
theorem dX12_firstWays_21 : decode cX12_firstWays 21 = .ok (.aload_n 0, 1) := op_42 kcX12_firstWays (Nat.le_of_ble_eq_true rfl) rfl
theorem dX12_firstWays_22 : decode cX12_firstWays 22 = .ok (.getfield 41, 3) := op_180 (a := 0) (b := 41) kcX12_firstWays (Nat.le_of_ble_eq_true rfl) rfl rfl rfl
theorem dX12_firstWays_25 : decode cX12_firstWays 25 = .ok (.bipush 7, 2) := op_16 (a := 7) kcX12_firstWays (Nat.le_of_ble_eq_true rfl) rfl rfl (by decide)
theorem dX12_firstWays_27 : decode cX12_firstWays 27 = .ok (.aload_n 0, 1) := op_42 kcX12_firstWays (Nat.le_of_ble_eq_true rfl) rfl
theorem dX12_firstWays_28 : decode cX12_firstWays 28 = .ok (.getfield 7, 3) := op_180 (a := 0) (b := 7) kcX12_firstWays (Nat.le_of_ble_eq_true rfl) rfl rfl rfl
theorem dX12_firstWays_31 : decode cX12_firstWays 31 = .ok (.bipush 7, 2) := op_16 (a := 7) kcX12_firstWays (Nat.le_of_ble_eq_true rfl) rfl rfl (by decide)
theorem dX12_firstWays_33 : decode cX12_firstWays 33 = .ok (.iaload, 1) := op_46 kcX12_firstWays (Nat.le_of_ble_eq_true rfl) rfl
theorem dX12_firstWays_34 : decode cX12_firstWays 34 = .ok (.imul, 1) := op_104 kcX12_firstWays (Nat.le_of_ble_eq_true rfl) rfl
theorem dX12_firstWays_35 : decode cX12_firstWays 35 = .ok (.aload_n 0, 1) := op_42 kcX12_firstWays (Nat.le_of_ble_eq_true rfl) rfl
theorem dX12_firstWays_36 : decode cX12_firstWays 36 = .ok (.getfield 7, 3) := op_180 (a := 0) (b := 7) kcX12_firstWays (Nat.le_of_ble_eq_true rfl) rfl rfl rfl
theorem dX12_firstWays_39 : decode cX12_firstWays 39 = .ok (.bipush 8, 2) := op_16 (a := 8) kcX12_firstWays (Nat.le_of_ble_eq_true rfl) rfl rfl (by decide)
theorem dX12_firstWays_41 : decode cX12_firstWays 41 = .ok (.iaload, 1) := op_46 kcX12_firstWays (Nat.le_of_ble_eq_true rfl) rfl
theorem dX12_firstWays_42 : decode cX12_firstWays 42 = .ok (.iadd, 1) := op_96 kcX12_firstWays (Nat.le_of_ble_eq_true rfl) rfl
theorem dX12_firstWays_43 : decode cX12_firstWays 43 = .ok (.lconst 1, 1) := op_10 kcX12_firstWays (Nat.le_of_ble_eq_true rfl) rfl
theorem dX12_firstWays_44 : decode cX12_firstWays 44 = .ok (.lastore, 1) := op_80 kcX12_firstWays (Nat.le_of_ble_eq_true rfl) rfl
theorem dX12_firstWays_45 : decode cX12_firstWays 45 = .ok (.return_, 1) := op_177 kcX12_firstWays (Nat.le_of_ble_eq_true rfl) rfl
set_option maxRecDepth 20000 in
theorem ggX12_then_X12_nextBy : GoodIn wsX12_then wsX12_nextBy := goodIn_r _ [6, 7, 1, 8, 9, 10, 5, 11, 12, 13, 14, 15, 16, 17, 18, 19, 20, 21, 22, 23, 24, 25, 26, 27, 28, 29, 30, 31, 32, 33, 34, 35, 36, 37, 38, 39, 40, 41, 42, 43, 44, 45, 46, 47, 48, 49, 50, 51, 52, 53] rfl gw_wsX12_nextBy
set_option maxRecDepth 20000 in
theorem gX12_then_X12_nextBy : GoodIn wsX12_then (wsV RX12 222 RX12 yX12_nextBy wsX12_nextBy) := goodIn_app (goodIn_of _ (by decide +kernel)) ggX12_then_X12_nextBy
theorem kcX12_then : (cX12_then).data.toList = cbs 0xac60de00b66c07101b1c7007101b2a682e606c07101b681c07101100b42a0710 32 := by decide +kernel
theorem dX12_then_0 : decode cX12_then 0 = .ok (.bipush 7, 2) := op_16 (a := 7) kcX12_then (Nat.le_of_ble_eq_true rfl) rfl rfl (by decide)
theorem dX12_then_2 : decode cX12_then 2 = .ok (.aload_n 0, 1) := op_42 kcX12_then (Nat.le_of_ble_eq_true rfl) rfl
theorem dX12_then_3 : decode cX12_then 3 = .ok (.getfield 17, 3) := op_180 (a := 0) (b := 17) kcX12_then (Nat.le_of_ble_eq_true rfl) rfl rfl rfl
theorem dX12_then_6 : decode cX12_then 6 = .ok (.bipush 7, 2) := op_16 (a := 7) kcX12_then (Nat.le_of_ble_eq_true rfl) rfl rfl (by decide)
theorem dX12_then_8 : decode cX12_then 8 = .ok (.iload_n 2, 1) := op_28 kcX12_then (Nat.le_of_ble_eq_true rfl) rfl
theorem dX12_then_9 : decode cX12_then 9 = .ok (.imul, 1) := op_104 kcX12_then (Nat.le_of_ble_eq_true rfl) rfl
theorem dX12_then_10 : decode cX12_then 10 = .ok (.iload_n 1, 1) := op_27 kcX12_then (Nat.le_of_ble_eq_true rfl) rfl
theorem dX12_then_11 : decode cX12_then 11 = .ok (.bipush 7, 2) := op_16 (a := 7) kcX12_then (Nat.le_of_ble_eq_true rfl) rfl rfl (by decide)
theorem dX12_then_13 : decode cX12_then 13 = .ok (.idiv, 1) := op_108 kcX12_then (Nat.le_of_ble_eq_true rfl) rfl
theorem dX12_then_14 : decode cX12_then 14 = .ok (.iadd, 1) := op_96 kcX12_then (Nat.le_of_ble_eq_true rfl) rfl
theorem dX12_then_15 : decode cX12_then 15 = .ok (.iaload, 1) := op_46 kcX12_then (Nat.le_of_ble_eq_true rfl) rfl
theorem dX12_then_16 : decode cX12_then 16 = .ok (.imul, 1) := op_104 kcX12_then (Nat.le_of_ble_eq_true rfl) rfl
theorem dX12_then_17 : decode cX12_then 17 = .ok (.aload_n 0, 1) := op_42 kcX12_then (Nat.le_of_ble_eq_true rfl) rfl
theorem dX12_then_18 : decode cX12_then 18 = .ok (.iload_n 1, 1) := op_27 kcX12_then (Nat.le_of_ble_eq_true rfl) rfl
theorem dX12_then_19 : decode cX12_then 19 = .ok (.bipush 7, 2) := op_16 (a := 7) kcX12_then (Nat.le_of_ble_eq_true rfl) rfl rfl (by decide)
theorem dX12_then_21 : decode cX12_then 21 = .ok (.irem, 1) := op_112 kcX12_then (Nat.le_of_ble_eq_true rfl) rfl
theorem dX12_then_22 : decode cX12_then 22 = .ok (.iload_n 2, 1) := op_28 kcX12_then (Nat.le_of_ble_eq_true rfl) rfl
theorem dX12_then_23 : decode cX12_then 23 = .ok (.iload_n 1, 1) := op_27 kcX12_then (Nat.le_of_ble_eq_true rfl) rfl
theorem dX12_then_24 : decode cX12_then 24 = .ok (.bipush 7, 2) := op_16 (a := 7) kcX12_then (Nat.le_of_ble_eq_true rfl) rfl rfl (by decide)
theorem dX12_then_26 : decode cX12_then 26 = .ok (.idiv, 1) := op_108 kcX12_then (Nat.le_of_ble_eq_true rfl) rfl
theorem dX12_then_27 : decode cX12_then 27 = .ok (.invokevirtual 222, 3) := op_182 (a := 0) (b := 222) kcX12_then (Nat.le_of_ble_eq_true rfl) rfl rfl rfl
theorem dX12_then_30 : decode cX12_then 30 = .ok (.iadd, 1) := op_96 kcX12_then (Nat.le_of_ble_eq_true rfl) rfl
theorem dX12_then_31 : decode cX12_then 31 = .ok (.ireturn, 1) := op_172 kcX12_then (Nat.le_of_ble_eq_true rfl) rfl
set_option maxRecDepth 20000 in
theorem gw_wsX12_then : (wsX12_then).all goodWord = true := by decide +kernel
set_option maxRecDepth 20000 in
theorem ggX12_nextWays_X12_then : GoodIn wsX12_nextWays wsX12_then := goodIn_r _ [8, 9, 10, 11, 12, 7, 13, 14, 15, 16, 17, 18, 19, 20, 21, 22, 23, 24, 25, 26, 27, 28, 29, 30, 31, 32, 33, 34, 35, 36, 37, 38, 39, 40, 41, 42, 43, 44, 45, 46, 47, 48, 49, 50, 51, 52, 53, 54, 55, 56, 57, 58, 59, 60] rfl gw_wsX12_then
set_option maxRecDepth 20000 in
theorem gX12_nextWays_X12_then : GoodIn wsX12_nextWays (wsV RX12 233 RX12 yX12_then wsX12_then) := goodIn_app (goodIn_of _ (by decide +kernel)) ggX12_nextWays_X12_then
theorem kcX12_nextWays : (cX12_nextWays).data.toList = cbs 0xb1ebffa7010284502f1c2d00b42a1c2900b42a1500a231101c3d03b0ffa7010284beffa70103845061090400a72f1c2900b42a0c00a07007101c70071004150f00991b2f5c04152d00b42a0436e900b61d1c2a35009e94092f1c2900b42a4000a26700b42a1d3e035000a231101c3d03f0ffa701028450091c2d00b42a1000a231101c3d03 133 := by decide +kernel
theorem dX12_nextWays_0 : decode cX12_nextWays 0 = .ok (.iconst 0, 1) := op_3 kcX12_nextWays (Nat.le_of_ble_eq_true rfl) rfl
theorem dX12_nextWays_1 : decode cX12_nextWays 1 = .ok (.istore_n 2, 1) := op_61 kcX12_nextWays (Nat.le_of_ble_eq_true rfl) rfl
theorem dX12_nextWays_2 : decode cX12_nextWays 2 = .ok (.iload_n 2, 1) := op_28 kcX12_nextWays (Nat.le_of_ble_eq_true rfl) rfl
theorem dX12_nextWays_3 : decode cX12_nextWays 3 = .ok (.bipush 49, 2) := op_16 (a := 49) kcX12_nextWays (Nat.le_of_ble_eq_true rfl) rfl rfl (by decide)
theorem dX12_nextWays_5 : decode cX12_nextWays 5 = .ok (.if_icmp .ge 16, 3) := op_162 (a := 0) (b := 16) kcX12_nextWays (Nat.le_of_ble_eq_true rfl) rfl rfl rfl (by decide)
theorem dX12_nextWays_8 : decode cX12_nextWays 8 = .ok (.aload_n 0, 1) := op_42 kcX12_nextWays (Nat.le_of_ble_eq_true rfl) rfl
theorem dX12_nextWays_9 : decode cX12_nextWays 9 = .ok (.getfield 45, 3) := op_180 (a := 0) (b := 45) kcX12_nextWays (Nat.le_of_ble_eq_true rfl) rfl rfl rfl
theorem dX12_nextWays_12 : decode cX12_nextWays 12 = .ok (.iload_n 2, 1) := op_28 kcX12_nextWays (Nat.le_of_ble_eq_true rfl) rfl
theorem dX12_nextWays_13 : decode cX12_nextWays 13 = .ok (.lconst 0, 1) := op_9 kcX12_nextWays (Nat.le_of_ble_eq_true rfl) rfl
theorem dX12_nextWays_14 : decode cX12_nextWays 14 = .ok (.lastore, 1) := op_80 kcX12_nextWays (Nat.le_of_ble_eq_true rfl) rfl
theorem dX12_nextWays_15 : decode cX12_nextWays 15 = .ok (.iinc 2 1, 3) := by decide +kernel
theorem dX12_nextWays_18 : decode cX12_nextWays 18 = .ok (.goto (-16), 3) := op_167 (a := 255) (b := 240) kcX12_nextWays (Nat.le_of_ble_eq_true rfl) rfl rfl rfl (by decide)
theorem dX12_nextWays_21 : decode cX12_nextWays 21 = .ok (.iconst 0, 1) := op_3 kcX12_nextWays (Nat.le_of_ble_eq_true rfl) rfl
theorem dX12_nextWays_22 : decode cX12_nextWays 22 = .ok (.istore_n 2, 1) := op_61 kcX12_nextWays (Nat.le_of_ble_eq_true rfl) rfl
theorem dX12_nextWays_23 : decode cX12_nextWays 23 = .ok (.iload_n 2, 1) := op_28 kcX12_nextWays (Nat.le_of_ble_eq_true rfl) rfl
theorem dX12_nextWays_24 : decode cX12_nextWays 24 = .ok (.bipush 49, 2) := op_16 (a := 49) kcX12_nextWays (Nat.le_of_ble_eq_true rfl) rfl rfl (by decide)
theorem dX12_nextWays_26 : decode cX12_nextWays 26 = .ok (.if_icmp .ge 80, 3) := op_162 (a := 0) (b := 80) kcX12_nextWays (Nat.le_of_ble_eq_true rfl) rfl rfl rfl (by decide)
theorem dX12_nextWays_29 : decode cX12_nextWays 29 = .ok (.iconst 0, 1) := op_3 kcX12_nextWays (Nat.le_of_ble_eq_true rfl) rfl
theorem dX12_nextWays_30 : decode cX12_nextWays 30 = .ok (.istore_n 3, 1) := op_62 kcX12_nextWays (Nat.le_of_ble_eq_true rfl) rfl
theorem dX12_nextWays_31 : decode cX12_nextWays 31 = .ok (.iload_n 3, 1) := op_29 kcX12_nextWays (Nat.le_of_ble_eq_true rfl) rfl
theorem dX12_nextWays_32 : decode cX12_nextWays 32 = .ok (.aload_n 0, 1) := op_42 kcX12_nextWays (Nat.le_of_ble_eq_true rfl) rfl
theorem dX12_nextWays_33 : decode cX12_nextWays 33 = .ok (.getfield 103, 3) := op_180 (a := 0) (b := 103) kcX12_nextWays (Nat.le_of_ble_eq_true rfl) rfl rfl rfl
theorem dX12_nextWays_36 : decode cX12_nextWays 36 = .ok (.if_icmp .ge 64, 3) := op_162 (a := 0) (b := 64) kcX12_nextWays (Nat.le_of_ble_eq_true rfl) rfl rfl rfl (by decide)
theorem dX12_nextWays_39 : decode cX12_nextWays 39 = .ok (.aload_n 0, 1) := op_42 kcX12_nextWays (Nat.le_of_ble_eq_true rfl) rfl
theorem dX12_nextWays_40 : decode cX12_nextWays 40 = .ok (.getfield 41, 3) := op_180 (a := 0) (b := 41) kcX12_nextWays (Nat.le_of_ble_eq_true rfl) rfl rfl rfl
theorem dX12_nextWays_43 : decode cX12_nextWays 43 = .ok (.iload_n 2, 1) := op_28 kcX12_nextWays (Nat.le_of_ble_eq_true rfl) rfl
theorem dX12_nextWays_44 : decode cX12_nextWays 44 = .ok (.laload, 1) := op_47 kcX12_nextWays (Nat.le_of_ble_eq_true rfl) rfl
theorem dX12_nextWays_45 : decode cX12_nextWays 45 = .ok (.lconst 0, 1) := op_9 kcX12_nextWays (Nat.le_of_ble_eq_true rfl) rfl
theorem dX12_nextWays_46 : decode cX12_nextWays 46 = .ok (.lcmp, 1) := op_148 kcX12_nextWays (Nat.le_of_ble_eq_true rfl) rfl
theorem dX12_nextWays_47 : decode cX12_nextWays 47 = .ok (.ifCond .le 53, 3) := op_158 (a := 0) (b := 53) kcX12_nextWays (Nat.le_of_ble_eq_true rfl) rfl rfl rfl (by decide)
theorem dX12_nextWays_50 : decode cX12_nextWays 50 = .ok (.aload_n 0, 1) := op_42 kcX12_nextWays (Nat.le_of_ble_eq_true rfl) rfl
theorem dX12_nextWays_51 : decode cX12_nextWays 51 = .ok (.iload_n 2, 1) := op_28 kcX12_nextWays (Nat.le_of_ble_eq_true rfl) rfl
theorem dX12_nextWays_52 : decode cX12_nextWays 52 = .ok (.iload_n 3, 1) := op_29 kcX12_nextWays (Nat.le_of_ble_eq_true rfl) rfl
theorem dX12_nextWays_53 : decode cX12_nextWays 53 = .ok (.invokevirtual 233, 3) := op_182 (a := 0) (b := 233) kcX12_nextWays (Nat.le_of_ble_eq_true rfl) rfl rfl rfl
theorem dX12_nextWays_56 : decode cX12_nextWays 56 = .ok (.istore 4, 2) := op_54 (a := 4) kcX12_nextWays (Nat.le_of_ble_eq_true rfl) rfl rfl
theorem dX12_nextWays_58 : decode cX12_nextWays 58 = .ok (.aload_n 0, 1) := op_42 kcX12_nextWays (Nat.le_of_ble_eq_true rfl) rfl
theorem dX12_nextWays_59 : decode cX12_nextWays 59 = .ok (.getfield 45, 3) := op_180 (a := 0) (b := 45) kcX12_nextWays (Nat.le_of_ble_eq_true rfl) rfl rfl rfl
theorem dX12_nextWays_62 : decode cX12_nextWays 62 = .ok (.iload 4, 2) := op_21 (a := 4) kcX12_nextWays (Nat.le_of_ble_eq_true rfl) rfl rfl
theorem dX12_nextWays_64 : decode cX12_nextWays 64 = .ok (.dup2, 1) := op_92 kcX12_nextWays (Nat.le_of_ble_eq_true rfl) rfl
theorem dX12_nextWays_65 : decode cX12_nextWays 65 = .ok (.laload, 1) := op_47 kcX12_nextWays (Nat.le_of_ble_eq_true rfl) rfl
theorem dX12_nextWays_66 : decode cX12_nextWays 66 = .ok (.iload_n 1, 1) := op_27 kcX12_nextWays (Nat.le_of_ble_eq_true rfl) rfl
theorem dX12_nextWays_67 : decode cX12_nextWays 67 = .ok (.ifCond .eq 15, 3) := op_153 (a := 0) (b := 15) kcX12_nextWays (Nat.le_of_ble_eq_true rfl) rfl rfl rfl (by decide)
theorem dX12_nextWays_70 : decode cX12_nextWays 70 = .ok (.iload 4, 2) := op_21 (a := 4) kcX12_nextWays (Nat.le_of_ble_eq_true rfl) rfl rfl
theorem dX12_nextWays_72 : decode cX12_nextWays 72 = .ok (.bipush 7, 2) := op_16 (a := 7) kcX12_nextWays (Nat.le_of_ble_eq_true rfl) rfl rfl (by decide)
theorem dX12_nextWays_74 : decode cX12_nextWays 74 = .ok (.irem, 1) := op_112 kcX12_nextWays (Nat.le_of_ble_eq_true rfl) rfl
theorem dX12_nextWays_75 : decode cX12_nextWays 75 = .ok (.iload_n 2, 1) := op_28 kcX12_nextWays (Nat.le_of_ble_eq_true rfl) rfl
theorem dX12_nextWays_76 : decode cX12_nextWays 76 = .ok (.bipush 7, 2) := op_16 (a := 7) kcX12_nextWays (Nat.le_of_ble_eq_true rfl) rfl rfl (by decide)
theorem dX12_nextWays_78 : decode cX12_nextWays 78 = .ok (.irem, 1) := op_112 kcX12_nextWays (Nat.le_of_ble_eq_true rfl) rfl
theorem dX12_nextWays_79 : decode cX12_nextWays 79 = .ok (.if_icmp .ne 12, 3) := op_160 (a := 0) (b := 12) kcX12_nextWays (Nat.le_of_ble_eq_true rfl) rfl rfl rfl (by decide)
theorem dX12_nextWays_82 : decode cX12_nextWays 82 = .ok (.aload_n 0, 1) := op_42 kcX12_nextWays (Nat.le_of_ble_eq_true rfl) rfl
theorem dX12_nextWays_83 : decode cX12_nextWays 83 = .ok (.getfield 41, 3) := op_180 (a := 0) (b := 41) kcX12_nextWays (Nat.le_of_ble_eq_true rfl) rfl rfl rfl
theorem dX12_nextWays_86 : decode cX12_nextWays 86 = .ok (.iload_n 2, 1) := op_28 kcX12_nextWays (Nat.le_of_ble_eq_true rfl) rfl
theorem dX12_nextWays_87 : decode cX12_nextWays 87 = .ok (.laload, 1) := op_47 kcX12_nextWays (Nat.le_of_ble_eq_true rfl) rfl
theorem dX12_nextWays_88 : decode cX12_nextWays 88 = .ok (.goto 4, 3) := op_167 (a := 0) (b := 4) kcX12_nextWays (Nat.le_of_ble_eq_true rfl) rfl rfl rfl (by decide)
theorem dX12_nextWays_91 : decode cX12_nextWays 91 = .ok (.lconst 0, 1) := op_9 kcX12_nextWays (Nat.le_of_ble_eq_true rfl) rfl
theorem dX12_nextWays_92 : decode cX12_nextWays 92 = .ok (.ladd, 1) := op_97 kcX12_nextWays (Nat.le_of_ble_eq_true rfl) rfl
theorem dX12_nextWays_93 : decode cX12_nextWays 93 = .ok (.lastore, 1) := op_80 kcX12_nextWays (Nat.le_of_ble_eq_true rfl) rfl
theorem dX12_nextWays_94 : decode cX12_nextWays 94 = .ok (.iinc 3 1, 3) := by decide +kernel
theorem dX12_nextWays_97 : decode cX12_nextWays 97 = .ok (.goto (-66), 3) := op_167 (a := 255) (b := 190) kcX12_nextWays (Nat.le_of_ble_eq_true rfl) rfl rfl rfl (by decide)
theorem dX12_nextWays_100 : decode cX12_nextWays 100 = .ok (.iinc 2 1, 3) := by decide +kernel
theorem dX12_nextWays_103 : decode cX12_nextWays 103 = .ok (.goto (-80), 3) := op_167 (a := 255) (b := 176) kcX12_nextWays (Nat.le_of_ble_eq_true rfl) rfl rfl rfl (by decide)
theorem dX12_nextWays_106 : decode cX12_nextWays 106 = .ok (.iconst 0, 1) := op_3 kcX12_nextWays (Nat.le_of_ble_eq_true rfl) rfl
theorem dX12_nextWays_107 : decode cX12_nextWays 107 = .ok (.istore_n 2, 1) := op_61 kcX12_nextWays (Nat.le_of_ble_eq_true rfl) rfl
theorem dX12_nextWays_108 : decode cX12_nextWays 108 = .ok (.iload_n 2, 1) := op_28 kcX12_nextWays (Nat.le_of_ble_eq_true rfl) rfl
theorem dX12_nextWays_109 : decode cX12_nextWays 109 = .ok (.bipush 49, 2) := op_16 (a := 49) kcX12_nextWays (Nat.le_of_ble_eq_true rfl) rfl rfl (by decide)
theorem dX12_nextWays_111 : decode cX12_nextWays 111 = .ok (.if_icmp .ge 21, 3) := op_162 (a := 0) (b := 21) kcX12_nextWays (Nat.le_of_ble_eq_true rfl) rfl rfl rfl (by decide)
theorem dX12_nextWays_114 : decode cX12_nextWays 114 = .ok (.aload_n 0, 1) := op_42 kcX12_nextWays (Nat.le_of_ble_eq_true rfl) rfl
theorem dX12_nextWays_115 : decode cX12_nextWays 115 = .ok (.getfield 41, 3) := op_180 (a := 0) (b := 41) kcX12_nextWays (Nat.le_of_ble_eq_true rfl) rfl rfl rfl
theorem dX12_nextWays_118 : decode cX12_nextWays 118 = .ok (.iload_n 2, 1) := op_28 kcX12_nextWays (Nat.le_of_ble_eq_true rfl) rfl
theorem dX12_nextWays_119 : decode cX12_nextWays 119 = .ok (.aload_n 0, 1) := op_42 kcX12_nextWays (Nat.le_of_ble_eq_true rfl) rfl
theorem dX12_nextWays_120 : decode cX12_nextWays 120 = .ok (.getfield 45, 3) := op_180 (a := 0) (b := 45) kcX12_nextWays (Nat.le_of_ble_eq_true rfl) rfl rfl rfl
theorem dX12_nextWays_123 : decode cX12_nextWays 123 = .ok (.iload_n 2, 1) := op_28 kcX12_nextWays (Nat.le_of_ble_eq_true rfl) rfl
theorem dX12_nextWays_124 : decode cX12_nextWays 124 = .ok (.laload, 1) := op_47 kcX12_nextWays (Nat.le_of_ble_eq_true rfl) rfl
theorem dX12_nextWays_125 : decode cX12_nextWays 125 = .ok (.lastore, 1) := op_80 kcX12_nextWays (Nat.le_of_ble_eq_true rfl) rfl
theorem dX12_nextWays_126 : decode cX12_nextWays 126 = .ok (.iinc 2 1, 3) := by decide +kernel
theorem dX12_nextWays_129 : decode cX12_nextWays 129 = .ok (.goto (-21), 3) := op_167 (a := 255) (b := 235) kcX12_nextWays (Nat.le_of_ble_eq_true rfl) rfl rfl rfl (by decide)
theorem dX12_nextWays_132 : decode cX12_nextWays 132 = .ok (.return_, 1) := op_177 kcX12_nextWays (Nat.le_of_ble_eq_true rfl) rfl
set_option maxRecDepth 20000 in
theorem ggX12_isTold_X12_in : GoodIn wsX12_isTold wsX12_in := goodIn_r _ [4] rfl gw_wsX12_in
set_option maxRecDepth 20000 in
theorem gX12_isTold_X12_in : GoodIn wsX12_isTold (va_wsS RX12 115 yX12_in wsX12_in) := goodIn_app (goodIn_of _ (by decide +kernel)) ggX12_isTold_X12_in
theorem kcX12_isTold : (cX12_isTold).data.toList = cbs 0xac7300b80a09851a 8 := by decide +kernel
theorem dX12_isTold_0 : decode cX12_isTold 0 = .ok (.iload_n 0, 1) := op_26 kcX12_isTold (Nat.le_of_ble_eq_true rfl) rfl
theorem dX12_isTold_1 : decode cX12_isTold 1 = .ok (.i2l, 1) := op_133 kcX12_isTold (Nat.le_of_ble_eq_true rfl) rfl
theorem dX12_isTold_2 : decode cX12_isTold 2 = .ok (.lconst 0, 1) := op_9 kcX12_isTold (Nat.le_of_ble_eq_true rfl) rfl
theorem dX12_isTold_3 : decode cX12_isTold 3 = .ok (.lconst 1, 1) := op_10 kcX12_isTold (Nat.le_of_ble_eq_true rfl) rfl
theorem dX12_isTold_4 : decode cX12_isTold 4 = .ok (.invokestatic 115, 3) := op_184 (a := 0) (b := 115) kcX12_isTold (Nat.le_of_ble_eq_true rfl) rfl rfl rfl
theorem dX12_isTold_7 : decode cX12_isTold 7 = .ok (.ireturn, 1) := op_172 kcX12_isTold (Nat.le_of_ble_eq_true rfl) rfl
set_option maxRecDepth 20000 in
theorem ggX12_chance_X12_isSeat : GoodIn wsX12_chance wsX12_isSeat := goodIn_r _ [10, 11, 12, 13, 9, 14, 55, 56, 57, 58, 59, 60, 61, 62, 63, 64, 65, 66, 67, 68, 69, 70, 71, 72, 73, 74, 75, 76, 77, 78, 79, 80, 81, 82, 83, 84, 85, 86, 87, 88, 89, 90, 91] rfl gw_wsX12_isSeat
set_option maxRecDepth 20000 in
theorem gX12_chance_X12_isSeat : GoodIn wsX12_chance (wsV RX12 203 RX12 yX12_isSeat wsX12_isSeat) := goodIn_app (goodIn_of _ (by decide +kernel)) ggX12_chance_X12_isSeat
set_option maxRecDepth 20000 in
theorem ggX12_chance_X12_in : GoodIn wsX12_chance wsX12_in := goodIn_r _ [14] rfl gw_wsX12_in
set_option maxRecDepth 20000 in
theorem gX12_chance_X12_in : GoodIn wsX12_chance (va_wsS RX12 115 yX12_in wsX12_in) := goodIn_app (goodIn_of _ (by decide +kernel)) ggX12_chance_X12_in
set_option maxRecDepth 20000 in
theorem gw_wsX12_isTold : (wsX12_isTold).all goodWord = true := by decide +kernel
set_option maxRecDepth 20000 in
theorem ggX12_chance_X12_isTold : GoodIn wsX12_chance wsX12_isTold := goodIn_r _ [17, 12, 13, 9, 14] rfl gw_wsX12_isTold
set_option maxRecDepth 20000 in
theorem gX12_chance_X12_isTold : GoodIn wsX12_chance (va_wsS RX12 238 yX12_isTold wsX12_isTold) := goodIn_app (goodIn_of _ (by decide +kernel)) ggX12_chance_X12_isTold
set_option maxRecDepth 20000 in
theorem gw_wsX12_firstWays : (wsX12_firstWays).all goodWord = true := by decide +kernel
set_option maxRecDepth 20000 in
theorem ggX12_chance_X12_firstWays : GoodIn wsX12_chance wsX12_firstWays := goodIn_r _ [21, 5, 22, 55, 56, 57, 58, 59, 60, 61, 62, 63, 64, 65, 66, 67, 68, 69, 70, 71, 72, 73, 74, 75, 76, 77, 78, 79, 80, 81, 82, 83, 84, 85, 86, 87, 88, 89, 90, 91] rfl gw_wsX12_firstWays
set_option maxRecDepth 20000 in
theorem gX12_chance_X12_firstWays : GoodIn wsX12_chance (wsV RX12 245 RX12 yX12_firstWays wsX12_firstWays) := goodIn_app (goodIn_of _ (by decide +kernel)) ggX12_chance_X12_firstWays
set_option maxRecDepth 20000 in
theorem gw_wsX12_nextWays : (wsX12_nextWays).all goodWord = true := by decide +kernel
set_option maxRecDepth 20000 in
theorem ggX12_chance_X12_nextWays : GoodIn wsX12_chance wsX12_nextWays := goodIn_r _ [26, 27, 3, 5, 28, 29, 30, 9, 31, 32, 33, 34, 35, 36, 37, 38, 39, 40, 41, 11, 22, 42, 43, 44, 55, 56, 57, 58, 59, 60, 61, 62, 63, 64, 65, 66, 67, 68, 69, 70, 71, 72, 73, 74, 75, 76, 77, 78, 79, 80, 81, 82, 83, 84, 85, 86, 87, 88, 89, 90, 91] rfl gw_wsX12_nextWays
set_option maxRecDepth 20000 in
theorem gX12_chance_X12_nextWays : GoodIn wsX12_chance (wsV RX12 248 RX12 yX12_nextWays wsX12_nextWays) := goodIn_app (goodIn_of _ (by decide +kernel)) ggX12_chance_X12_nextWays
set_option maxRecDepth 20000 in
theorem gw_wsX12_power : (wsX12_power).all goodWord = true := by decide +kernel
set_option maxRecDepth 20000 in
theorem ggX12_chance_X12_power : GoodIn wsX12_chance wsX12_power := goodIn_r _ [48] rfl gw_wsX12_power
set_option maxRecDepth 20000 in
theorem gX12_chance_X12_power : GoodIn wsX12_chance (wsV RX12 252 RX12 yX12_power wsX12_power) := goodIn_app (goodIn_of _ (by decide +kernel)) ggX12_chance_X12_power
set_option maxRecDepth 20000 in
theorem gw_wsX12_lowest : (wsX12_lowest).all goodWord = true := by decide +kernel
set_option maxRecDepth 20000 in
theorem ggX12_chance_X12_lowest : GoodIn wsX12_chance wsX12_lowest := goodIn_r _ [51, 52, 53, 9, 54] rfl gw_wsX12_lowest
set_option maxRecDepth 20000 in
theorem gX12_chance_X12_lowest : GoodIn wsX12_chance (va_wsS RX12 256 yX12_lowest wsX12_lowest) := goodIn_app (goodIn_of _ (by decide +kernel)) ggX12_chance_X12_lowest
theorem kcX12_chance : (cX12_chance).data.toList = cbs 0xad0001b81dfc00b61c856700b42a2a0416ddffa7010684043761090400a72f06152900b42a0d00a01b700710061504162200a231100615063603043709f2ffa7010484f800b6032a0e00a21c0415043603f500b62aadf3001407009a6700b42aadf1001407009aee00b81d0a00997300b8ec001409851c160099cb00b61b2a 127 := by decide +kernel
theorem dX12_chance_0 : decode cX12_chance 0 = .ok (.aload_n 0, 1) := op_42 kcX12_chance (Nat.le_of_ble_eq_true rfl) rfl
theorem dX12_chance_1 : decode cX12_chance 1 = .ok (.iload_n 1, 1) := op_27 kcX12_chance (Nat.le_of_ble_eq_true rfl) rfl
theorem dX12_chance_2 : decode cX12_chance 2 = .ok (.invokevirtual 203, 3) := op_182 (a := 0) (b := 203) kcX12_chance (Nat.le_of_ble_eq_true rfl) rfl rfl rfl
theorem dX12_chance_5 : decode cX12_chance 5 = .ok (.ifCond .eq 22, 3) := op_153 (a := 0) (b := 22) kcX12_chance (Nat.le_of_ble_eq_true rfl) rfl rfl rfl (by decide)
theorem dX12_chance_8 : decode cX12_chance 8 = .ok (.iload_n 2, 1) := op_28 kcX12_chance (Nat.le_of_ble_eq_true rfl) rfl
theorem dX12_chance_9 : decode cX12_chance 9 = .ok (.i2l, 1) := op_133 kcX12_chance (Nat.le_of_ble_eq_true rfl) rfl
theorem dX12_chance_10 : decode cX12_chance 10 = .ok (.lconst 0, 1) := op_9 kcX12_chance (Nat.le_of_ble_eq_true rfl) rfl
theorem dX12_chance_11 : decode cX12_chance 11 = .ok (.ldc2_w 236, 3) := op_20 (a := 0) (b := 236) kcX12_chance (Nat.le_of_ble_eq_true rfl) rfl rfl rfl
theorem dX12_chance_14 : decode cX12_chance 14 = .ok (.invokestatic 115, 3) := op_184 (a := 0) (b := 115) kcX12_chance (Nat.le_of_ble_eq_true rfl) rfl rfl rfl
theorem dX12_chance_17 : decode cX12_chance 17 = .ok (.ifCond .eq 10, 3) := op_153 (a := 0) (b := 10) kcX12_chance (Nat.le_of_ble_eq_true rfl) rfl rfl rfl (by decide)
theorem dX12_chance_20 : decode cX12_chance 20 = .ok (.iload_n 3, 1) := op_29 kcX12_chance (Nat.le_of_ble_eq_true rfl) rfl
theorem dX12_chance_21 : decode cX12_chance 21 = .ok (.invokestatic 238, 3) := op_184 (a := 0) (b := 238) kcX12_chance (Nat.le_of_ble_eq_true rfl) rfl rfl rfl
theorem dX12_chance_24 : decode cX12_chance 24 = .ok (.ifCond .ne 7, 3) := op_154 (a := 0) (b := 7) kcX12_chance (Nat.le_of_ble_eq_true rfl) rfl rfl rfl (by decide)
theorem dX12_chance_27 : decode cX12_chance 27 = .ok (.ldc2_w 241, 3) := op_20 (a := 0) (b := 241) kcX12_chance (Nat.le_of_ble_eq_true rfl) rfl rfl rfl
theorem dX12_chance_30 : decode cX12_chance 30 = .ok (.lreturn, 1) := op_173 kcX12_chance (Nat.le_of_ble_eq_true rfl) rfl
theorem dX12_chance_31 : decode cX12_chance 31 = .ok (.aload_n 0, 1) := op_42 kcX12_chance (Nat.le_of_ble_eq_true rfl) rfl
theorem dX12_chance_32 : decode cX12_chance 32 = .ok (.getfield 103, 3) := op_180 (a := 0) (b := 103) kcX12_chance (Nat.le_of_ble_eq_true rfl) rfl rfl rfl
theorem dX12_chance_35 : decode cX12_chance 35 = .ok (.ifCond .ne 7, 3) := op_154 (a := 0) (b := 7) kcX12_chance (Nat.le_of_ble_eq_true rfl) rfl rfl rfl (by decide)
theorem dX12_chance_38 : decode cX12_chance 38 = .ok (.ldc2_w 243, 3) := op_20 (a := 0) (b := 243) kcX12_chance (Nat.le_of_ble_eq_true rfl) rfl rfl rfl
theorem dX12_chance_41 : decode cX12_chance 41 = .ok (.lreturn, 1) := op_173 kcX12_chance (Nat.le_of_ble_eq_true rfl) rfl
theorem dX12_chance_42 : decode cX12_chance 42 = .ok (.aload_n 0, 1) := op_42 kcX12_chance (Nat.le_of_ble_eq_true rfl) rfl
theorem dX12_chance_43 : decode cX12_chance 43 = .ok (.invokevirtual 245, 3) := op_182 (a := 0) (b := 245) kcX12_chance (Nat.le_of_ble_eq_true rfl) rfl rfl rfl
theorem dX12_chance_46 : decode cX12_chance 46 = .ok (.iconst 0, 1) := op_3 kcX12_chance (Nat.le_of_ble_eq_true rfl) rfl
theorem dX12_chance_47 : decode cX12_chance 47 = .ok (.istore 4, 2) := op_54 (a := 4) kcX12_chance (Nat.le_of_ble_eq_true rfl) rfl rfl
theorem dX12_chance_49 : decode cX12_chance 49 = .ok (.iload 4, 2) := op_21 (a := 4) kcX12_chance (Nat.le_of_ble_eq_true rfl) rfl rfl
theorem dX12_chance_51 : decode cX12_chance 51 = .ok (.iload_n 2, 1) := op_28 kcX12_chance (Nat.le_of_ble_eq_true rfl) rfl
theorem dX12_chance_52 : decode cX12_chance 52 = .ok (.if_icmp .ge 14, 3) := op_162 (a := 0) (b := 14) kcX12_chance (Nat.le_of_ble_eq_true rfl) rfl rfl rfl (by decide)
theorem dX12_chance_55 : decode cX12_chance 55 = .ok (.aload_n 0, 1) := op_42 kcX12_chance (Nat.le_of_ble_eq_true rfl) rfl
theorem dX12_chance_56 : decode cX12_chance 56 = .ok (.iconst 0, 1) := op_3 kcX12_chance (Nat.le_of_ble_eq_true rfl) rfl
theorem dX12_chance_57 : decode cX12_chance 57 = .ok (.invokevirtual 248, 3) := op_182 (a := 0) (b := 248) kcX12_chance (Nat.le_of_ble_eq_true rfl) rfl rfl rfl
theorem dX12_chance_60 : decode cX12_chance 60 = .ok (.iinc 4 1, 3) := by decide +kernel
theorem dX12_chance_63 : decode cX12_chance 63 = .ok (.goto (-14), 3) := op_167 (a := 255) (b := 242) kcX12_chance (Nat.le_of_ble_eq_true rfl) rfl rfl rfl (by decide)
theorem dX12_chance_66 : decode cX12_chance 66 = .ok (.lconst 0, 1) := op_9 kcX12_chance (Nat.le_of_ble_eq_true rfl) rfl
theorem dX12_chance_67 : decode cX12_chance 67 = .ok (.lstore 4, 2) := op_55 (a := 4) kcX12_chance (Nat.le_of_ble_eq_true rfl) rfl rfl
theorem dX12_chance_69 : decode cX12_chance 69 = .ok (.iconst 0, 1) := op_3 kcX12_chance (Nat.le_of_ble_eq_true rfl) rfl
theorem dX12_chance_70 : decode cX12_chance 70 = .ok (.istore 6, 2) := op_54 (a := 6) kcX12_chance (Nat.le_of_ble_eq_true rfl) rfl rfl
theorem dX12_chance_72 : decode cX12_chance 72 = .ok (.iload 6, 2) := op_21 (a := 6) kcX12_chance (Nat.le_of_ble_eq_true rfl) rfl rfl
theorem dX12_chance_74 : decode cX12_chance 74 = .ok (.bipush 49, 2) := op_16 (a := 49) kcX12_chance (Nat.le_of_ble_eq_true rfl) rfl rfl (by decide)
theorem dX12_chance_76 : decode cX12_chance 76 = .ok (.if_icmp .ge 34, 3) := op_162 (a := 0) (b := 34) kcX12_chance (Nat.le_of_ble_eq_true rfl) rfl rfl rfl (by decide)
theorem dX12_chance_79 : decode cX12_chance 79 = .ok (.lload 4, 2) := op_22 (a := 4) kcX12_chance (Nat.le_of_ble_eq_true rfl) rfl rfl
theorem dX12_chance_81 : decode cX12_chance 81 = .ok (.iload 6, 2) := op_21 (a := 6) kcX12_chance (Nat.le_of_ble_eq_true rfl) rfl rfl
theorem dX12_chance_83 : decode cX12_chance 83 = .ok (.bipush 7, 2) := op_16 (a := 7) kcX12_chance (Nat.le_of_ble_eq_true rfl) rfl rfl (by decide)
theorem dX12_chance_85 : decode cX12_chance 85 = .ok (.irem, 1) := op_112 kcX12_chance (Nat.le_of_ble_eq_true rfl) rfl
theorem dX12_chance_86 : decode cX12_chance 86 = .ok (.iload_n 1, 1) := op_27 kcX12_chance (Nat.le_of_ble_eq_true rfl) rfl
theorem dX12_chance_87 : decode cX12_chance 87 = .ok (.if_icmp .ne 13, 3) := op_160 (a := 0) (b := 13) kcX12_chance (Nat.le_of_ble_eq_true rfl) rfl rfl rfl (by decide)
theorem dX12_chance_90 : decode cX12_chance 90 = .ok (.aload_n 0, 1) := op_42 kcX12_chance (Nat.le_of_ble_eq_true rfl) rfl
theorem dX12_chance_91 : decode cX12_chance 91 = .ok (.getfield 41, 3) := op_180 (a := 0) (b := 41) kcX12_chance (Nat.le_of_ble_eq_true rfl) rfl rfl rfl
theorem dX12_chance_94 : decode cX12_chance 94 = .ok (.iload 6, 2) := op_21 (a := 6) kcX12_chance (Nat.le_of_ble_eq_true rfl) rfl rfl
theorem dX12_chance_96 : decode cX12_chance 96 = .ok (.laload, 1) := op_47 kcX12_chance (Nat.le_of_ble_eq_true rfl) rfl
theorem dX12_chance_97 : decode cX12_chance 97 = .ok (.goto 4, 3) := op_167 (a := 0) (b := 4) kcX12_chance (Nat.le_of_ble_eq_true rfl) rfl rfl rfl (by decide)
theorem dX12_chance_100 : decode cX12_chance 100 = .ok (.lconst 0, 1) := op_9 kcX12_chance (Nat.le_of_ble_eq_true rfl) rfl
theorem dX12_chance_101 : decode cX12_chance 101 = .ok (.ladd, 1) := op_97 kcX12_chance (Nat.le_of_ble_eq_true rfl) rfl
theorem dX12_chance_102 : decode cX12_chance 102 = .ok (.lstore 4, 2) := op_55 (a := 4) kcX12_chance (Nat.le_of_ble_eq_true rfl) rfl rfl
theorem dX12_chance_104 : decode cX12_chance 104 = .ok (.iinc 6 1, 3) := by decide +kernel
theorem dX12_chance_107 : decode cX12_chance 107 = .ok (.goto (-35), 3) := op_167 (a := 255) (b := 221) kcX12_chance (Nat.le_of_ble_eq_true rfl) rfl rfl rfl (by decide)
theorem dX12_chance_110 : decode cX12_chance 110 = .ok (.lload 4, 2) := op_22 (a := 4) kcX12_chance (Nat.le_of_ble_eq_true rfl) rfl rfl
theorem dX12_chance_112 : decode cX12_chance 112 = .ok (.aload_n 0, 1) := op_42 kcX12_chance (Nat.le_of_ble_eq_true rfl) rfl
theorem dX12_chance_113 : decode cX12_chance 113 = .ok (.aload_n 0, 1) := op_42 kcX12_chance (Nat.le_of_ble_eq_true rfl) rfl
theorem dX12_chance_114 : decode cX12_chance 114 = .ok (.getfield 103, 3) := op_180 (a := 0) (b := 103) kcX12_chance (Nat.le_of_ble_eq_true rfl) rfl rfl rfl
theorem dX12_chance_117 : decode cX12_chance 117 = .ok (.i2l, 1) := op_133 kcX12_chance (Nat.le_of_ble_eq_true rfl) rfl
theorem dX12_chance_118 : decode cX12_chance 118 = .ok (.iload_n 2, 1) := op_28 kcX12_chance (Nat.le_of_ble_eq_true rfl) rfl
theorem dX12_chance_119 : decode cX12_chance 119 = .ok (.invokevirtual 252, 3) := op_182 (a := 0) (b := 252) kcX12_chance (Nat.le_of_ble_eq_true rfl) rfl rfl rfl
theorem dX12_chance_122 : decode cX12_chance 122 = .ok (.iload_n 3, 1) := op_29 kcX12_chance (Nat.le_of_ble_eq_true rfl) rfl
theorem dX12_chance_123 : decode cX12_chance 123 = .ok (.invokestatic 256, 3) := op_184 (a := 1) (b := 0) kcX12_chance (Nat.le_of_ble_eq_true rfl) rfl rfl rfl
theorem dX12_chance_126 : decode cX12_chance 126 = .ok (.lreturn, 1) := op_173 kcX12_chance (Nat.le_of_ble_eq_true rfl) rfl
set_option maxRecDepth 20000 in
theorem ggX12_lasts_X12_in : GoodIn wsX12_lasts wsX12_in := goodIn_r _ [9] rfl gw_wsX12_in
set_option maxRecDepth 20000 in
theorem gX12_lasts_X12_in : GoodIn wsX12_lasts (va_wsS RX12 115 yX12_in wsX12_in) := goodIn_app (goodIn_of _ (by decide +kernel)) ggX12_lasts_X12_in
set_option maxRecDepth 20000 in
theorem ggX12_lasts_X12_isTold : GoodIn wsX12_lasts wsX12_isTold := goodIn_r _ [12, 6, 7, 8, 9] rfl gw_wsX12_isTold
set_option maxRecDepth 20000 in
theorem gX12_lasts_X12_isTold : GoodIn wsX12_lasts (va_wsS RX12 238 yX12_isTold wsX12_isTold) := goodIn_app (goodIn_of _ (by decide +kernel)) ggX12_lasts_X12_isTold
set_option maxRecDepth 20000 in
theorem ggX12_lasts_X12_firstWays : GoodIn wsX12_lasts wsX12_firstWays := goodIn_r _ [16, 5, 17, 51, 52, 53, 54, 55, 56, 57, 58, 59, 60, 61, 62, 63, 64, 65, 66, 67, 68, 69, 70, 71, 72, 73, 74, 75, 76, 77, 78, 79, 80, 81, 82, 83, 84, 85, 86, 87] rfl gw_wsX12_firstWays
set_option maxRecDepth 20000 in
theorem gX12_lasts_X12_firstWays : GoodIn wsX12_lasts (wsV RX12 245 RX12 yX12_firstWays wsX12_firstWays) := goodIn_app (goodIn_of _ (by decide +kernel)) ggX12_lasts_X12_firstWays
set_option maxRecDepth 20000 in
theorem ggX12_lasts_X12_nextWays : GoodIn wsX12_lasts wsX12_nextWays := goodIn_r _ [21, 22, 3, 5, 23, 24, 25, 8, 26, 27, 28, 29, 30, 31, 32, 33, 34, 35, 36, 37, 17, 38, 39, 40, 51, 52, 53, 54, 55, 56, 57, 58, 59, 60, 61, 62, 63, 64, 65, 66, 67, 68, 69, 70, 71, 72, 73, 74, 75, 76, 77, 78, 79, 80, 81, 82, 83, 84, 85, 86, 87] rfl gw_wsX12_nextWays
set_option maxRecDepth 20000 in
theorem gX12_lasts_X12_nextWays : GoodIn wsX12_lasts (wsV RX12 248 RX12 yX12_nextWays wsX12_nextWays) := goodIn_app (goodIn_of _ (by decide +kernel)) ggX12_lasts_X12_nextWays
set_option maxRecDepth 20000 in
theorem ggX12_lasts_X12_power : GoodIn wsX12_lasts wsX12_power := goodIn_r _ [44] rfl gw_wsX12_power
set_option maxRecDepth 20000 in
theorem gX12_lasts_X12_power : GoodIn wsX12_lasts (wsV RX12 252 RX12 yX12_power wsX12_power) := goodIn_app (goodIn_of _ (by decide +kernel)) ggX12_lasts_X12_power
set_option maxRecDepth 20000 in
theorem ggX12_lasts_X12_lowest : GoodIn wsX12_lasts wsX12_lowest := goodIn_r _ [47, 48, 49, 8, 50] rfl gw_wsX12_lowest
set_option maxRecDepth 20000 in
theorem gX12_lasts_X12_lowest : GoodIn wsX12_lasts (va_wsS RX12 256 yX12_lowest wsX12_lowest) := goodIn_app (goodIn_of _ (by decide +kernel)) ggX12_lasts_X12_lowest
theorem kcX12_lasts : (cX12_lasts).data.toList = cbs 0xad0001b81cfc00b61b856700b42a2a21ecffa701058442612f05152900b42a211300a2311005150536034209f3ffa7010384f800b6042a0e00a21b1d3e03f500b62aadf3001407009a6700b42aadf1001407009aee00b81c0a00997300b8ec001409851b 100 := by decide +kernel
