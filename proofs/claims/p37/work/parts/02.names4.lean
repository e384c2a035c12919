theorem dX12_lasts_0 : decode cX12_lasts 0 = .ok (.iload_n 1, 1) := op_27 kcX12_lasts (Nat.le_of_ble_eq_true rfl) rfl
theorem dX12_lasts_1 : decode cX12_lasts 1 = .ok (.i2l, 1) := op_133 kcX12_lasts (Nat.le_of_ble_eq_true rfl) rfl
theorem dX12_lasts_2 : decode cX12_lasts 2 = .ok (.lconst 0, 1) := op_9 kcX12_lasts (Nat.le_of_ble_eq_true rfl) rfl
theorem dX12_lasts_3 : decode cX12_lasts 3 = .ok (.ldc2_w 236, 3) := op_20 (a := 0) (b := 236) kcX12_lasts (Nat.le_of_ble_eq_true rfl) rfl rfl rfl
theorem dX12_lasts_6 : decode cX12_lasts 6 = .ok (.invokestatic 115, 3) := op_184 (a := 0) (b := 115) kcX12_lasts (Nat.le_of_ble_eq_true rfl) rfl rfl rfl
theorem dX12_lasts_9 : decode cX12_lasts 9 = .ok (.ifCond .eq 10, 3) := op_153 (a := 0) (b := 10) kcX12_lasts (Nat.le_of_ble_eq_true rfl) rfl rfl rfl (by decide)
theorem dX12_lasts_12 : decode cX12_lasts 12 = .ok (.iload_n 2, 1) := op_28 kcX12_lasts (Nat.le_of_ble_eq_true rfl) rfl
theorem dX12_lasts_13 : decode cX12_lasts 13 = .ok (.invokestatic 238, 3) := op_184 (a := 0) (b := 238) kcX12_lasts (Nat.le_of_ble_eq_true rfl) rfl rfl rfl
theorem dX12_lasts_16 : decode cX12_lasts 16 = .ok (.ifCond .ne 7, 3) := op_154 (a := 0) (b := 7) kcX12_lasts (Nat.le_of_ble_eq_true rfl) rfl rfl rfl (by decide)
theorem dX12_lasts_19 : decode cX12_lasts 19 = .ok (.ldc2_w 241, 3) := op_20 (a := 0) (b := 241) kcX12_lasts (Nat.le_of_ble_eq_true rfl) rfl rfl rfl
theorem dX12_lasts_22 : decode cX12_lasts 22 = .ok (.lreturn, 1) := op_173 kcX12_lasts (Nat.le_of_ble_eq_true rfl) rfl
theorem dX12_lasts_23 : decode cX12_lasts 23 = .ok (.aload_n 0, 1) := op_42 kcX12_lasts (Nat.le_of_ble_eq_true rfl) rfl
theorem dX12_lasts_24 : decode cX12_lasts 24 = .ok (.getfield 103, 3) := op_180 (a := 0) (b := 103) kcX12_lasts (Nat.le_of_ble_eq_true rfl) rfl rfl rfl
theorem dX12_lasts_27 : decode cX12_lasts 27 = .ok (.ifCond .ne 7, 3) := op_154 (a := 0) (b := 7) kcX12_lasts (Nat.le_of_ble_eq_true rfl) rfl rfl rfl (by decide)
theorem dX12_lasts_30 : decode cX12_lasts 30 = .ok (.ldc2_w 243, 3) := op_20 (a := 0) (b := 243) kcX12_lasts (Nat.le_of_ble_eq_true rfl) rfl rfl rfl
theorem dX12_lasts_33 : decode cX12_lasts 33 = .ok (.lreturn, 1) := op_173 kcX12_lasts (Nat.le_of_ble_eq_true rfl) rfl
theorem dX12_lasts_34 : decode cX12_lasts 34 = .ok (.aload_n 0, 1) := op_42 kcX12_lasts (Nat.le_of_ble_eq_true rfl) rfl
theorem dX12_lasts_35 : decode cX12_lasts 35 = .ok (.invokevirtual 245, 3) := op_182 (a := 0) (b := 245) kcX12_lasts (Nat.le_of_ble_eq_true rfl) rfl rfl rfl
theorem dX12_lasts_38 : decode cX12_lasts 38 = .ok (.iconst 0, 1) := op_3 kcX12_lasts (Nat.le_of_ble_eq_true rfl) rfl
theorem dX12_lasts_39 : decode cX12_lasts 39 = .ok (.istore_n 3, 1) := op_62 kcX12_lasts (Nat.le_of_ble_eq_true rfl) rfl
theorem dX12_lasts_40 : decode cX12_lasts 40 = .ok (.iload_n 3, 1) := op_29 kcX12_lasts (Nat.le_of_ble_eq_true rfl) rfl
theorem dX12_lasts_41 : decode cX12_lasts 41 = .ok (.iload_n 1, 1) := op_27 kcX12_lasts (Nat.le_of_ble_eq_true rfl) rfl
theorem dX12_lasts_42 : decode cX12_lasts 42 = .ok (.if_icmp .ge 14, 3) := op_162 (a := 0) (b := 14) kcX12_lasts (Nat.le_of_ble_eq_true rfl) rfl rfl rfl (by decide)
theorem dX12_lasts_45 : decode cX12_lasts 45 = .ok (.aload_n 0, 1) := op_42 kcX12_lasts (Nat.le_of_ble_eq_true rfl) rfl
theorem dX12_lasts_46 : decode cX12_lasts 46 = .ok (.iconst 1, 1) := op_4 kcX12_lasts (Nat.le_of_ble_eq_true rfl) rfl
theorem dX12_lasts_47 : decode cX12_lasts 47 = .ok (.invokevirtual 248, 3) := op_182 (a := 0) (b := 248) kcX12_lasts (Nat.le_of_ble_eq_true rfl) rfl rfl rfl
theorem dX12_lasts_50 : decode cX12_lasts 50 = .ok (.iinc 3 1, 3) := by decide +kernel
theorem dX12_lasts_53 : decode cX12_lasts 53 = .ok (.goto (-13), 3) := op_167 (a := 255) (b := 243) kcX12_lasts (Nat.le_of_ble_eq_true rfl) rfl rfl rfl (by decide)
theorem dX12_lasts_56 : decode cX12_lasts 56 = .ok (.lconst 0, 1) := op_9 kcX12_lasts (Nat.le_of_ble_eq_true rfl) rfl
theorem dX12_lasts_57 : decode cX12_lasts 57 = .ok (.lstore_n 3, 1) := op_66 kcX12_lasts (Nat.le_of_ble_eq_true rfl) rfl
theorem dX12_lasts_58 : decode cX12_lasts 58 = .ok (.iconst 0, 1) := op_3 kcX12_lasts (Nat.le_of_ble_eq_true rfl) rfl
theorem dX12_lasts_59 : decode cX12_lasts 59 = .ok (.istore 5, 2) := op_54 (a := 5) kcX12_lasts (Nat.le_of_ble_eq_true rfl) rfl rfl
theorem dX12_lasts_61 : decode cX12_lasts 61 = .ok (.iload 5, 2) := op_21 (a := 5) kcX12_lasts (Nat.le_of_ble_eq_true rfl) rfl rfl
theorem dX12_lasts_63 : decode cX12_lasts 63 = .ok (.bipush 49, 2) := op_16 (a := 49) kcX12_lasts (Nat.le_of_ble_eq_true rfl) rfl rfl (by decide)
theorem dX12_lasts_65 : decode cX12_lasts 65 = .ok (.if_icmp .ge 19, 3) := op_162 (a := 0) (b := 19) kcX12_lasts (Nat.le_of_ble_eq_true rfl) rfl rfl rfl (by decide)
theorem dX12_lasts_68 : decode cX12_lasts 68 = .ok (.lload_n 3, 1) := op_33 kcX12_lasts (Nat.le_of_ble_eq_true rfl) rfl
theorem dX12_lasts_69 : decode cX12_lasts 69 = .ok (.aload_n 0, 1) := op_42 kcX12_lasts (Nat.le_of_ble_eq_true rfl) rfl
theorem dX12_lasts_70 : decode cX12_lasts 70 = .ok (.getfield 41, 3) := op_180 (a := 0) (b := 41) kcX12_lasts (Nat.le_of_ble_eq_true rfl) rfl rfl rfl
theorem dX12_lasts_73 : decode cX12_lasts 73 = .ok (.iload 5, 2) := op_21 (a := 5) kcX12_lasts (Nat.le_of_ble_eq_true rfl) rfl rfl
theorem dX12_lasts_75 : decode cX12_lasts 75 = .ok (.laload, 1) := op_47 kcX12_lasts (Nat.le_of_ble_eq_true rfl) rfl
theorem dX12_lasts_76 : decode cX12_lasts 76 = .ok (.ladd, 1) := op_97 kcX12_lasts (Nat.le_of_ble_eq_true rfl) rfl
theorem dX12_lasts_77 : decode cX12_lasts 77 = .ok (.lstore_n 3, 1) := op_66 kcX12_lasts (Nat.le_of_ble_eq_true rfl) rfl
theorem dX12_lasts_78 : decode cX12_lasts 78 = .ok (.iinc 5 1, 3) := by decide +kernel
theorem dX12_lasts_81 : decode cX12_lasts 81 = .ok (.goto (-20), 3) := op_167 (a := 255) (b := 236) kcX12_lasts (Nat.le_of_ble_eq_true rfl) rfl rfl rfl (by decide)
theorem dX12_lasts_84 : decode cX12_lasts 84 = .ok (.lload_n 3, 1) := op_33 kcX12_lasts (Nat.le_of_ble_eq_true rfl) rfl
theorem dX12_lasts_85 : decode cX12_lasts 85 = .ok (.aload_n 0, 1) := op_42 kcX12_lasts (Nat.le_of_ble_eq_true rfl) rfl
theorem dX12_lasts_86 : decode cX12_lasts 86 = .ok (.aload_n 0, 1) := op_42 kcX12_lasts (Nat.le_of_ble_eq_true rfl) rfl
theorem dX12_lasts_87 : decode cX12_lasts 87 = .ok (.getfield 103, 3) := op_180 (a := 0) (b := 103) kcX12_lasts (Nat.le_of_ble_eq_true rfl) rfl rfl rfl
theorem dX12_lasts_90 : decode cX12_lasts 90 = .ok (.i2l, 1) := op_133 kcX12_lasts (Nat.le_of_ble_eq_true rfl) rfl
theorem dX12_lasts_91 : decode cX12_lasts 91 = .ok (.iload_n 1, 1) := op_27 kcX12_lasts (Nat.le_of_ble_eq_true rfl) rfl
theorem dX12_lasts_92 : decode cX12_lasts 92 = .ok (.invokevirtual 252, 3) := op_182 (a := 0) (b := 252) kcX12_lasts (Nat.le_of_ble_eq_true rfl) rfl rfl rfl
theorem dX12_lasts_95 : decode cX12_lasts 95 = .ok (.iload_n 2, 1) := op_28 kcX12_lasts (Nat.le_of_ble_eq_true rfl) rfl
theorem dX12_lasts_96 : decode cX12_lasts 96 = .ok (.invokestatic 256, 3) := op_184 (a := 1) (b := 0) kcX12_lasts (Nat.le_of_ble_eq_true rfl) rfl rfl rfl
theorem dX12_lasts_99 : decode cX12_lasts 99 = .ok (.lreturn, 1) := op_173 kcX12_lasts (Nat.le_of_ble_eq_true rfl) rfl
theorem kcX12_longestFrom : (cX12_longestFrom).data.toList = cbs 0xac2e601b681c31103000b42a 12 := by decide +kernel
theorem dX12_longestFrom_0 : decode cX12_longestFrom 0 = .ok (.aload_n 0, 1) := op_42 kcX12_longestFrom (Nat.le_of_ble_eq_true rfl) rfl
theorem dX12_longestFrom_1 : decode cX12_longestFrom 1 = .ok (.getfield 48, 3) := op_180 (a := 0) (b := 48) kcX12_longestFrom (Nat.le_of_ble_eq_true rfl) rfl rfl rfl
theorem dX12_longestFrom_4 : decode cX12_longestFrom 4 = .ok (.bipush 49, 2) := op_16 (a := 49) kcX12_longestFrom (Nat.le_of_ble_eq_true rfl) rfl rfl (by decide)
theorem dX12_longestFrom_6 : decode cX12_longestFrom 6 = .ok (.iload_n 2, 1) := op_28 kcX12_longestFrom (Nat.le_of_ble_eq_true rfl) rfl
theorem dX12_longestFrom_7 : decode cX12_longestFrom 7 = .ok (.imul, 1) := op_104 kcX12_longestFrom (Nat.le_of_ble_eq_true rfl) rfl
theorem dX12_longestFrom_8 : decode cX12_longestFrom 8 = .ok (.iload_n 1, 1) := op_27 kcX12_longestFrom (Nat.le_of_ble_eq_true rfl) rfl
theorem dX12_longestFrom_9 : decode cX12_longestFrom 9 = .ok (.iadd, 1) := op_96 kcX12_longestFrom (Nat.le_of_ble_eq_true rfl) rfl
theorem dX12_longestFrom_10 : decode cX12_longestFrom 10 = .ok (.iaload, 1) := op_46 kcX12_longestFrom (Nat.le_of_ble_eq_true rfl) rfl
theorem dX12_longestFrom_11 : decode cX12_longestFrom 11 = .ok (.ireturn, 1) := op_172 kcX12_longestFrom (Nat.le_of_ble_eq_true rfl) rfl
set_option maxRecDepth 20000 in
theorem ggX12_findStays_X12_then : GoodIn wsX12_findStays wsX12_then := goodIn_r _ [8, 9, 10, 11, 12, 7, 13, 14, 15, 16, 17, 18, 3, 19, 20, 21, 22, 27, 28, 29, 30, 31, 32, 33, 34, 35, 36, 37, 38, 39, 40, 41, 42, 43, 44, 45, 46, 47, 48, 49, 50, 51, 52, 53, 54, 55, 56, 57, 58, 59, 60, 61, 62, 63] rfl gw_wsX12_then
set_option maxRecDepth 20000 in
theorem gX12_findStays_X12_then : GoodIn wsX12_findStays (wsV RX12 233 RX12 yX12_then wsX12_then) := goodIn_app (goodIn_of _ (by decide +kernel)) ggX12_findStays_X12_then
set_option maxRecDepth 20000 in
theorem gw_wsX12_longestFrom : (wsX12_longestFrom).all goodWord = true := by decide +kernel
set_option maxRecDepth 20000 in
theorem ggX12_findStays_X12_longestFrom : GoodIn wsX12_findStays wsX12_longestFrom := goodIn_r _ [26, 1, 27, 28, 29, 30, 31, 32, 33, 34, 35, 36, 37, 38, 39, 40, 41, 42, 43, 44, 45, 46, 47, 48, 49, 50, 51, 52, 53, 54, 55, 56, 57, 58, 59, 60, 61, 62, 63] rfl gw_wsX12_longestFrom
set_option maxRecDepth 20000 in
theorem gX12_findStays_X12_longestFrom : GoodIn wsX12_findStays (wsV RX12 260 RX12 yX12_longestFrom wsX12_longestFrom) := goodIn_app (goodIn_of _ (by decide +kernel)) ggX12_findStays_X12_longestFrom
theorem kcX12_findStays : (cX12_findStays).data.toList = cbs 0xb17cffa701028489ffa70103844f0415601d681c31103000b42aa8ffa7010584043604150500a707150800a4041507150736030400a7600401b664041c06152a041100a07007101d70071006150636e900b605151d2a3f00a26400b42a6c07101d4a00a26400b42a7007101d5500a26700b42a05150536030436037700a231101d3e038500a31b1c3d04f0ffa70102844f031c3000b42a1000a231101c3d03 159 := by decide +kernel
theorem dX12_findStays_0 : decode cX12_findStays 0 = .ok (.iconst 0, 1) := op_3 kcX12_findStays (Nat.le_of_ble_eq_true rfl) rfl
theorem dX12_findStays_1 : decode cX12_findStays 1 = .ok (.istore_n 2, 1) := op_61 kcX12_findStays (Nat.le_of_ble_eq_true rfl) rfl
theorem dX12_findStays_2 : decode cX12_findStays 2 = .ok (.iload_n 2, 1) := op_28 kcX12_findStays (Nat.le_of_ble_eq_true rfl) rfl
theorem dX12_findStays_3 : decode cX12_findStays 3 = .ok (.bipush 49, 2) := op_16 (a := 49) kcX12_findStays (Nat.le_of_ble_eq_true rfl) rfl rfl (by decide)
theorem dX12_findStays_5 : decode cX12_findStays 5 = .ok (.if_icmp .ge 16, 3) := op_162 (a := 0) (b := 16) kcX12_findStays (Nat.le_of_ble_eq_true rfl) rfl rfl rfl (by decide)
theorem dX12_findStays_8 : decode cX12_findStays 8 = .ok (.aload_n 0, 1) := op_42 kcX12_findStays (Nat.le_of_ble_eq_true rfl) rfl
theorem dX12_findStays_9 : decode cX12_findStays 9 = .ok (.getfield 48, 3) := op_180 (a := 0) (b := 48) kcX12_findStays (Nat.le_of_ble_eq_true rfl) rfl rfl rfl
theorem dX12_findStays_12 : decode cX12_findStays 12 = .ok (.iload_n 2, 1) := op_28 kcX12_findStays (Nat.le_of_ble_eq_true rfl) rfl
theorem dX12_findStays_13 : decode cX12_findStays 13 = .ok (.iconst 0, 1) := op_3 kcX12_findStays (Nat.le_of_ble_eq_true rfl) rfl
theorem dX12_findStays_14 : decode cX12_findStays 14 = .ok (.iastore, 1) := op_79 kcX12_findStays (Nat.le_of_ble_eq_true rfl) rfl
theorem dX12_findStays_15 : decode cX12_findStays 15 = .ok (.iinc 2 1, 3) := by decide +kernel
theorem dX12_findStays_18 : decode cX12_findStays 18 = .ok (.goto (-16), 3) := op_167 (a := 255) (b := 240) kcX12_findStays (Nat.le_of_ble_eq_true rfl) rfl rfl rfl (by decide)
theorem dX12_findStays_21 : decode cX12_findStays 21 = .ok (.iconst 1, 1) := op_4 kcX12_findStays (Nat.le_of_ble_eq_true rfl) rfl
theorem dX12_findStays_22 : decode cX12_findStays 22 = .ok (.istore_n 2, 1) := op_61 kcX12_findStays (Nat.le_of_ble_eq_true rfl) rfl
theorem dX12_findStays_23 : decode cX12_findStays 23 = .ok (.iload_n 2, 1) := op_28 kcX12_findStays (Nat.le_of_ble_eq_true rfl) rfl
theorem dX12_findStays_24 : decode cX12_findStays 24 = .ok (.iload_n 1, 1) := op_27 kcX12_findStays (Nat.le_of_ble_eq_true rfl) rfl
theorem dX12_findStays_25 : decode cX12_findStays 25 = .ok (.if_icmp .gt 133, 3) := op_163 (a := 0) (b := 133) kcX12_findStays (Nat.le_of_ble_eq_true rfl) rfl rfl rfl (by decide)
theorem dX12_findStays_28 : decode cX12_findStays 28 = .ok (.iconst 0, 1) := op_3 kcX12_findStays (Nat.le_of_ble_eq_true rfl) rfl
theorem dX12_findStays_29 : decode cX12_findStays 29 = .ok (.istore_n 3, 1) := op_62 kcX12_findStays (Nat.le_of_ble_eq_true rfl) rfl
theorem dX12_findStays_30 : decode cX12_findStays 30 = .ok (.iload_n 3, 1) := op_29 kcX12_findStays (Nat.le_of_ble_eq_true rfl) rfl
theorem dX12_findStays_31 : decode cX12_findStays 31 = .ok (.bipush 49, 2) := op_16 (a := 49) kcX12_findStays (Nat.le_of_ble_eq_true rfl) rfl rfl (by decide)
theorem dX12_findStays_33 : decode cX12_findStays 33 = .ok (.if_icmp .ge 119, 3) := op_162 (a := 0) (b := 119) kcX12_findStays (Nat.le_of_ble_eq_true rfl) rfl rfl rfl (by decide)
theorem dX12_findStays_36 : decode cX12_findStays 36 = .ok (.iconst 0, 1) := op_3 kcX12_findStays (Nat.le_of_ble_eq_true rfl) rfl
theorem dX12_findStays_37 : decode cX12_findStays 37 = .ok (.istore 4, 2) := op_54 (a := 4) kcX12_findStays (Nat.le_of_ble_eq_true rfl) rfl rfl
theorem dX12_findStays_39 : decode cX12_findStays 39 = .ok (.iconst 0, 1) := op_3 kcX12_findStays (Nat.le_of_ble_eq_true rfl) rfl
theorem dX12_findStays_40 : decode cX12_findStays 40 = .ok (.istore 5, 2) := op_54 (a := 5) kcX12_findStays (Nat.le_of_ble_eq_true rfl) rfl rfl
theorem dX12_findStays_42 : decode cX12_findStays 42 = .ok (.iload 5, 2) := op_21 (a := 5) kcX12_findStays (Nat.le_of_ble_eq_true rfl) rfl rfl
theorem dX12_findStays_44 : decode cX12_findStays 44 = .ok (.aload_n 0, 1) := op_42 kcX12_findStays (Nat.le_of_ble_eq_true rfl) rfl
theorem dX12_findStays_45 : decode cX12_findStays 45 = .ok (.getfield 103, 3) := op_180 (a := 0) (b := 103) kcX12_findStays (Nat.le_of_ble_eq_true rfl) rfl rfl rfl
theorem dX12_findStays_48 : decode cX12_findStays 48 = .ok (.if_icmp .ge 85, 3) := op_162 (a := 0) (b := 85) kcX12_findStays (Nat.le_of_ble_eq_true rfl) rfl rfl rfl (by decide)
theorem dX12_findStays_51 : decode cX12_findStays 51 = .ok (.iload_n 3, 1) := op_29 kcX12_findStays (Nat.le_of_ble_eq_true rfl) rfl
theorem dX12_findStays_52 : decode cX12_findStays 52 = .ok (.bipush 7, 2) := op_16 (a := 7) kcX12_findStays (Nat.le_of_ble_eq_true rfl) rfl rfl (by decide)
theorem dX12_findStays_54 : decode cX12_findStays 54 = .ok (.irem, 1) := op_112 kcX12_findStays (Nat.le_of_ble_eq_true rfl) rfl
theorem dX12_findStays_55 : decode cX12_findStays 55 = .ok (.aload_n 0, 1) := op_42 kcX12_findStays (Nat.le_of_ble_eq_true rfl) rfl
theorem dX12_findStays_56 : decode cX12_findStays 56 = .ok (.getfield 100, 3) := op_180 (a := 0) (b := 100) kcX12_findStays (Nat.le_of_ble_eq_true rfl) rfl rfl rfl
theorem dX12_findStays_59 : decode cX12_findStays 59 = .ok (.if_icmp .ge 74, 3) := op_162 (a := 0) (b := 74) kcX12_findStays (Nat.le_of_ble_eq_true rfl) rfl rfl rfl (by decide)
theorem dX12_findStays_62 : decode cX12_findStays 62 = .ok (.iload_n 3, 1) := op_29 kcX12_findStays (Nat.le_of_ble_eq_true rfl) rfl
theorem dX12_findStays_63 : decode cX12_findStays 63 = .ok (.bipush 7, 2) := op_16 (a := 7) kcX12_findStays (Nat.le_of_ble_eq_true rfl) rfl rfl (by decide)
theorem dX12_findStays_65 : decode cX12_findStays 65 = .ok (.idiv, 1) := op_108 kcX12_findStays (Nat.le_of_ble_eq_true rfl) rfl
theorem dX12_findStays_66 : decode cX12_findStays 66 = .ok (.aload_n 0, 1) := op_42 kcX12_findStays (Nat.le_of_ble_eq_true rfl) rfl
theorem dX12_findStays_67 : decode cX12_findStays 67 = .ok (.getfield 100, 3) := op_180 (a := 0) (b := 100) kcX12_findStays (Nat.le_of_ble_eq_true rfl) rfl rfl rfl
theorem dX12_findStays_70 : decode cX12_findStays 70 = .ok (.if_icmp .ge 63, 3) := op_162 (a := 0) (b := 63) kcX12_findStays (Nat.le_of_ble_eq_true rfl) rfl rfl rfl (by decide)
theorem dX12_findStays_73 : decode cX12_findStays 73 = .ok (.aload_n 0, 1) := op_42 kcX12_findStays (Nat.le_of_ble_eq_true rfl) rfl
theorem dX12_findStays_74 : decode cX12_findStays 74 = .ok (.iload_n 3, 1) := op_29 kcX12_findStays (Nat.le_of_ble_eq_true rfl) rfl
theorem dX12_findStays_75 : decode cX12_findStays 75 = .ok (.iload 5, 2) := op_21 (a := 5) kcX12_findStays (Nat.le_of_ble_eq_true rfl) rfl rfl
theorem dX12_findStays_77 : decode cX12_findStays 77 = .ok (.invokevirtual 233, 3) := op_182 (a := 0) (b := 233) kcX12_findStays (Nat.le_of_ble_eq_true rfl) rfl rfl rfl
theorem dX12_findStays_80 : decode cX12_findStays 80 = .ok (.istore 6, 2) := op_54 (a := 6) kcX12_findStays (Nat.le_of_ble_eq_true rfl) rfl rfl
theorem dX12_findStays_82 : decode cX12_findStays 82 = .ok (.iload 6, 2) := op_21 (a := 6) kcX12_findStays (Nat.le_of_ble_eq_true rfl) rfl rfl
theorem dX12_findStays_84 : decode cX12_findStays 84 = .ok (.bipush 7, 2) := op_16 (a := 7) kcX12_findStays (Nat.le_of_ble_eq_true rfl) rfl rfl (by decide)
theorem dX12_findStays_86 : decode cX12_findStays 86 = .ok (.irem, 1) := op_112 kcX12_findStays (Nat.le_of_ble_eq_true rfl) rfl
theorem dX12_findStays_87 : decode cX12_findStays 87 = .ok (.iload_n 3, 1) := op_29 kcX12_findStays (Nat.le_of_ble_eq_true rfl) rfl
theorem dX12_findStays_88 : decode cX12_findStays 88 = .ok (.bipush 7, 2) := op_16 (a := 7) kcX12_findStays (Nat.le_of_ble_eq_true rfl) rfl rfl (by decide)
theorem dX12_findStays_90 : decode cX12_findStays 90 = .ok (.irem, 1) := op_112 kcX12_findStays (Nat.le_of_ble_eq_true rfl) rfl
theorem dX12_findStays_91 : decode cX12_findStays 91 = .ok (.if_icmp .ne 17, 3) := op_160 (a := 0) (b := 17) kcX12_findStays (Nat.le_of_ble_eq_true rfl) rfl rfl rfl (by decide)
theorem dX12_findStays_94 : decode cX12_findStays 94 = .ok (.iconst 1, 1) := op_4 kcX12_findStays (Nat.le_of_ble_eq_true rfl) rfl
theorem dX12_findStays_95 : decode cX12_findStays 95 = .ok (.aload_n 0, 1) := op_42 kcX12_findStays (Nat.le_of_ble_eq_true rfl) rfl
theorem dX12_findStays_96 : decode cX12_findStays 96 = .ok (.iload 6, 2) := op_21 (a := 6) kcX12_findStays (Nat.le_of_ble_eq_true rfl) rfl rfl
theorem dX12_findStays_98 : decode cX12_findStays 98 = .ok (.iload_n 2, 1) := op_28 kcX12_findStays (Nat.le_of_ble_eq_true rfl) rfl
theorem dX12_findStays_99 : decode cX12_findStays 99 = .ok (.iconst 1, 1) := op_4 kcX12_findStays (Nat.le_of_ble_eq_true rfl) rfl
theorem dX12_findStays_100 : decode cX12_findStays 100 = .ok (.isub, 1) := op_100 kcX12_findStays (Nat.le_of_ble_eq_true rfl) rfl
theorem dX12_findStays_101 : decode cX12_findStays 101 = .ok (.invokevirtual 260, 3) := op_182 (a := 1) (b := 4) kcX12_findStays (Nat.le_of_ble_eq_true rfl) rfl rfl rfl
theorem dX12_findStays_104 : decode cX12_findStays 104 = .ok (.iadd, 1) := op_96 kcX12_findStays (Nat.le_of_ble_eq_true rfl) rfl
theorem dX12_findStays_105 : decode cX12_findStays 105 = .ok (.goto 4, 3) := op_167 (a := 0) (b := 4) kcX12_findStays (Nat.le_of_ble_eq_true rfl) rfl rfl rfl (by decide)
theorem dX12_findStays_108 : decode cX12_findStays 108 = .ok (.iconst 0, 1) := op_3 kcX12_findStays (Nat.le_of_ble_eq_true rfl) rfl
theorem dX12_findStays_109 : decode cX12_findStays 109 = .ok (.istore 7, 2) := op_54 (a := 7) kcX12_findStays (Nat.le_of_ble_eq_true rfl) rfl rfl
theorem dX12_findStays_111 : decode cX12_findStays 111 = .ok (.iload 7, 2) := op_21 (a := 7) kcX12_findStays (Nat.le_of_ble_eq_true rfl) rfl rfl
theorem dX12_findStays_113 : decode cX12_findStays 113 = .ok (.iload 4, 2) := op_21 (a := 4) kcX12_findStays (Nat.le_of_ble_eq_true rfl) rfl rfl
theorem dX12_findStays_115 : decode cX12_findStays 115 = .ok (.if_icmp .le 8, 3) := op_164 (a := 0) (b := 8) kcX12_findStays (Nat.le_of_ble_eq_true rfl) rfl rfl rfl (by decide)
theorem dX12_findStays_118 : decode cX12_findStays 118 = .ok (.iload 7, 2) := op_21 (a := 7) kcX12_findStays (Nat.le_of_ble_eq_true rfl) rfl rfl
theorem dX12_findStays_120 : decode cX12_findStays 120 = .ok (.goto 5, 3) := op_167 (a := 0) (b := 5) kcX12_findStays (Nat.le_of_ble_eq_true rfl) rfl rfl rfl (by decide)
theorem dX12_findStays_123 : decode cX12_findStays 123 = .ok (.iload 4, 2) := op_21 (a := 4) kcX12_findStays (Nat.le_of_ble_eq_true rfl) rfl rfl
theorem dX12_findStays_125 : decode cX12_findStays 125 = .ok (.istore 4, 2) := op_54 (a := 4) kcX12_findStays (Nat.le_of_ble_eq_true rfl) rfl rfl
theorem dX12_findStays_127 : decode cX12_findStays 127 = .ok (.iinc 5 1, 3) := by decide +kernel
theorem dX12_findStays_130 : decode cX12_findStays 130 = .ok (.goto (-88), 3) := op_167 (a := 255) (b := 168) kcX12_findStays (Nat.le_of_ble_eq_true rfl) rfl rfl rfl (by decide)
theorem dX12_findStays_133 : decode cX12_findStays 133 = .ok (.aload_n 0, 1) := op_42 kcX12_findStays (Nat.le_of_ble_eq_true rfl) rfl
theorem dX12_findStays_134 : decode cX12_findStays 134 = .ok (.getfield 48, 3) := op_180 (a := 0) (b := 48) kcX12_findStays (Nat.le_of_ble_eq_true rfl) rfl rfl rfl
theorem dX12_findStays_137 : decode cX12_findStays 137 = .ok (.bipush 49, 2) := op_16 (a := 49) kcX12_findStays (Nat.le_of_ble_eq_true rfl) rfl rfl (by decide)
theorem dX12_findStays_139 : decode cX12_findStays 139 = .ok (.iload_n 2, 1) := op_28 kcX12_findStays (Nat.le_of_ble_eq_true rfl) rfl
theorem dX12_findStays_140 : decode cX12_findStays 140 = .ok (.imul, 1) := op_104 kcX12_findStays (Nat.le_of_ble_eq_true rfl) rfl
theorem dX12_findStays_141 : decode cX12_findStays 141 = .ok (.iload_n 3, 1) := op_29 kcX12_findStays (Nat.le_of_ble_eq_true rfl) rfl
theorem dX12_findStays_142 : decode cX12_findStays 142 = .ok (.iadd, 1) := op_96 kcX12_findStays (Nat.le_of_ble_eq_true rfl) rfl
theorem dX12_findStays_143 : decode cX12_findStays 143 = .ok (.iload 4, 2) := op_21 (a := 4) kcX12_findStays (Nat.le_of_ble_eq_true rfl) rfl rfl
theorem dX12_findStays_145 : decode cX12_findStays 145 = .ok (.iastore, 1) := op_79 kcX12_findStays (Nat.le_of_ble_eq_true rfl) rfl
theorem dX12_findStays_146 : decode cX12_findStays 146 = .ok (.iinc 3 1, 3) := by decide +kernel
theorem dX12_findStays_149 : decode cX12_findStays 149 = .ok (.goto (-119), 3) := op_167 (a := 255) (b := 137) kcX12_findStays (Nat.le_of_ble_eq_true rfl) rfl rfl rfl (by decide)
theorem dX12_findStays_152 : decode cX12_findStays 152 = .ok (.iinc 2 1, 3) := by decide +kernel
theorem dX12_findStays_155 : decode cX12_findStays 155 = .ok (.goto (-132), 3) := op_167 (a := 255) (b := 124) kcX12_findStays (Nat.le_of_ble_eq_true rfl) rfl rfl rfl (by decide)
theorem dX12_findStays_158 : decode cX12_findStays 158 = .ok (.return_, 1) := op_177 kcX12_findStays (Nat.le_of_ble_eq_true rfl) rfl
theorem kcX12_stateNow : (cX12_stateNow).data.toList = cbs 0xac602e08100700b42a682e07100700b42a0710 19 := by decide +kernel
theorem dX12_stateNow_0 : decode cX12_stateNow 0 = .ok (.bipush 7, 2) := op_16 (a := 7) kcX12_stateNow (Nat.le_of_ble_eq_true rfl) rfl rfl (by decide)
theorem dX12_stateNow_2 : decode cX12_stateNow 2 = .ok (.aload_n 0, 1) := op_42 kcX12_stateNow (Nat.le_of_ble_eq_true rfl) rfl
theorem dX12_stateNow_3 : decode cX12_stateNow 3 = .ok (.getfield 7, 3) := op_180 (a := 0) (b := 7) kcX12_stateNow (Nat.le_of_ble_eq_true rfl) rfl rfl rfl
theorem dX12_stateNow_6 : decode cX12_stateNow 6 = .ok (.bipush 7, 2) := op_16 (a := 7) kcX12_stateNow (Nat.le_of_ble_eq_true rfl) rfl rfl (by decide)
theorem dX12_stateNow_8 : decode cX12_stateNow 8 = .ok (.iaload, 1) := op_46 kcX12_stateNow (Nat.le_of_ble_eq_true rfl) rfl
theorem dX12_stateNow_9 : decode cX12_stateNow 9 = .ok (.imul, 1) := op_104 kcX12_stateNow (Nat.le_of_ble_eq_true rfl) rfl
theorem dX12_stateNow_10 : decode cX12_stateNow 10 = .ok (.aload_n 0, 1) := op_42 kcX12_stateNow (Nat.le_of_ble_eq_true rfl) rfl
theorem dX12_stateNow_11 : decode cX12_stateNow 11 = .ok (.getfield 7, 3) := op_180 (a := 0) (b := 7) kcX12_stateNow (Nat.le_of_ble_eq_true rfl) rfl rfl rfl
theorem dX12_stateNow_14 : decode cX12_stateNow 14 = .ok (.bipush 8, 2) := op_16 (a := 8) kcX12_stateNow (Nat.le_of_ble_eq_true rfl) rfl rfl (by decide)
theorem dX12_stateNow_16 : decode cX12_stateNow 16 = .ok (.iaload, 1) := op_46 kcX12_stateNow (Nat.le_of_ble_eq_true rfl) rfl
theorem dX12_stateNow_17 : decode cX12_stateNow 17 = .ok (.iadd, 1) := op_96 kcX12_stateNow (Nat.le_of_ble_eq_true rfl) rfl
theorem dX12_stateNow_18 : decode cX12_stateNow 18 = .ok (.ireturn, 1) := op_172 kcX12_stateNow (Nat.le_of_ble_eq_true rfl) rfl
set_option maxRecDepth 20000 in
theorem ggX12_reign_X12_in : GoodIn wsX12_reign wsX12_in := goodIn_r _ [7] rfl gw_wsX12_in
set_option maxRecDepth 20000 in
theorem gX12_reign_X12_in : GoodIn wsX12_reign (va_wsS RX12 115 yX12_in wsX12_in) := goodIn_app (goodIn_of _ (by decide +kernel)) ggX12_reign_X12_in
set_option maxRecDepth 20000 in
theorem gw_wsX12_findStays : (wsX12_findStays).all goodWord = true := by decide +kernel
set_option maxRecDepth 20000 in
theorem ggX12_reign_X12_findStays : GoodIn wsX12_reign wsX12_findStays := goodIn_r _ [11, 12, 3, 13, 14, 15, 16, 6, 17, 18, 19, 20, 21, 22, 23, 24, 25, 26, 27, 28, 29, 30, 31, 32, 33, 34, 35, 40, 41, 42, 43, 44, 45, 46, 47, 48, 49, 50, 51, 52, 53, 54, 55, 56, 57, 58, 59, 60, 61, 62, 63, 64, 65, 66, 67, 68, 69, 70, 71, 72, 73, 74, 75, 76] rfl gw_wsX12_findStays
set_option maxRecDepth 20000 in
theorem gX12_reign_X12_findStays : GoodIn wsX12_reign (wsV RX12 265 RX12 yX12_findStays wsX12_findStays) := goodIn_app (goodIn_of _ (by decide +kernel)) ggX12_reign_X12_findStays
set_option maxRecDepth 20000 in
theorem gw_wsX12_stateNow : (wsX12_stateNow).all goodWord = true := by decide +kernel
set_option maxRecDepth 20000 in
theorem ggX12_reign_X12_stateNow : GoodIn wsX12_reign wsX12_stateNow := goodIn_r _ [39, 28, 40, 41, 42, 43, 44, 45, 46, 47, 48, 49, 50, 51, 52, 53, 54, 55, 56, 57, 58, 59, 60, 61, 62, 63, 64, 65, 66, 67, 68, 69, 70, 71, 72, 73, 74, 75, 76] rfl gw_wsX12_stateNow
set_option maxRecDepth 20000 in
theorem gX12_reign_X12_stateNow : GoodIn wsX12_reign (wsV RX12 268 RX12 yX12_stateNow wsX12_stateNow) := goodIn_app (goodIn_of _ (by decide +kernel)) ggX12_reign_X12_stateNow
set_option maxRecDepth 20000 in
theorem ggX12_reign_X12_longestFrom : GoodIn wsX12_reign wsX12_longestFrom := goodIn_r _ [35, 12, 40, 41, 42, 43, 44, 45, 46, 47, 48, 49, 50, 51, 52, 53, 54, 55, 56, 57, 58, 59, 60, 61, 62, 63, 64, 65, 66, 67, 68, 69, 70, 71, 72, 73, 74, 75, 76] rfl gw_wsX12_longestFrom
set_option maxRecDepth 20000 in
theorem gX12_reign_X12_longestFrom : GoodIn wsX12_reign (wsV RX12 260 RX12 yX12_longestFrom wsX12_longestFrom) := goodIn_app (goodIn_of _ (by decide +kernel)) ggX12_reign_X12_longestFrom
set_option maxRecDepth 20000 in
theorem ggX12_reign_X12_then : GoodIn wsX12_reign wsX12_then := goodIn_r _ [17, 18, 19, 20, 21, 6, 22, 23, 24, 25, 26, 27, 13, 28, 29, 30, 31, 40, 41, 42, 43, 44, 45, 46, 47, 48, 49, 50, 51, 52, 53, 54, 55, 56, 57, 58, 59, 60, 61, 62, 63, 64, 65, 66, 67, 68, 69, 70, 71, 72, 73, 74, 75, 76] rfl gw_wsX12_then
set_option maxRecDepth 20000 in
theorem gX12_reign_X12_then : GoodIn wsX12_reign (wsV RX12 233 RX12 yX12_then wsX12_then) := goodIn_app (goodIn_of _ (by decide +kernel)) ggX12_reign_X12_then
theorem kcX12_reign : (cX12_reign).data.toList = cbs 0xac051594ffa70106843ee900b605151d2ab7ffa7ff0784053605150500a7071508009909150936030400a7040700a0640464061504150401b66404640615041508152a1e00a07007101d70071008150836e900b607151d2a4a009b0715073664046700b42a0536fc106900a3640a101c06150636030536fc10acfc100600a10415640a101cac041506009a1c04360401b61b1d2a3e0c01b62a0901b61b2aacfe1006009a6700b42aac0205009a7300b8070114ec0014851c1300991c1500997300b8ec00140a851b 200 := by decide +kernel
theorem dX12_reign_0 : decode cX12_reign 0 = .ok (.iload_n 1, 1) := op_27 kcX12_reign (Nat.le_of_ble_eq_true rfl) rfl
theorem dX12_reign_1 : decode cX12_reign 1 = .ok (.i2l, 1) := op_133 kcX12_reign (Nat.le_of_ble_eq_true rfl) rfl
theorem dX12_reign_2 : decode cX12_reign 2 = .ok (.lconst 1, 1) := op_10 kcX12_reign (Nat.le_of_ble_eq_true rfl) rfl
theorem dX12_reign_3 : decode cX12_reign 3 = .ok (.ldc2_w 236, 3) := op_20 (a := 0) (b := 236) kcX12_reign (Nat.le_of_ble_eq_true rfl) rfl rfl rfl
theorem dX12_reign_6 : decode cX12_reign 6 = .ok (.invokestatic 115, 3) := op_184 (a := 0) (b := 115) kcX12_reign (Nat.le_of_ble_eq_true rfl) rfl rfl rfl
theorem dX12_reign_9 : decode cX12_reign 9 = .ok (.ifCond .eq 21, 3) := op_153 (a := 0) (b := 21) kcX12_reign (Nat.le_of_ble_eq_true rfl) rfl rfl rfl (by decide)
theorem dX12_reign_12 : decode cX12_reign 12 = .ok (.iload_n 2, 1) := op_28 kcX12_reign (Nat.le_of_ble_eq_true rfl) rfl
theorem dX12_reign_13 : decode cX12_reign 13 = .ok (.ifCond .eq 19, 3) := op_153 (a := 0) (b := 19) kcX12_reign (Nat.le_of_ble_eq_true rfl) rfl rfl rfl (by decide)
theorem dX12_reign_16 : decode cX12_reign 16 = .ok (.iload_n 2, 1) := op_28 kcX12_reign (Nat.le_of_ble_eq_true rfl) rfl
theorem dX12_reign_17 : decode cX12_reign 17 = .ok (.i2l, 1) := op_133 kcX12_reign (Nat.le_of_ble_eq_true rfl) rfl
theorem dX12_reign_18 : decode cX12_reign 18 = .ok (.ldc2_w 236, 3) := op_20 (a := 0) (b := 236) kcX12_reign (Nat.le_of_ble_eq_true rfl) rfl rfl rfl
theorem dX12_reign_21 : decode cX12_reign 21 = .ok (.ldc2_w 263, 3) := op_20 (a := 1) (b := 7) kcX12_reign (Nat.le_of_ble_eq_true rfl) rfl rfl rfl
theorem dX12_reign_24 : decode cX12_reign 24 = .ok (.invokestatic 115, 3) := op_184 (a := 0) (b := 115) kcX12_reign (Nat.le_of_ble_eq_true rfl) rfl rfl rfl
theorem dX12_reign_27 : decode cX12_reign 27 = .ok (.ifCond .ne 5, 3) := op_154 (a := 0) (b := 5) kcX12_reign (Nat.le_of_ble_eq_true rfl) rfl rfl rfl (by decide)
theorem dX12_reign_30 : decode cX12_reign 30 = .ok (.iconst (-1), 1) := op_2 kcX12_reign (Nat.le_of_ble_eq_true rfl) rfl
theorem dX12_reign_31 : decode cX12_reign 31 = .ok (.ireturn, 1) := op_172 kcX12_reign (Nat.le_of_ble_eq_true rfl) rfl
theorem dX12_reign_32 : decode cX12_reign 32 = .ok (.aload_n 0, 1) := op_42 kcX12_reign (Nat.le_of_ble_eq_true rfl) rfl
theorem dX12_reign_33 : decode cX12_reign 33 = .ok (.getfield 103, 3) := op_180 (a := 0) (b := 103) kcX12_reign (Nat.le_of_ble_eq_true rfl) rfl rfl rfl
theorem dX12_reign_36 : decode cX12_reign 36 = .ok (.ifCond .ne 6, 3) := op_154 (a := 0) (b := 6) kcX12_reign (Nat.le_of_ble_eq_true rfl) rfl rfl rfl (by decide)
theorem dX12_reign_39 : decode cX12_reign 39 = .ok (.bipush (-2), 2) := op_16 (a := 254) kcX12_reign (Nat.le_of_ble_eq_true rfl) rfl rfl (by decide)
theorem dX12_reign_41 : decode cX12_reign 41 = .ok (.ireturn, 1) := op_172 kcX12_reign (Nat.le_of_ble_eq_true rfl) rfl
theorem dX12_reign_42 : decode cX12_reign 42 = .ok (.aload_n 0, 1) := op_42 kcX12_reign (Nat.le_of_ble_eq_true rfl) rfl
theorem dX12_reign_43 : decode cX12_reign 43 = .ok (.iload_n 1, 1) := op_27 kcX12_reign (Nat.le_of_ble_eq_true rfl) rfl
theorem dX12_reign_44 : decode cX12_reign 44 = .ok (.invokevirtual 265, 3) := op_182 (a := 1) (b := 9) kcX12_reign (Nat.le_of_ble_eq_true rfl) rfl rfl rfl
theorem dX12_reign_47 : decode cX12_reign 47 = .ok (.aload_n 0, 1) := op_42 kcX12_reign (Nat.le_of_ble_eq_true rfl) rfl
theorem dX12_reign_48 : decode cX12_reign 48 = .ok (.invokevirtual 268, 3) := op_182 (a := 1) (b := 12) kcX12_reign (Nat.le_of_ble_eq_true rfl) rfl rfl rfl
theorem dX12_reign_51 : decode cX12_reign 51 = .ok (.istore_n 3, 1) := op_62 kcX12_reign (Nat.le_of_ble_eq_true rfl) rfl
theorem dX12_reign_52 : decode cX12_reign 52 = .ok (.aload_n 0, 1) := op_42 kcX12_reign (Nat.le_of_ble_eq_true rfl) rfl
theorem dX12_reign_53 : decode cX12_reign 53 = .ok (.iload_n 3, 1) := op_29 kcX12_reign (Nat.le_of_ble_eq_true rfl) rfl
theorem dX12_reign_54 : decode cX12_reign 54 = .ok (.iload_n 1, 1) := op_27 kcX12_reign (Nat.le_of_ble_eq_true rfl) rfl
theorem dX12_reign_55 : decode cX12_reign 55 = .ok (.invokevirtual 260, 3) := op_182 (a := 1) (b := 4) kcX12_reign (Nat.le_of_ble_eq_true rfl) rfl rfl rfl
theorem dX12_reign_58 : decode cX12_reign 58 = .ok (.istore 4, 2) := op_54 (a := 4) kcX12_reign (Nat.le_of_ble_eq_true rfl) rfl rfl
theorem dX12_reign_60 : decode cX12_reign 60 = .ok (.iload_n 2, 1) := op_28 kcX12_reign (Nat.le_of_ble_eq_true rfl) rfl
theorem dX12_reign_61 : decode cX12_reign 61 = .ok (.ifCond .ne 6, 3) := op_154 (a := 0) (b := 6) kcX12_reign (Nat.le_of_ble_eq_true rfl) rfl rfl rfl (by decide)
theorem dX12_reign_64 : decode cX12_reign 64 = .ok (.iload 4, 2) := op_21 (a := 4) kcX12_reign (Nat.le_of_ble_eq_true rfl) rfl rfl
theorem dX12_reign_66 : decode cX12_reign 66 = .ok (.ireturn, 1) := op_172 kcX12_reign (Nat.le_of_ble_eq_true rfl) rfl
theorem dX12_reign_67 : decode cX12_reign 67 = .ok (.iload_n 2, 1) := op_28 kcX12_reign (Nat.le_of_ble_eq_true rfl) rfl
theorem dX12_reign_68 : decode cX12_reign 68 = .ok (.bipush 10, 2) := op_16 (a := 10) kcX12_reign (Nat.le_of_ble_eq_true rfl) rfl rfl (by decide)
theorem dX12_reign_70 : decode cX12_reign 70 = .ok (.isub, 1) := op_100 kcX12_reign (Nat.le_of_ble_eq_true rfl) rfl
theorem dX12_reign_71 : decode cX12_reign 71 = .ok (.iload 4, 2) := op_21 (a := 4) kcX12_reign (Nat.le_of_ble_eq_true rfl) rfl rfl
theorem dX12_reign_73 : decode cX12_reign 73 = .ok (.if_icmp .lt 6, 3) := op_161 (a := 0) (b := 6) kcX12_reign (Nat.le_of_ble_eq_true rfl) rfl rfl rfl (by decide)
theorem dX12_reign_76 : decode cX12_reign 76 = .ok (.bipush (-4), 2) := op_16 (a := 252) kcX12_reign (Nat.le_of_ble_eq_true rfl) rfl rfl (by decide)
theorem dX12_reign_78 : decode cX12_reign 78 = .ok (.ireturn, 1) := op_172 kcX12_reign (Nat.le_of_ble_eq_true rfl) rfl
theorem dX12_reign_79 : decode cX12_reign 79 = .ok (.bipush (-4), 2) := op_16 (a := 252) kcX12_reign (Nat.le_of_ble_eq_true rfl) rfl rfl (by decide)
theorem dX12_reign_81 : decode cX12_reign 81 = .ok (.istore 5, 2) := op_54 (a := 5) kcX12_reign (Nat.le_of_ble_eq_true rfl) rfl rfl
theorem dX12_reign_83 : decode cX12_reign 83 = .ok (.iconst 0, 1) := op_3 kcX12_reign (Nat.le_of_ble_eq_true rfl) rfl
theorem dX12_reign_84 : decode cX12_reign 84 = .ok (.istore 6, 2) := op_54 (a := 6) kcX12_reign (Nat.le_of_ble_eq_true rfl) rfl rfl
theorem dX12_reign_86 : decode cX12_reign 86 = .ok (.iload 6, 2) := op_21 (a := 6) kcX12_reign (Nat.le_of_ble_eq_true rfl) rfl rfl
theorem dX12_reign_88 : decode cX12_reign 88 = .ok (.iload_n 2, 1) := op_28 kcX12_reign (Nat.le_of_ble_eq_true rfl) rfl
theorem dX12_reign_89 : decode cX12_reign 89 = .ok (.bipush 10, 2) := op_16 (a := 10) kcX12_reign (Nat.le_of_ble_eq_true rfl) rfl rfl (by decide)
theorem dX12_reign_91 : decode cX12_reign 91 = .ok (.isub, 1) := op_100 kcX12_reign (Nat.le_of_ble_eq_true rfl) rfl
theorem dX12_reign_92 : decode cX12_reign 92 = .ok (.if_icmp .gt 105, 3) := op_163 (a := 0) (b := 105) kcX12_reign (Nat.le_of_ble_eq_true rfl) rfl rfl rfl (by decide)
theorem dX12_reign_95 : decode cX12_reign 95 = .ok (.bipush (-4), 2) := op_16 (a := 252) kcX12_reign (Nat.le_of_ble_eq_true rfl) rfl rfl (by decide)
theorem dX12_reign_97 : decode cX12_reign 97 = .ok (.istore 5, 2) := op_54 (a := 5) kcX12_reign (Nat.le_of_ble_eq_true rfl) rfl rfl
theorem dX12_reign_99 : decode cX12_reign 99 = .ok (.aload_n 0, 1) := op_42 kcX12_reign (Nat.le_of_ble_eq_true rfl) rfl
theorem dX12_reign_100 : decode cX12_reign 100 = .ok (.getfield 103, 3) := op_180 (a := 0) (b := 103) kcX12_reign (Nat.le_of_ble_eq_true rfl) rfl rfl rfl
theorem dX12_reign_103 : decode cX12_reign 103 = .ok (.iconst 1, 1) := op_4 kcX12_reign (Nat.le_of_ble_eq_true rfl) rfl
theorem dX12_reign_104 : decode cX12_reign 104 = .ok (.isub, 1) := op_100 kcX12_reign (Nat.le_of_ble_eq_true rfl) rfl
theorem dX12_reign_105 : decode cX12_reign 105 = .ok (.istore 7, 2) := op_54 (a := 7) kcX12_reign (Nat.le_of_ble_eq_true rfl) rfl rfl
theorem dX12_reign_107 : decode cX12_reign 107 = .ok (.iload 7, 2) := op_21 (a := 7) kcX12_reign (Nat.le_of_ble_eq_true rfl) rfl rfl
theorem dX12_reign_109 : decode cX12_reign 109 = .ok (.ifCond .lt 74, 3) := op_155 (a := 0) (b := 74) kcX12_reign (Nat.le_of_ble_eq_true rfl) rfl rfl rfl (by decide)
theorem dX12_reign_112 : decode cX12_reign 112 = .ok (.aload_n 0, 1) := op_42 kcX12_reign (Nat.le_of_ble_eq_true rfl) rfl
theorem dX12_reign_113 : decode cX12_reign 113 = .ok (.iload_n 3, 1) := op_29 kcX12_reign (Nat.le_of_ble_eq_true rfl) rfl
theorem dX12_reign_114 : decode cX12_reign 114 = .ok (.iload 7, 2) := op_21 (a := 7) kcX12_reign (Nat.le_of_ble_eq_true rfl) rfl rfl
theorem dX12_reign_116 : decode cX12_reign 116 = .ok (.invokevirtual 233, 3) := op_182 (a := 0) (b := 233) kcX12_reign (Nat.le_of_ble_eq_true rfl) rfl rfl rfl
theorem dX12_reign_119 : decode cX12_reign 119 = .ok (.istore 8, 2) := op_54 (a := 8) kcX12_reign (Nat.le_of_ble_eq_true rfl) rfl rfl
theorem dX12_reign_121 : decode cX12_reign 121 = .ok (.iload 8, 2) := op_21 (a := 8) kcX12_reign (Nat.le_of_ble_eq_true rfl) rfl rfl
theorem dX12_reign_123 : decode cX12_reign 123 = .ok (.bipush 7, 2) := op_16 (a := 7) kcX12_reign (Nat.le_of_ble_eq_true rfl) rfl rfl (by decide)
theorem dX12_reign_125 : decode cX12_reign 125 = .ok (.irem, 1) := op_112 kcX12_reign (Nat.le_of_ble_eq_true rfl) rfl
theorem dX12_reign_126 : decode cX12_reign 126 = .ok (.iload_n 3, 1) := op_29 kcX12_reign (Nat.le_of_ble_eq_true rfl) rfl
theorem dX12_reign_127 : decode cX12_reign 127 = .ok (.bipush 7, 2) := op_16 (a := 7) kcX12_reign (Nat.le_of_ble_eq_true rfl) rfl rfl (by decide)
theorem dX12_reign_129 : decode cX12_reign 129 = .ok (.irem, 1) := op_112 kcX12_reign (Nat.le_of_ble_eq_true rfl) rfl
theorem dX12_reign_130 : decode cX12_reign 130 = .ok (.if_icmp .ne 30, 3) := op_160 (a := 0) (b := 30) kcX12_reign (Nat.le_of_ble_eq_true rfl) rfl rfl rfl (by decide)
theorem dX12_reign_133 : decode cX12_reign 133 = .ok (.aload_n 0, 1) := op_42 kcX12_reign (Nat.le_of_ble_eq_true rfl) rfl
theorem dX12_reign_134 : decode cX12_reign 134 = .ok (.iload 8, 2) := op_21 (a := 8) kcX12_reign (Nat.le_of_ble_eq_true rfl) rfl rfl
theorem dX12_reign_136 : decode cX12_reign 136 = .ok (.iload 4, 2) := op_21 (a := 4) kcX12_reign (Nat.le_of_ble_eq_true rfl) rfl rfl
theorem dX12_reign_138 : decode cX12_reign 138 = .ok (.iload 6, 2) := op_21 (a := 6) kcX12_reign (Nat.le_of_ble_eq_true rfl) rfl rfl
theorem dX12_reign_140 : decode cX12_reign 140 = .ok (.isub, 1) := op_100 kcX12_reign (Nat.le_of_ble_eq_true rfl) rfl
theorem dX12_reign_141 : decode cX12_reign 141 = .ok (.iconst 1, 1) := op_4 kcX12_reign (Nat.le_of_ble_eq_true rfl) rfl
theorem dX12_reign_142 : decode cX12_reign 142 = .ok (.isub, 1) := op_100 kcX12_reign (Nat.le_of_ble_eq_true rfl) rfl
theorem dX12_reign_143 : decode cX12_reign 143 = .ok (.invokevirtual 260, 3) := op_182 (a := 1) (b := 4) kcX12_reign (Nat.le_of_ble_eq_true rfl) rfl rfl rfl
theorem dX12_reign_146 : decode cX12_reign 146 = .ok (.iload 4, 2) := op_21 (a := 4) kcX12_reign (Nat.le_of_ble_eq_true rfl) rfl rfl
theorem dX12_reign_148 : decode cX12_reign 148 = .ok (.iload 6, 2) := op_21 (a := 6) kcX12_reign (Nat.le_of_ble_eq_true rfl) rfl rfl
theorem dX12_reign_150 : decode cX12_reign 150 = .ok (.isub, 1) := op_100 kcX12_reign (Nat.le_of_ble_eq_true rfl) rfl
theorem dX12_reign_151 : decode cX12_reign 151 = .ok (.iconst 1, 1) := op_4 kcX12_reign (Nat.le_of_ble_eq_true rfl) rfl
theorem dX12_reign_152 : decode cX12_reign 152 = .ok (.isub, 1) := op_100 kcX12_reign (Nat.le_of_ble_eq_true rfl) rfl
theorem dX12_reign_153 : decode cX12_reign 153 = .ok (.if_icmp .ne 7, 3) := op_160 (a := 0) (b := 7) kcX12_reign (Nat.le_of_ble_eq_true rfl) rfl rfl rfl (by decide)
theorem dX12_reign_156 : decode cX12_reign 156 = .ok (.iconst 1, 1) := op_4 kcX12_reign (Nat.le_of_ble_eq_true rfl) rfl
theorem dX12_reign_157 : decode cX12_reign 157 = .ok (.goto 4, 3) := op_167 (a := 0) (b := 4) kcX12_reign (Nat.le_of_ble_eq_true rfl) rfl rfl rfl (by decide)
theorem dX12_reign_160 : decode cX12_reign 160 = .ok (.iconst 0, 1) := op_3 kcX12_reign (Nat.le_of_ble_eq_true rfl) rfl
theorem dX12_reign_161 : decode cX12_reign 161 = .ok (.istore 9, 2) := op_54 (a := 9) kcX12_reign (Nat.le_of_ble_eq_true rfl) rfl rfl
theorem dX12_reign_163 : decode cX12_reign 163 = .ok (.iload 9, 2) := op_21 (a := 9) kcX12_reign (Nat.le_of_ble_eq_true rfl) rfl rfl
theorem dX12_reign_165 : decode cX12_reign 165 = .ok (.ifCond .eq 8, 3) := op_153 (a := 0) (b := 8) kcX12_reign (Nat.le_of_ble_eq_true rfl) rfl rfl rfl (by decide)
theorem dX12_reign_168 : decode cX12_reign 168 = .ok (.iload 7, 2) := op_21 (a := 7) kcX12_reign (Nat.le_of_ble_eq_true rfl) rfl rfl
theorem dX12_reign_170 : decode cX12_reign 170 = .ok (.goto 5, 3) := op_167 (a := 0) (b := 5) kcX12_reign (Nat.le_of_ble_eq_true rfl) rfl rfl rfl (by decide)
theorem dX12_reign_173 : decode cX12_reign 173 = .ok (.iload 5, 2) := op_21 (a := 5) kcX12_reign (Nat.le_of_ble_eq_true rfl) rfl rfl
theorem dX12_reign_175 : decode cX12_reign 175 = .ok (.istore 5, 2) := op_54 (a := 5) kcX12_reign (Nat.le_of_ble_eq_true rfl) rfl rfl
theorem dX12_reign_177 : decode cX12_reign 177 = .ok (.iinc 7 (-1), 3) := by decide +kernel
theorem dX12_reign_180 : decode cX12_reign 180 = .ok (.goto (-73), 3) := op_167 (a := 255) (b := 183) kcX12_reign (Nat.le_of_ble_eq_true rfl) rfl rfl rfl (by decide)
theorem dX12_reign_183 : decode cX12_reign 183 = .ok (.aload_n 0, 1) := op_42 kcX12_reign (Nat.le_of_ble_eq_true rfl) rfl
theorem dX12_reign_184 : decode cX12_reign 184 = .ok (.iload_n 3, 1) := op_29 kcX12_reign (Nat.le_of_ble_eq_true rfl) rfl
theorem dX12_reign_185 : decode cX12_reign 185 = .ok (.iload 5, 2) := op_21 (a := 5) kcX12_reign (Nat.le_of_ble_eq_true rfl) rfl rfl
theorem dX12_reign_187 : decode cX12_reign 187 = .ok (.invokevirtual 233, 3) := op_182 (a := 0) (b := 233) kcX12_reign (Nat.le_of_ble_eq_true rfl) rfl rfl rfl
theorem dX12_reign_190 : decode cX12_reign 190 = .ok (.istore_n 3, 1) := op_62 kcX12_reign (Nat.le_of_ble_eq_true rfl) rfl
theorem dX12_reign_191 : decode cX12_reign 191 = .ok (.iinc 6 1, 3) := by decide +kernel
theorem dX12_reign_194 : decode cX12_reign 194 = .ok (.goto (-108), 3) := op_167 (a := 255) (b := 148) kcX12_reign (Nat.le_of_ble_eq_true rfl) rfl rfl rfl (by decide)
theorem dX12_reign_197 : decode cX12_reign 197 = .ok (.iload 5, 2) := op_21 (a := 5) kcX12_reign (Nat.le_of_ble_eq_true rfl) rfl rfl
theorem dX12_reign_199 : decode cX12_reign 199 = .ok (.ireturn, 1) := op_172 kcX12_reign (Nat.le_of_ble_eq_true rfl) rfl
set_option maxRecDepth 20000 in
theorem ggX12_findFewest_X12_then : GoodIn wsX12_findFewest wsX12_then := goodIn_r _ [9, 10, 11, 12, 13, 8, 14, 15, 16, 17, 18, 19, 4, 20, 21, 22, 23, 24, 25, 26, 27, 28, 29, 30, 31, 32, 33, 34, 35, 36, 37, 38, 39, 40, 41, 42, 43, 44, 45, 46, 47, 48, 49, 50, 51, 52, 53, 54, 55, 56, 57, 58, 59, 60] rfl gw_wsX12_then
set_option maxRecDepth 20000 in
theorem gX12_findFewest_X12_then : GoodIn wsX12_findFewest (wsV RX12 233 RX12 yX12_then wsX12_then) := goodIn_app (goodIn_of _ (by decide +kernel)) ggX12_findFewest_X12_then
theorem kcX12_findFewest : (cX12_findFewest).data.toList = cbs 0xb195ffa7010284a3ffa7010384b2ffa70104844f2e1d3300b42a0900a705150800a22e1d3300b42a05151d3300b42a053660042ee900b604151d2a3300b42a3500a26400b42a6c07101d4000a26400b42a7007101d4b00a26700b42a04150436035d00a231101d3e036b00a231101c3d03e2ffa70102844f0f01130600a7030700a01b7007101c1c3300b42a1e00a231101c3d03 148 := by decide +kernel
theorem dX12_findFewest_0 : decode cX12_findFewest 0 = .ok (.iconst 0, 1) := op_3 kcX12_findFewest (Nat.le_of_ble_eq_true rfl) rfl
theorem dX12_findFewest_1 : decode cX12_findFewest 1 = .ok (.istore_n 2, 1) := op_61 kcX12_findFewest (Nat.le_of_ble_eq_true rfl) rfl
theorem dX12_findFewest_2 : decode cX12_findFewest 2 = .ok (.iload_n 2, 1) := op_28 kcX12_findFewest (Nat.le_of_ble_eq_true rfl) rfl
theorem dX12_findFewest_3 : decode cX12_findFewest 3 = .ok (.bipush 49, 2) := op_16 (a := 49) kcX12_findFewest (Nat.le_of_ble_eq_true rfl) rfl rfl (by decide)
theorem dX12_findFewest_5 : decode cX12_findFewest 5 = .ok (.if_icmp .ge 30, 3) := op_162 (a := 0) (b := 30) kcX12_findFewest (Nat.le_of_ble_eq_true rfl) rfl rfl rfl (by decide)
theorem dX12_findFewest_8 : decode cX12_findFewest 8 = .ok (.aload_n 0, 1) := op_42 kcX12_findFewest (Nat.le_of_ble_eq_true rfl) rfl
theorem dX12_findFewest_9 : decode cX12_findFewest 9 = .ok (.getfield 51, 3) := op_180 (a := 0) (b := 51) kcX12_findFewest (Nat.le_of_ble_eq_true rfl) rfl rfl rfl
theorem dX12_findFewest_12 : decode cX12_findFewest 12 = .ok (.iload_n 2, 1) := op_28 kcX12_findFewest (Nat.le_of_ble_eq_true rfl) rfl
theorem dX12_findFewest_13 : decode cX12_findFewest 13 = .ok (.iload_n 2, 1) := op_28 kcX12_findFewest (Nat.le_of_ble_eq_true rfl) rfl
theorem dX12_findFewest_14 : decode cX12_findFewest 14 = .ok (.bipush 7, 2) := op_16 (a := 7) kcX12_findFewest (Nat.le_of_ble_eq_true rfl) rfl rfl (by decide)
theorem dX12_findFewest_16 : decode cX12_findFewest 16 = .ok (.irem, 1) := op_112 kcX12_findFewest (Nat.le_of_ble_eq_true rfl) rfl
theorem dX12_findFewest_17 : decode cX12_findFewest 17 = .ok (.iload_n 1, 1) := op_27 kcX12_findFewest (Nat.le_of_ble_eq_true rfl) rfl
theorem dX12_findFewest_18 : decode cX12_findFewest 18 = .ok (.if_icmp .ne 7, 3) := op_160 (a := 0) (b := 7) kcX12_findFewest (Nat.le_of_ble_eq_true rfl) rfl rfl rfl (by decide)
theorem dX12_findFewest_21 : decode cX12_findFewest 21 = .ok (.iconst 0, 1) := op_3 kcX12_findFewest (Nat.le_of_ble_eq_true rfl) rfl
theorem dX12_findFewest_22 : decode cX12_findFewest 22 = .ok (.goto 6, 3) := op_167 (a := 0) (b := 6) kcX12_findFewest (Nat.le_of_ble_eq_true rfl) rfl rfl rfl (by decide)
theorem dX12_findFewest_25 : decode cX12_findFewest 25 = .ok (.ldc_w 271, 3) := op_19 (a := 1) (b := 15) kcX12_findFewest (Nat.le_of_ble_eq_true rfl) rfl rfl rfl
theorem dX12_findFewest_28 : decode cX12_findFewest 28 = .ok (.iastore, 1) := op_79 kcX12_findFewest (Nat.le_of_ble_eq_true rfl) rfl
theorem dX12_findFewest_29 : decode cX12_findFewest 29 = .ok (.iinc 2 1, 3) := by decide +kernel
theorem dX12_findFewest_32 : decode cX12_findFewest 32 = .ok (.goto (-30), 3) := op_167 (a := 255) (b := 226) kcX12_findFewest (Nat.le_of_ble_eq_true rfl) rfl rfl rfl (by decide)
theorem dX12_findFewest_35 : decode cX12_findFewest 35 = .ok (.iconst 0, 1) := op_3 kcX12_findFewest (Nat.le_of_ble_eq_true rfl) rfl
theorem dX12_findFewest_36 : decode cX12_findFewest 36 = .ok (.istore_n 2, 1) := op_61 kcX12_findFewest (Nat.le_of_ble_eq_true rfl) rfl
theorem dX12_findFewest_37 : decode cX12_findFewest 37 = .ok (.iload_n 2, 1) := op_28 kcX12_findFewest (Nat.le_of_ble_eq_true rfl) rfl
theorem dX12_findFewest_38 : decode cX12_findFewest 38 = .ok (.bipush 49, 2) := op_16 (a := 49) kcX12_findFewest (Nat.le_of_ble_eq_true rfl) rfl rfl (by decide)
theorem dX12_findFewest_40 : decode cX12_findFewest 40 = .ok (.if_icmp .ge 107, 3) := op_162 (a := 0) (b := 107) kcX12_findFewest (Nat.le_of_ble_eq_true rfl) rfl rfl rfl (by decide)
theorem dX12_findFewest_43 : decode cX12_findFewest 43 = .ok (.iconst 0, 1) := op_3 kcX12_findFewest (Nat.le_of_ble_eq_true rfl) rfl
theorem dX12_findFewest_44 : decode cX12_findFewest 44 = .ok (.istore_n 3, 1) := op_62 kcX12_findFewest (Nat.le_of_ble_eq_true rfl) rfl
theorem dX12_findFewest_45 : decode cX12_findFewest 45 = .ok (.iload_n 3, 1) := op_29 kcX12_findFewest (Nat.le_of_ble_eq_true rfl) rfl
theorem dX12_findFewest_46 : decode cX12_findFewest 46 = .ok (.bipush 49, 2) := op_16 (a := 49) kcX12_findFewest (Nat.le_of_ble_eq_true rfl) rfl rfl (by decide)
theorem dX12_findFewest_48 : decode cX12_findFewest 48 = .ok (.if_icmp .ge 93, 3) := op_162 (a := 0) (b := 93) kcX12_findFewest (Nat.le_of_ble_eq_true rfl) rfl rfl rfl (by decide)
theorem dX12_findFewest_51 : decode cX12_findFewest 51 = .ok (.iconst 0, 1) := op_3 kcX12_findFewest (Nat.le_of_ble_eq_true rfl) rfl
theorem dX12_findFewest_52 : decode cX12_findFewest 52 = .ok (.istore 4, 2) := op_54 (a := 4) kcX12_findFewest (Nat.le_of_ble_eq_true rfl) rfl rfl
theorem dX12_findFewest_54 : decode cX12_findFewest 54 = .ok (.iload 4, 2) := op_21 (a := 4) kcX12_findFewest (Nat.le_of_ble_eq_true rfl) rfl rfl
theorem dX12_findFewest_56 : decode cX12_findFewest 56 = .ok (.aload_n 0, 1) := op_42 kcX12_findFewest (Nat.le_of_ble_eq_true rfl) rfl
theorem dX12_findFewest_57 : decode cX12_findFewest 57 = .ok (.getfield 103, 3) := op_180 (a := 0) (b := 103) kcX12_findFewest (Nat.le_of_ble_eq_true rfl) rfl rfl rfl
theorem dX12_findFewest_60 : decode cX12_findFewest 60 = .ok (.if_icmp .ge 75, 3) := op_162 (a := 0) (b := 75) kcX12_findFewest (Nat.le_of_ble_eq_true rfl) rfl rfl rfl (by decide)
theorem dX12_findFewest_63 : decode cX12_findFewest 63 = .ok (.iload_n 3, 1) := op_29 kcX12_findFewest (Nat.le_of_ble_eq_true rfl) rfl
theorem dX12_findFewest_64 : decode cX12_findFewest 64 = .ok (.bipush 7, 2) := op_16 (a := 7) kcX12_findFewest (Nat.le_of_ble_eq_true rfl) rfl rfl (by decide)
theorem dX12_findFewest_66 : decode cX12_findFewest 66 = .ok (.irem, 1) := op_112 kcX12_findFewest (Nat.le_of_ble_eq_true rfl) rfl
theorem dX12_findFewest_67 : decode cX12_findFewest 67 = .ok (.aload_n 0, 1) := op_42 kcX12_findFewest (Nat.le_of_ble_eq_true rfl) rfl
theorem dX12_findFewest_68 : decode cX12_findFewest 68 = .ok (.getfield 100, 3) := op_180 (a := 0) (b := 100) kcX12_findFewest (Nat.le_of_ble_eq_true rfl) rfl rfl rfl
theorem dX12_findFewest_71 : decode cX12_findFewest 71 = .ok (.if_icmp .ge 64, 3) := op_162 (a := 0) (b := 64) kcX12_findFewest (Nat.le_of_ble_eq_true rfl) rfl rfl rfl (by decide)
theorem dX12_findFewest_74 : decode cX12_findFewest 74 = .ok (.iload_n 3, 1) := op_29 kcX12_findFewest (Nat.le_of_ble_eq_true rfl) rfl
theorem dX12_findFewest_75 : decode cX12_findFewest 75 = .ok (.bipush 7, 2) := op_16 (a := 7) kcX12_findFewest (Nat.le_of_ble_eq_true rfl) rfl rfl (by decide)
theorem dX12_findFewest_77 : decode cX12_findFewest 77 = .ok (.idiv, 1) := op_108 kcX12_findFewest (Nat.le_of_ble_eq_true rfl) rfl
theorem dX12_findFewest_78 : decode cX12_findFewest 78 = .ok (.aload_n 0, 1) := op_42 kcX12_findFewest (Nat.le_of_ble_eq_true rfl) rfl
theorem dX12_findFewest_79 : decode cX12_findFewest 79 = .ok (.getfield 100, 3) := op_180 (a := 0) (b := 100) kcX12_findFewest (Nat.le_of_ble_eq_true rfl) rfl rfl rfl
theorem dX12_findFewest_82 : decode cX12_findFewest 82 = .ok (.if_icmp .ge 53, 3) := op_162 (a := 0) (b := 53) kcX12_findFewest (Nat.le_of_ble_eq_true rfl) rfl rfl rfl (by decide)
theorem dX12_findFewest_85 : decode cX12_findFewest 85 = .ok (.aload_n 0, 1) := op_42 kcX12_findFewest (Nat.le_of_ble_eq_true rfl) rfl
theorem dX12_findFewest_86 : decode cX12_findFewest 86 = .ok (.getfield 51, 3) := op_180 (a := 0) (b := 51) kcX12_findFewest (Nat.le_of_ble_eq_true rfl) rfl rfl rfl
theorem dX12_findFewest_89 : decode cX12_findFewest 89 = .ok (.aload_n 0, 1) := op_42 kcX12_findFewest (Nat.le_of_ble_eq_true rfl) rfl
theorem dX12_findFewest_90 : decode cX12_findFewest 90 = .ok (.iload_n 3, 1) := op_29 kcX12_findFewest (Nat.le_of_ble_eq_true rfl) rfl
theorem dX12_findFewest_91 : decode cX12_findFewest 91 = .ok (.iload 4, 2) := op_21 (a := 4) kcX12_findFewest (Nat.le_of_ble_eq_true rfl) rfl rfl
theorem dX12_findFewest_93 : decode cX12_findFewest 93 = .ok (.invokevirtual 233, 3) := op_182 (a := 0) (b := 233) kcX12_findFewest (Nat.le_of_ble_eq_true rfl) rfl rfl rfl
theorem dX12_findFewest_96 : decode cX12_findFewest 96 = .ok (.iaload, 1) := op_46 kcX12_findFewest (Nat.le_of_ble_eq_true rfl) rfl
theorem dX12_findFewest_97 : decode cX12_findFewest 97 = .ok (.iconst 1, 1) := op_4 kcX12_findFewest (Nat.le_of_ble_eq_true rfl) rfl
theorem dX12_findFewest_98 : decode cX12_findFewest 98 = .ok (.iadd, 1) := op_96 kcX12_findFewest (Nat.le_of_ble_eq_true rfl) rfl
theorem dX12_findFewest_99 : decode cX12_findFewest 99 = .ok (.istore 5, 2) := op_54 (a := 5) kcX12_findFewest (Nat.le_of_ble_eq_true rfl) rfl rfl
theorem dX12_findFewest_101 : decode cX12_findFewest 101 = .ok (.aload_n 0, 1) := op_42 kcX12_findFewest (Nat.le_of_ble_eq_true rfl) rfl
theorem dX12_findFewest_102 : decode cX12_findFewest 102 = .ok (.getfield 51, 3) := op_180 (a := 0) (b := 51) kcX12_findFewest (Nat.le_of_ble_eq_true rfl) rfl rfl rfl
theorem dX12_findFewest_105 : decode cX12_findFewest 105 = .ok (.iload_n 3, 1) := op_29 kcX12_findFewest (Nat.le_of_ble_eq_true rfl) rfl
theorem dX12_findFewest_106 : decode cX12_findFewest 106 = .ok (.iload 5, 2) := op_21 (a := 5) kcX12_findFewest (Nat.le_of_ble_eq_true rfl) rfl rfl
theorem dX12_findFewest_108 : decode cX12_findFewest 108 = .ok (.aload_n 0, 1) := op_42 kcX12_findFewest (Nat.le_of_ble_eq_true rfl) rfl
theorem dX12_findFewest_109 : decode cX12_findFewest 109 = .ok (.getfield 51, 3) := op_180 (a := 0) (b := 51) kcX12_findFewest (Nat.le_of_ble_eq_true rfl) rfl rfl rfl
theorem dX12_findFewest_112 : decode cX12_findFewest 112 = .ok (.iload_n 3, 1) := op_29 kcX12_findFewest (Nat.le_of_ble_eq_true rfl) rfl
theorem dX12_findFewest_113 : decode cX12_findFewest 113 = .ok (.iaload, 1) := op_46 kcX12_findFewest (Nat.le_of_ble_eq_true rfl) rfl
theorem dX12_findFewest_114 : decode cX12_findFewest 114 = .ok (.if_icmp .ge 8, 3) := op_162 (a := 0) (b := 8) kcX12_findFewest (Nat.le_of_ble_eq_true rfl) rfl rfl rfl (by decide)
theorem dX12_findFewest_117 : decode cX12_findFewest 117 = .ok (.iload 5, 2) := op_21 (a := 5) kcX12_findFewest (Nat.le_of_ble_eq_true rfl) rfl rfl
theorem dX12_findFewest_119 : decode cX12_findFewest 119 = .ok (.goto 9, 3) := op_167 (a := 0) (b := 9) kcX12_findFewest (Nat.le_of_ble_eq_true rfl) rfl rfl rfl (by decide)
theorem dX12_findFewest_122 : decode cX12_findFewest 122 = .ok (.aload_n 0, 1) := op_42 kcX12_findFewest (Nat.le_of_ble_eq_true rfl) rfl
theorem dX12_findFewest_123 : decode cX12_findFewest 123 = .ok (.getfield 51, 3) := op_180 (a := 0) (b := 51) kcX12_findFewest (Nat.le_of_ble_eq_true rfl) rfl rfl rfl
theorem dX12_findFewest_126 : decode cX12_findFewest 126 = .ok (.iload_n 3, 1) := op_29 kcX12_findFewest (Nat.le_of_ble_eq_true rfl) rfl
theorem dX12_findFewest_127 : decode cX12_findFewest 127 = .ok (.iaload, 1) := op_46 kcX12_findFewest (Nat.le_of_ble_eq_true rfl) rfl
theorem dX12_findFewest_128 : decode cX12_findFewest 128 = .ok (.iastore, 1) := op_79 kcX12_findFewest (Nat.le_of_ble_eq_true rfl) rfl
theorem dX12_findFewest_129 : decode cX12_findFewest 129 = .ok (.iinc 4 1, 3) := by decide +kernel
theorem dX12_findFewest_132 : decode cX12_findFewest 132 = .ok (.goto (-78), 3) := op_167 (a := 255) (b := 178) kcX12_findFewest (Nat.le_of_ble_eq_true rfl) rfl rfl rfl (by decide)
theorem dX12_findFewest_135 : decode cX12_findFewest 135 = .ok (.iinc 3 1, 3) := by decide +kernel
theorem dX12_findFewest_138 : decode cX12_findFewest 138 = .ok (.goto (-93), 3) := op_167 (a := 255) (b := 163) kcX12_findFewest (Nat.le_of_ble_eq_true rfl) rfl rfl rfl (by decide)
theorem dX12_findFewest_141 : decode cX12_findFewest 141 = .ok (.iinc 2 1, 3) := by decide +kernel
theorem dX12_findFewest_144 : decode cX12_findFewest 144 = .ok (.goto (-107), 3) := op_167 (a := 255) (b := 149) kcX12_findFewest (Nat.le_of_ble_eq_true rfl) rfl rfl rfl (by decide)
theorem dX12_findFewest_147 : decode cX12_findFewest 147 = .ok (.return_, 1) := op_177 kcX12_findFewest (Nat.le_of_ble_eq_true rfl) rfl
set_option maxRecDepth 20000 in
theorem ggX12_raise_X12_isSeat : GoodIn wsX12_raise wsX12_isSeat := goodIn_r _ [9, 10, 11, 12, 8, 13, 41, 42, 43, 44, 45, 46, 47, 48, 49, 50, 51, 52, 53, 54, 55, 56, 57, 58, 59, 60, 61, 62, 63, 64, 65, 66, 67, 68, 69, 70, 71, 72, 73, 74, 75, 76, 77] rfl gw_wsX12_isSeat
set_option maxRecDepth 20000 in
theorem gX12_raise_X12_isSeat : GoodIn wsX12_raise (wsV RX12 203 RX12 yX12_isSeat wsX12_isSeat) := goodIn_app (goodIn_of _ (by decide +kernel)) ggX12_raise_X12_isSeat
set_option maxRecDepth 20000 in
theorem ggX12_raise_X12_in : GoodIn wsX12_raise wsX12_in := goodIn_r _ [13] rfl gw_wsX12_in
set_option maxRecDepth 20000 in
theorem gX12_raise_X12_in : GoodIn wsX12_raise (va_wsS RX12 115 yX12_in wsX12_in) := goodIn_app (goodIn_of _ (by decide +kernel)) ggX12_raise_X12_in
set_option maxRecDepth 20000 in
theorem gw_wsX12_findFewest : (wsX12_findFewest).all goodWord = true := by decide +kernel
set_option maxRecDepth 20000 in
theorem ggX12_raise_X12_findFewest : GoodIn wsX12_raise wsX12_findFewest := goodIn_r _ [17, 4, 18, 3, 10, 19, 20, 21, 8, 22, 23, 24, 25, 26, 27, 28, 29, 30, 31, 32, 33, 34, 35, 36, 41, 42, 43, 44, 45, 46, 47, 48, 49, 50, 51, 52, 53, 54, 55, 56, 57, 58, 59, 60, 61, 62, 63, 64, 65, 66, 67, 68, 69, 70, 71, 72, 73, 74, 75, 76, 77] rfl gw_wsX12_findFewest
set_option maxRecDepth 20000 in
theorem gX12_raise_X12_findFewest : GoodIn wsX12_raise (wsV RX12 272 RX12 yX12_findFewest wsX12_findFewest) := goodIn_app (goodIn_of _ (by decide +kernel)) ggX12_raise_X12_findFewest
set_option maxRecDepth 20000 in
theorem ggX12_raise_X12_stateNow : GoodIn wsX12_raise wsX12_stateNow := goodIn_r _ [40, 33, 41, 42, 43, 44, 45, 46, 47, 48, 49, 50, 51, 52, 53, 54, 55, 56, 57, 58, 59, 60, 61, 62, 63, 64, 65, 66, 67, 68, 69, 70, 71, 72, 73, 74, 75, 76, 77] rfl gw_wsX12_stateNow
set_option maxRecDepth 20000 in
theorem gX12_raise_X12_stateNow : GoodIn wsX12_raise (wsV RX12 268 RX12 yX12_stateNow wsX12_stateNow) := goodIn_app (goodIn_of _ (by decide +kernel)) ggX12_raise_X12_stateNow
set_option maxRecDepth 20000 in
theorem ggX12_raise_X12_then : GoodIn wsX12_raise wsX12_then := goodIn_r _ [22, 23, 24, 25, 26, 8, 27, 28, 29, 30, 31, 32, 10, 33, 34, 35, 36, 41, 42, 43, 44, 45, 46, 47, 48, 49, 50, 51, 52, 53, 54, 55, 56, 57, 58, 59, 60, 61, 62, 63, 64, 65, 66, 67, 68, 69, 70, 71, 72, 73, 74, 75, 76, 77] rfl gw_wsX12_then
set_option maxRecDepth 20000 in
theorem gX12_raise_X12_then : GoodIn wsX12_raise (wsV RX12 233 RX12 yX12_then wsX12_then) := goodIn_app (goodIn_of _ (by decide +kernel)) ggX12_raise_X12_then
theorem kcX12_raise : (cX12_raise).data.toList = cbs 0xac0515b5ffa70106843ee900b605151d2ad8ffa7ff0784053605150500a707150800a02e1d3300b42a60042ee900b607151d2a3300b42a29009b0715073664046700b42a0536fc104800a3640a101c06150636030536fc10acfc100600a10415640a101cac041506009a1cacfc100600a40a10041504362e1d3300b42a3e0c01b62a1001b61b2aacfe1006009a6700b42aac0205009a7300b8070114ec0014851c1300991c150099cb00b61b2a 173 := by decide +kernel
theorem dX12_raise_0 : decode cX12_raise 0 = .ok (.aload_n 0, 1) := op_42 kcX12_raise (Nat.le_of_ble_eq_true rfl) rfl
theorem dX12_raise_1 : decode cX12_raise 1 = .ok (.iload_n 1, 1) := op_27 kcX12_raise (Nat.le_of_ble_eq_true rfl) rfl
theorem dX12_raise_2 : decode cX12_raise 2 = .ok (.invokevirtual 203, 3) := op_182 (a := 0) (b := 203) kcX12_raise (Nat.le_of_ble_eq_true rfl) rfl rfl rfl
theorem dX12_raise_5 : decode cX12_raise 5 = .ok (.ifCond .eq 21, 3) := op_153 (a := 0) (b := 21) kcX12_raise (Nat.le_of_ble_eq_true rfl) rfl rfl rfl (by decide)
theorem dX12_raise_8 : decode cX12_raise 8 = .ok (.iload_n 2, 1) := op_28 kcX12_raise (Nat.le_of_ble_eq_true rfl) rfl
theorem dX12_raise_9 : decode cX12_raise 9 = .ok (.ifCond .eq 19, 3) := op_153 (a := 0) (b := 19) kcX12_raise (Nat.le_of_ble_eq_true rfl) rfl rfl rfl (by decide)
theorem dX12_raise_12 : decode cX12_raise 12 = .ok (.iload_n 2, 1) := op_28 kcX12_raise (Nat.le_of_ble_eq_true rfl) rfl
theorem dX12_raise_13 : decode cX12_raise 13 = .ok (.i2l, 1) := op_133 kcX12_raise (Nat.le_of_ble_eq_true rfl) rfl
theorem dX12_raise_14 : decode cX12_raise 14 = .ok (.ldc2_w 236, 3) := op_20 (a := 0) (b := 236) kcX12_raise (Nat.le_of_ble_eq_true rfl) rfl rfl rfl
theorem dX12_raise_17 : decode cX12_raise 17 = .ok (.ldc2_w 263, 3) := op_20 (a := 1) (b := 7) kcX12_raise (Nat.le_of_ble_eq_true rfl) rfl rfl rfl
theorem dX12_raise_20 : decode cX12_raise 20 = .ok (.invokestatic 115, 3) := op_184 (a := 0) (b := 115) kcX12_raise (Nat.le_of_ble_eq_true rfl) rfl rfl rfl
theorem dX12_raise_23 : decode cX12_raise 23 = .ok (.ifCond .ne 5, 3) := op_154 (a := 0) (b := 5) kcX12_raise (Nat.le_of_ble_eq_true rfl) rfl rfl rfl (by decide)
theorem dX12_raise_26 : decode cX12_raise 26 = .ok (.iconst (-1), 1) := op_2 kcX12_raise (Nat.le_of_ble_eq_true rfl) rfl
theorem dX12_raise_27 : decode cX12_raise 27 = .ok (.ireturn, 1) := op_172 kcX12_raise (Nat.le_of_ble_eq_true rfl) rfl
theorem dX12_raise_28 : decode cX12_raise 28 = .ok (.aload_n 0, 1) := op_42 kcX12_raise (Nat.le_of_ble_eq_true rfl) rfl
theorem dX12_raise_29 : decode cX12_raise 29 = .ok (.getfield 103, 3) := op_180 (a := 0) (b := 103) kcX12_raise (Nat.le_of_ble_eq_true rfl) rfl rfl rfl
theorem dX12_raise_32 : decode cX12_raise 32 = .ok (.ifCond .ne 6, 3) := op_154 (a := 0) (b := 6) kcX12_raise (Nat.le_of_ble_eq_true rfl) rfl rfl rfl (by decide)
theorem dX12_raise_35 : decode cX12_raise 35 = .ok (.bipush (-2), 2) := op_16 (a := 254) kcX12_raise (Nat.le_of_ble_eq_true rfl) rfl rfl (by decide)
theorem dX12_raise_37 : decode cX12_raise 37 = .ok (.ireturn, 1) := op_172 kcX12_raise (Nat.le_of_ble_eq_true rfl) rfl
theorem dX12_raise_38 : decode cX12_raise 38 = .ok (.aload_n 0, 1) := op_42 kcX12_raise (Nat.le_of_ble_eq_true rfl) rfl
theorem dX12_raise_39 : decode cX12_raise 39 = .ok (.iload_n 1, 1) := op_27 kcX12_raise (Nat.le_of_ble_eq_true rfl) rfl
theorem dX12_raise_40 : decode cX12_raise 40 = .ok (.invokevirtual 272, 3) := op_182 (a := 1) (b := 16) kcX12_raise (Nat.le_of_ble_eq_true rfl) rfl rfl rfl
theorem dX12_raise_43 : decode cX12_raise 43 = .ok (.aload_n 0, 1) := op_42 kcX12_raise (Nat.le_of_ble_eq_true rfl) rfl
theorem dX12_raise_44 : decode cX12_raise 44 = .ok (.invokevirtual 268, 3) := op_182 (a := 1) (b := 12) kcX12_raise (Nat.le_of_ble_eq_true rfl) rfl rfl rfl
theorem dX12_raise_47 : decode cX12_raise 47 = .ok (.istore_n 3, 1) := op_62 kcX12_raise (Nat.le_of_ble_eq_true rfl) rfl
theorem dX12_raise_48 : decode cX12_raise 48 = .ok (.aload_n 0, 1) := op_42 kcX12_raise (Nat.le_of_ble_eq_true rfl) rfl
theorem dX12_raise_49 : decode cX12_raise 49 = .ok (.getfield 51, 3) := op_180 (a := 0) (b := 51) kcX12_raise (Nat.le_of_ble_eq_true rfl) rfl rfl rfl
theorem dX12_raise_52 : decode cX12_raise 52 = .ok (.iload_n 3, 1) := op_29 kcX12_raise (Nat.le_of_ble_eq_true rfl) rfl
theorem dX12_raise_53 : decode cX12_raise 53 = .ok (.iaload, 1) := op_46 kcX12_raise (Nat.le_of_ble_eq_true rfl) rfl
theorem dX12_raise_54 : decode cX12_raise 54 = .ok (.istore 4, 2) := op_54 (a := 4) kcX12_raise (Nat.le_of_ble_eq_true rfl) rfl rfl
theorem dX12_raise_56 : decode cX12_raise 56 = .ok (.iload 4, 2) := op_21 (a := 4) kcX12_raise (Nat.le_of_ble_eq_true rfl) rfl rfl
theorem dX12_raise_58 : decode cX12_raise 58 = .ok (.bipush 10, 2) := op_16 (a := 10) kcX12_raise (Nat.le_of_ble_eq_true rfl) rfl rfl (by decide)
theorem dX12_raise_60 : decode cX12_raise 60 = .ok (.if_icmp .le 6, 3) := op_164 (a := 0) (b := 6) kcX12_raise (Nat.le_of_ble_eq_true rfl) rfl rfl rfl (by decide)
theorem dX12_raise_63 : decode cX12_raise 63 = .ok (.bipush (-4), 2) := op_16 (a := 252) kcX12_raise (Nat.le_of_ble_eq_true rfl) rfl rfl (by decide)
theorem dX12_raise_65 : decode cX12_raise 65 = .ok (.ireturn, 1) := op_172 kcX12_raise (Nat.le_of_ble_eq_true rfl) rfl
theorem dX12_raise_66 : decode cX12_raise 66 = .ok (.iload_n 2, 1) := op_28 kcX12_raise (Nat.le_of_ble_eq_true rfl) rfl
theorem dX12_raise_67 : decode cX12_raise 67 = .ok (.ifCond .ne 6, 3) := op_154 (a := 0) (b := 6) kcX12_raise (Nat.le_of_ble_eq_true rfl) rfl rfl rfl (by decide)
theorem dX12_raise_70 : decode cX12_raise 70 = .ok (.iload 4, 2) := op_21 (a := 4) kcX12_raise (Nat.le_of_ble_eq_true rfl) rfl rfl
theorem dX12_raise_72 : decode cX12_raise 72 = .ok (.ireturn, 1) := op_172 kcX12_raise (Nat.le_of_ble_eq_true rfl) rfl
theorem dX12_raise_73 : decode cX12_raise 73 = .ok (.iload_n 2, 1) := op_28 kcX12_raise (Nat.le_of_ble_eq_true rfl) rfl
theorem dX12_raise_74 : decode cX12_raise 74 = .ok (.bipush 10, 2) := op_16 (a := 10) kcX12_raise (Nat.le_of_ble_eq_true rfl) rfl rfl (by decide)
theorem dX12_raise_76 : decode cX12_raise 76 = .ok (.isub, 1) := op_100 kcX12_raise (Nat.le_of_ble_eq_true rfl) rfl
theorem dX12_raise_77 : decode cX12_raise 77 = .ok (.iload 4, 2) := op_21 (a := 4) kcX12_raise (Nat.le_of_ble_eq_true rfl) rfl rfl
theorem dX12_raise_79 : decode cX12_raise 79 = .ok (.if_icmp .lt 6, 3) := op_161 (a := 0) (b := 6) kcX12_raise (Nat.le_of_ble_eq_true rfl) rfl rfl rfl (by decide)
theorem dX12_raise_82 : decode cX12_raise 82 = .ok (.bipush (-4), 2) := op_16 (a := 252) kcX12_raise (Nat.le_of_ble_eq_true rfl) rfl rfl (by decide)
theorem dX12_raise_84 : decode cX12_raise 84 = .ok (.ireturn, 1) := op_172 kcX12_raise (Nat.le_of_ble_eq_true rfl) rfl
theorem dX12_raise_85 : decode cX12_raise 85 = .ok (.bipush (-4), 2) := op_16 (a := 252) kcX12_raise (Nat.le_of_ble_eq_true rfl) rfl rfl (by decide)
theorem dX12_raise_87 : decode cX12_raise 87 = .ok (.istore 5, 2) := op_54 (a := 5) kcX12_raise (Nat.le_of_ble_eq_true rfl) rfl rfl
theorem dX12_raise_89 : decode cX12_raise 89 = .ok (.iconst 0, 1) := op_3 kcX12_raise (Nat.le_of_ble_eq_true rfl) rfl
theorem dX12_raise_90 : decode cX12_raise 90 = .ok (.istore 6, 2) := op_54 (a := 6) kcX12_raise (Nat.le_of_ble_eq_true rfl) rfl rfl
theorem dX12_raise_92 : decode cX12_raise 92 = .ok (.iload 6, 2) := op_21 (a := 6) kcX12_raise (Nat.le_of_ble_eq_true rfl) rfl rfl
theorem dX12_raise_94 : decode cX12_raise 94 = .ok (.iload_n 2, 1) := op_28 kcX12_raise (Nat.le_of_ble_eq_true rfl) rfl
theorem dX12_raise_95 : decode cX12_raise 95 = .ok (.bipush 10, 2) := op_16 (a := 10) kcX12_raise (Nat.le_of_ble_eq_true rfl) rfl rfl (by decide)
theorem dX12_raise_97 : decode cX12_raise 97 = .ok (.isub, 1) := op_100 kcX12_raise (Nat.le_of_ble_eq_true rfl) rfl
theorem dX12_raise_98 : decode cX12_raise 98 = .ok (.if_icmp .gt 72, 3) := op_163 (a := 0) (b := 72) kcX12_raise (Nat.le_of_ble_eq_true rfl) rfl rfl rfl (by decide)
theorem dX12_raise_101 : decode cX12_raise 101 = .ok (.bipush (-4), 2) := op_16 (a := 252) kcX12_raise (Nat.le_of_ble_eq_true rfl) rfl rfl (by decide)
theorem dX12_raise_103 : decode cX12_raise 103 = .ok (.istore 5, 2) := op_54 (a := 5) kcX12_raise (Nat.le_of_ble_eq_true rfl) rfl rfl
theorem dX12_raise_105 : decode cX12_raise 105 = .ok (.aload_n 0, 1) := op_42 kcX12_raise (Nat.le_of_ble_eq_true rfl) rfl
theorem dX12_raise_106 : decode cX12_raise 106 = .ok (.getfield 103, 3) := op_180 (a := 0) (b := 103) kcX12_raise (Nat.le_of_ble_eq_true rfl) rfl rfl rfl
theorem dX12_raise_109 : decode cX12_raise 109 = .ok (.iconst 1, 1) := op_4 kcX12_raise (Nat.le_of_ble_eq_true rfl) rfl
theorem dX12_raise_110 : decode cX12_raise 110 = .ok (.isub, 1) := op_100 kcX12_raise (Nat.le_of_ble_eq_true rfl) rfl
theorem dX12_raise_111 : decode cX12_raise 111 = .ok (.istore 7, 2) := op_54 (a := 7) kcX12_raise (Nat.le_of_ble_eq_true rfl) rfl rfl
theorem dX12_raise_113 : decode cX12_raise 113 = .ok (.iload 7, 2) := op_21 (a := 7) kcX12_raise (Nat.le_of_ble_eq_true rfl) rfl rfl
theorem dX12_raise_115 : decode cX12_raise 115 = .ok (.ifCond .lt 41, 3) := op_155 (a := 0) (b := 41) kcX12_raise (Nat.le_of_ble_eq_true rfl) rfl rfl rfl (by decide)
theorem dX12_raise_118 : decode cX12_raise 118 = .ok (.aload_n 0, 1) := op_42 kcX12_raise (Nat.le_of_ble_eq_true rfl) rfl
theorem dX12_raise_119 : decode cX12_raise 119 = .ok (.getfield 51, 3) := op_180 (a := 0) (b := 51) kcX12_raise (Nat.le_of_ble_eq_true rfl) rfl rfl rfl
theorem dX12_raise_122 : decode cX12_raise 122 = .ok (.aload_n 0, 1) := op_42 kcX12_raise (Nat.le_of_ble_eq_true rfl) rfl
theorem dX12_raise_123 : decode cX12_raise 123 = .ok (.iload_n 3, 1) := op_29 kcX12_raise (Nat.le_of_ble_eq_true rfl) rfl
theorem dX12_raise_124 : decode cX12_raise 124 = .ok (.iload 7, 2) := op_21 (a := 7) kcX12_raise (Nat.le_of_ble_eq_true rfl) rfl rfl
theorem dX12_raise_126 : decode cX12_raise 126 = .ok (.invokevirtual 233, 3) := op_182 (a := 0) (b := 233) kcX12_raise (Nat.le_of_ble_eq_true rfl) rfl rfl rfl
theorem dX12_raise_129 : decode cX12_raise 129 = .ok (.iaload, 1) := op_46 kcX12_raise (Nat.le_of_ble_eq_true rfl) rfl
theorem dX12_raise_130 : decode cX12_raise 130 = .ok (.iconst 1, 1) := op_4 kcX12_raise (Nat.le_of_ble_eq_true rfl) rfl
theorem dX12_raise_131 : decode cX12_raise 131 = .ok (.iadd, 1) := op_96 kcX12_raise (Nat.le_of_ble_eq_true rfl) rfl
theorem dX12_raise_132 : decode cX12_raise 132 = .ok (.aload_n 0, 1) := op_42 kcX12_raise (Nat.le_of_ble_eq_true rfl) rfl
theorem dX12_raise_133 : decode cX12_raise 133 = .ok (.getfield 51, 3) := op_180 (a := 0) (b := 51) kcX12_raise (Nat.le_of_ble_eq_true rfl) rfl rfl rfl
theorem dX12_raise_136 : decode cX12_raise 136 = .ok (.iload_n 3, 1) := op_29 kcX12_raise (Nat.le_of_ble_eq_true rfl) rfl
theorem dX12_raise_137 : decode cX12_raise 137 = .ok (.iaload, 1) := op_46 kcX12_raise (Nat.le_of_ble_eq_true rfl) rfl
theorem dX12_raise_138 : decode cX12_raise 138 = .ok (.if_icmp .ne 8, 3) := op_160 (a := 0) (b := 8) kcX12_raise (Nat.le_of_ble_eq_true rfl) rfl rfl rfl (by decide)
theorem dX12_raise_141 : decode cX12_raise 141 = .ok (.iload 7, 2) := op_21 (a := 7) kcX12_raise (Nat.le_of_ble_eq_true rfl) rfl rfl
theorem dX12_raise_143 : decode cX12_raise 143 = .ok (.goto 5, 3) := op_167 (a := 0) (b := 5) kcX12_raise (Nat.le_of_ble_eq_true rfl) rfl rfl rfl (by decide)
theorem dX12_raise_146 : decode cX12_raise 146 = .ok (.iload 5, 2) := op_21 (a := 5) kcX12_raise (Nat.le_of_ble_eq_true rfl) rfl rfl
theorem dX12_raise_148 : decode cX12_raise 148 = .ok (.istore 5, 2) := op_54 (a := 5) kcX12_raise (Nat.le_of_ble_eq_true rfl) rfl rfl
theorem dX12_raise_150 : decode cX12_raise 150 = .ok (.iinc 7 (-1), 3) := by decide +kernel
theorem dX12_raise_153 : decode cX12_raise 153 = .ok (.goto (-40), 3) := op_167 (a := 255) (b := 216) kcX12_raise (Nat.le_of_ble_eq_true rfl) rfl rfl rfl (by decide)
theorem dX12_raise_156 : decode cX12_raise 156 = .ok (.aload_n 0, 1) := op_42 kcX12_raise (Nat.le_of_ble_eq_true rfl) rfl
theorem dX12_raise_157 : decode cX12_raise 157 = .ok (.iload_n 3, 1) := op_29 kcX12_raise (Nat.le_of_ble_eq_true rfl) rfl
theorem dX12_raise_158 : decode cX12_raise 158 = .ok (.iload 5, 2) := op_21 (a := 5) kcX12_raise (Nat.le_of_ble_eq_true rfl) rfl rfl
theorem dX12_raise_160 : decode cX12_raise 160 = .ok (.invokevirtual 233, 3) := op_182 (a := 0) (b := 233) kcX12_raise (Nat.le_of_ble_eq_true rfl) rfl rfl rfl
theorem dX12_raise_163 : decode cX12_raise 163 = .ok (.istore_n 3, 1) := op_62 kcX12_raise (Nat.le_of_ble_eq_true rfl) rfl
theorem dX12_raise_164 : decode cX12_raise 164 = .ok (.iinc 6 1, 3) := by decide +kernel
theorem dX12_raise_167 : decode cX12_raise 167 = .ok (.goto (-75), 3) := op_167 (a := 255) (b := 181) kcX12_raise (Nat.le_of_ble_eq_true rfl) rfl rfl rfl (by decide)
theorem dX12_raise_170 : decode cX12_raise 170 = .ok (.iload 5, 2) := op_21 (a := 5) kcX12_raise (Nat.le_of_ble_eq_true rfl) rfl rfl
theorem dX12_raise_172 : decode cX12_raise 172 = .ok (.ireturn, 1) := op_172 kcX12_raise (Nat.le_of_ble_eq_true rfl) rfl
set_option maxRecDepth 20000 in
theorem ggX12_findBowls_X12_findPlaces : GoodIn wsX12_findBowls wsX12_findPlaces := goodIn_r _ [9, 1, 3, 4, 10, 11, 8, 12, 18, 19, 20, 21, 22, 23, 24, 25, 26, 27, 28, 29, 30, 31, 32, 33, 34, 35, 36, 37, 38, 39, 40, 41, 42, 43, 44, 45, 46, 47, 48, 49, 50, 51, 52, 53, 54] rfl gw_wsX12_findPlaces
set_option maxRecDepth 20000 in
theorem gX12_findBowls_X12_findPlaces : GoodIn wsX12_findBowls (wsV RX12 216 RX12 yX12_findPlaces wsX12_findPlaces) := goodIn_app (goodIn_of _ (by decide +kernel)) ggX12_findBowls_X12_findPlaces
set_option maxRecDepth 20000 in
theorem ggX12_findBowls_X12_cameFrom : GoodIn wsX12_findBowls wsX12_cameFrom := goodIn_r _ [16, 17, 18, 19, 20, 21, 22, 23, 24, 25, 26, 27, 28, 29, 30, 31, 32, 33, 34, 35, 36, 37, 38, 39, 40, 41, 42, 43, 44, 45, 46, 47, 48, 49, 50, 51, 52, 53, 54] rfl gw_wsX12_cameFrom
set_option maxRecDepth 20000 in
theorem gX12_findBowls_X12_cameFrom : GoodIn wsX12_findBowls (wsV RX12 219 RX12 yX12_cameFrom wsX12_cameFrom) := goodIn_app (goodIn_of _ (by decide +kernel)) ggX12_findBowls_X12_cameFrom
theorem kcX12_findBowls : (cX12_findBowls).data.toList = cbs 0xb1dfffa70103844f2edb00b62e1d2300b42a1c2a0700b42a1d3600b42a1f00a26400b42a1d3e03d800b61b2a 44 := by decide +kernel
theorem dX12_findBowls_0 : decode cX12_findBowls 0 = .ok (.aload_n 0, 1) := op_42 kcX12_findBowls (Nat.le_of_ble_eq_true rfl) rfl
theorem dX12_findBowls_1 : decode cX12_findBowls 1 = .ok (.iload_n 1, 1) := op_27 kcX12_findBowls (Nat.le_of_ble_eq_true rfl) rfl
theorem dX12_findBowls_2 : decode cX12_findBowls 2 = .ok (.invokevirtual 216, 3) := op_182 (a := 0) (b := 216) kcX12_findBowls (Nat.le_of_ble_eq_true rfl) rfl rfl rfl
theorem dX12_findBowls_5 : decode cX12_findBowls 5 = .ok (.iconst 0, 1) := op_3 kcX12_findBowls (Nat.le_of_ble_eq_true rfl) rfl
theorem dX12_findBowls_6 : decode cX12_findBowls 6 = .ok (.istore_n 3, 1) := op_62 kcX12_findBowls (Nat.le_of_ble_eq_true rfl) rfl
theorem dX12_findBowls_7 : decode cX12_findBowls 7 = .ok (.iload_n 3, 1) := op_29 kcX12_findBowls (Nat.le_of_ble_eq_true rfl) rfl
theorem dX12_findBowls_8 : decode cX12_findBowls 8 = .ok (.aload_n 0, 1) := op_42 kcX12_findBowls (Nat.le_of_ble_eq_true rfl) rfl
theorem dX12_findBowls_9 : decode cX12_findBowls 9 = .ok (.getfield 100, 3) := op_180 (a := 0) (b := 100) kcX12_findBowls (Nat.le_of_ble_eq_true rfl) rfl rfl rfl
theorem dX12_findBowls_12 : decode cX12_findBowls 12 = .ok (.if_icmp .ge 31, 3) := op_162 (a := 0) (b := 31) kcX12_findBowls (Nat.le_of_ble_eq_true rfl) rfl rfl rfl (by decide)
theorem dX12_findBowls_15 : decode cX12_findBowls 15 = .ok (.aload_n 0, 1) := op_42 kcX12_findBowls (Nat.le_of_ble_eq_true rfl) rfl
theorem dX12_findBowls_16 : decode cX12_findBowls 16 = .ok (.getfield 54, 3) := op_180 (a := 0) (b := 54) kcX12_findBowls (Nat.le_of_ble_eq_true rfl) rfl rfl rfl
theorem dX12_findBowls_19 : decode cX12_findBowls 19 = .ok (.iload_n 3, 1) := op_29 kcX12_findBowls (Nat.le_of_ble_eq_true rfl) rfl
theorem dX12_findBowls_20 : decode cX12_findBowls 20 = .ok (.aload_n 0, 1) := op_42 kcX12_findBowls (Nat.le_of_ble_eq_true rfl) rfl
theorem dX12_findBowls_21 : decode cX12_findBowls 21 = .ok (.getfield 7, 3) := op_180 (a := 0) (b := 7) kcX12_findBowls (Nat.le_of_ble_eq_true rfl) rfl rfl rfl
theorem dX12_findBowls_24 : decode cX12_findBowls 24 = .ok (.aload_n 0, 1) := op_42 kcX12_findBowls (Nat.le_of_ble_eq_true rfl) rfl
theorem dX12_findBowls_25 : decode cX12_findBowls 25 = .ok (.iload_n 2, 1) := op_28 kcX12_findBowls (Nat.le_of_ble_eq_true rfl) rfl
theorem dX12_findBowls_26 : decode cX12_findBowls 26 = .ok (.aload_n 0, 1) := op_42 kcX12_findBowls (Nat.le_of_ble_eq_true rfl) rfl
theorem dX12_findBowls_27 : decode cX12_findBowls 27 = .ok (.getfield 35, 3) := op_180 (a := 0) (b := 35) kcX12_findBowls (Nat.le_of_ble_eq_true rfl) rfl rfl rfl
theorem dX12_findBowls_30 : decode cX12_findBowls 30 = .ok (.iload_n 3, 1) := op_29 kcX12_findBowls (Nat.le_of_ble_eq_true rfl) rfl
theorem dX12_findBowls_31 : decode cX12_findBowls 31 = .ok (.iaload, 1) := op_46 kcX12_findBowls (Nat.le_of_ble_eq_true rfl) rfl
theorem dX12_findBowls_32 : decode cX12_findBowls 32 = .ok (.invokevirtual 219, 3) := op_182 (a := 0) (b := 219) kcX12_findBowls (Nat.le_of_ble_eq_true rfl) rfl rfl rfl
theorem dX12_findBowls_35 : decode cX12_findBowls 35 = .ok (.iaload, 1) := op_46 kcX12_findBowls (Nat.le_of_ble_eq_true rfl) rfl
theorem dX12_findBowls_36 : decode cX12_findBowls 36 = .ok (.iastore, 1) := op_79 kcX12_findBowls (Nat.le_of_ble_eq_true rfl) rfl
theorem dX12_findBowls_37 : decode cX12_findBowls 37 = .ok (.iinc 3 1, 3) := by decide +kernel
theorem dX12_findBowls_40 : decode cX12_findBowls 40 = .ok (.goto (-33), 3) := op_167 (a := 255) (b := 223) kcX12_findBowls (Nat.le_of_ble_eq_true rfl) rfl rfl rfl (by decide)
theorem dX12_findBowls_43 : decode cX12_findBowls 43 = .ok (.return_, 1) := op_177 kcX12_findBowls (Nat.le_of_ble_eq_true rfl) rfl
theorem kcX12_spoonsOf : (cX12_spoonsOf).data.toList = cbs 0xac1cdcffa70103843d60030400a72e601d10100700b42a0f00a0047e047a1d1b1c2200a26400b42a1d3e033d03 45 := by decide +kernel
theorem dX12_spoonsOf_0 : decode cX12_spoonsOf 0 = .ok (.iconst 0, 1) := op_3 kcX12_spoonsOf (Nat.le_of_ble_eq_true rfl) rfl
theorem dX12_spoonsOf_1 : decode cX12_spoonsOf 1 = .ok (.istore_n 2, 1) := op_61 kcX12_spoonsOf (Nat.le_of_ble_eq_true rfl) rfl
theorem dX12_spoonsOf_2 : decode cX12_spoonsOf 2 = .ok (.iconst 0, 1) := op_3 kcX12_spoonsOf (Nat.le_of_ble_eq_true rfl) rfl
theorem dX12_spoonsOf_3 : decode cX12_spoonsOf 3 = .ok (.istore_n 3, 1) := op_62 kcX12_spoonsOf (Nat.le_of_ble_eq_true rfl) rfl
theorem dX12_spoonsOf_4 : decode cX12_spoonsOf 4 = .ok (.iload_n 3, 1) := op_29 kcX12_spoonsOf (Nat.le_of_ble_eq_true rfl) rfl
theorem dX12_spoonsOf_5 : decode cX12_spoonsOf 5 = .ok (.aload_n 0, 1) := op_42 kcX12_spoonsOf (Nat.le_of_ble_eq_true rfl) rfl
theorem dX12_spoonsOf_6 : decode cX12_spoonsOf 6 = .ok (.getfield 100, 3) := op_180 (a := 0) (b := 100) kcX12_spoonsOf (Nat.le_of_ble_eq_true rfl) rfl rfl rfl
theorem dX12_spoonsOf_9 : decode cX12_spoonsOf 9 = .ok (.if_icmp .ge 34, 3) := op_162 (a := 0) (b := 34) kcX12_spoonsOf (Nat.le_of_ble_eq_true rfl) rfl rfl rfl (by decide)
theorem dX12_spoonsOf_12 : decode cX12_spoonsOf 12 = .ok (.iload_n 2, 1) := op_28 kcX12_spoonsOf (Nat.le_of_ble_eq_true rfl) rfl
theorem dX12_spoonsOf_13 : decode cX12_spoonsOf 13 = .ok (.iload_n 1, 1) := op_27 kcX12_spoonsOf (Nat.le_of_ble_eq_true rfl) rfl
theorem dX12_spoonsOf_14 : decode cX12_spoonsOf 14 = .ok (.iload_n 3, 1) := op_29 kcX12_spoonsOf (Nat.le_of_ble_eq_true rfl) rfl
theorem dX12_spoonsOf_15 : decode cX12_spoonsOf 15 = .ok (.ishr, 1) := op_122 kcX12_spoonsOf (Nat.le_of_ble_eq_true rfl) rfl
theorem dX12_spoonsOf_16 : decode cX12_spoonsOf 16 = .ok (.iconst 1, 1) := op_4 kcX12_spoonsOf (Nat.le_of_ble_eq_true rfl) rfl
theorem dX12_spoonsOf_17 : decode cX12_spoonsOf 17 = .ok (.iand, 1) := op_126 kcX12_spoonsOf (Nat.le_of_ble_eq_true rfl) rfl
theorem dX12_spoonsOf_18 : decode cX12_spoonsOf 18 = .ok (.iconst 1, 1) := op_4 kcX12_spoonsOf (Nat.le_of_ble_eq_true rfl) rfl
theorem dX12_spoonsOf_19 : decode cX12_spoonsOf 19 = .ok (.if_icmp .ne 15, 3) := op_160 (a := 0) (b := 15) kcX12_spoonsOf (Nat.le_of_ble_eq_true rfl) rfl rfl rfl (by decide)
theorem dX12_spoonsOf_22 : decode cX12_spoonsOf 22 = .ok (.aload_n 0, 1) := op_42 kcX12_spoonsOf (Nat.le_of_ble_eq_true rfl) rfl
theorem dX12_spoonsOf_23 : decode cX12_spoonsOf 23 = .ok (.getfield 7, 3) := op_180 (a := 0) (b := 7) kcX12_spoonsOf (Nat.le_of_ble_eq_true rfl) rfl rfl rfl
theorem dX12_spoonsOf_26 : decode cX12_spoonsOf 26 = .ok (.bipush 16, 2) := op_16 (a := 16) kcX12_spoonsOf (Nat.le_of_ble_eq_true rfl) rfl rfl (by decide)
theorem dX12_spoonsOf_28 : decode cX12_spoonsOf 28 = .ok (.iload_n 3, 1) := op_29 kcX12_spoonsOf (Nat.le_of_ble_eq_true rfl) rfl
theorem dX12_spoonsOf_29 : decode cX12_spoonsOf 29 = .ok (.iadd, 1) := op_96 kcX12_spoonsOf (Nat.le_of_ble_eq_true rfl) rfl
theorem dX12_spoonsOf_30 : decode cX12_spoonsOf 30 = .ok (.iaload, 1) := op_46 kcX12_spoonsOf (Nat.le_of_ble_eq_true rfl) rfl
theorem dX12_spoonsOf_31 : decode cX12_spoonsOf 31 = .ok (.goto 4, 3) := op_167 (a := 0) (b := 4) kcX12_spoonsOf (Nat.le_of_ble_eq_true rfl) rfl rfl rfl (by decide)
theorem dX12_spoonsOf_34 : decode cX12_spoonsOf 34 = .ok (.iconst 0, 1) := op_3 kcX12_spoonsOf (Nat.le_of_ble_eq_true rfl) rfl
theorem dX12_spoonsOf_35 : decode cX12_spoonsOf 35 = .ok (.iadd, 1) := op_96 kcX12_spoonsOf (Nat.le_of_ble_eq_true rfl) rfl
theorem dX12_spoonsOf_36 : decode cX12_spoonsOf 36 = .ok (.istore_n 2, 1) := op_61 kcX12_spoonsOf (Nat.le_of_ble_eq_true rfl) rfl
theorem dX12_spoonsOf_37 : decode cX12_spoonsOf 37 = .ok (.iinc 3 1, 3) := by decide +kernel
theorem dX12_spoonsOf_40 : decode cX12_spoonsOf 40 = .ok (.goto (-36), 3) := op_167 (a := 255) (b := 220) kcX12_spoonsOf (Nat.le_of_ble_eq_true rfl) rfl rfl rfl (by decide)
theorem dX12_spoonsOf_43 : decode cX12_spoonsOf 43 = .ok (.iload_n 2, 1) := op_28 kcX12_spoonsOf (Nat.le_of_ble_eq_true rfl) rfl
theorem dX12_spoonsOf_44 : decode cX12_spoonsOf 44 = .ok (.ireturn, 1) := op_172 kcX12_spoonsOf (Nat.le_of_ble_eq_true rfl) rfl
set_option maxRecDepth 20000 in
theorem gw_wsX12_findBowls : (wsX12_findBowls).all goodWord = true := by decide +kernel
set_option maxRecDepth 20000 in
theorem ggX12_coupBy_X12_findBowls : GoodIn wsX12_coupBy wsX12_findBowls := goodIn_r _ [8, 1, 3, 9, 10, 11, 12, 13, 7, 14, 15, 16, 17, 18, 19, 20, 21, 22, 27, 28, 29, 30, 31, 32, 33, 34, 35, 36, 37, 38, 39, 40, 41, 42, 43, 44, 45, 46, 47, 48, 49, 50, 51, 52, 53, 54, 55, 56, 57, 58, 59, 60, 61, 62, 63] rfl gw_wsX12_findBowls
set_option maxRecDepth 20000 in
theorem gX12_coupBy_X12_findBowls : GoodIn wsX12_coupBy (wsV RX12 275 RX12 yX12_findBowls wsX12_findBowls) := goodIn_app (goodIn_of _ (by decide +kernel)) ggX12_coupBy_X12_findBowls
set_option maxRecDepth 20000 in
theorem ggX12_coupBy_X12_flag : GoodIn wsX12_coupBy wsX12_flag := goodIn_r _ [17] rfl gw_wsX12_flag
set_option maxRecDepth 20000 in
theorem gX12_coupBy_X12_flag : GoodIn wsX12_coupBy (va_wsS RX12 212 yX12_flag wsX12_flag) := goodIn_app (goodIn_of _ (by decide +kernel)) ggX12_coupBy_X12_flag
set_option maxRecDepth 20000 in
theorem gw_wsX12_spoonsOf : (wsX12_spoonsOf).all goodWord = true := by decide +kernel
set_option maxRecDepth 20000 in
theorem ggX12_coupBy_X12_spoonsOf : GoodIn wsX12_coupBy wsX12_spoonsOf := goodIn_r _ [26, 1, 9, 27, 28, 29, 30, 31, 32, 33, 34, 35, 36, 37, 38, 39, 40, 41, 42, 43, 44, 45, 46, 47, 48, 49, 50, 51, 52, 53, 54, 55, 56, 57, 58, 59, 60, 61, 62, 63] rfl gw_wsX12_spoonsOf
set_option maxRecDepth 20000 in
theorem gX12_coupBy_X12_spoonsOf : GoodIn wsX12_coupBy (wsV RX12 279 RX12 yX12_spoonsOf wsX12_spoonsOf) := goodIn_app (goodIn_of _ (by decide +kernel)) ggX12_coupBy_X12_spoonsOf
theorem kcX12_coupBy : (cX12_coupBy).data.toList = cbs 0xacfc10ceffa7010684ac06150600a40515681701b606152a051300a0047e047a1c06151d009a7e8202041506152d00a2786400b42a04061506360405361701b66404786400b42a042ad3ffa7010584043680780515d400b8030400a7040700a42e05153900b42a2e05153600b42a04152a00a26400b42a05150536030436031301b61d1c2ae6ffa70104844f2e04153600b42a04153900b42a1700a26400b42a04150436031301b61d1b2a 171 := by decide +kernel
theorem dX12_coupBy_0 : decode cX12_coupBy 0 = .ok (.aload_n 0, 1) := op_42 kcX12_coupBy (Nat.le_of_ble_eq_true rfl) rfl
theorem dX12_coupBy_1 : decode cX12_coupBy 1 = .ok (.iload_n 1, 1) := op_27 kcX12_coupBy (Nat.le_of_ble_eq_true rfl) rfl
theorem dX12_coupBy_2 : decode cX12_coupBy 2 = .ok (.iload_n 3, 1) := op_29 kcX12_coupBy (Nat.le_of_ble_eq_true rfl) rfl
theorem dX12_coupBy_3 : decode cX12_coupBy 3 = .ok (.invokevirtual 275, 3) := op_182 (a := 1) (b := 19) kcX12_coupBy (Nat.le_of_ble_eq_true rfl) rfl rfl rfl
theorem dX12_coupBy_6 : decode cX12_coupBy 6 = .ok (.iconst 0, 1) := op_3 kcX12_coupBy (Nat.le_of_ble_eq_true rfl) rfl
theorem dX12_coupBy_7 : decode cX12_coupBy 7 = .ok (.istore 4, 2) := op_54 (a := 4) kcX12_coupBy (Nat.le_of_ble_eq_true rfl) rfl rfl
theorem dX12_coupBy_9 : decode cX12_coupBy 9 = .ok (.iload 4, 2) := op_21 (a := 4) kcX12_coupBy (Nat.le_of_ble_eq_true rfl) rfl rfl
theorem dX12_coupBy_11 : decode cX12_coupBy 11 = .ok (.aload_n 0, 1) := op_42 kcX12_coupBy (Nat.le_of_ble_eq_true rfl) rfl
theorem dX12_coupBy_12 : decode cX12_coupBy 12 = .ok (.getfield 100, 3) := op_180 (a := 0) (b := 100) kcX12_coupBy (Nat.le_of_ble_eq_true rfl) rfl rfl rfl
theorem dX12_coupBy_15 : decode cX12_coupBy 15 = .ok (.if_icmp .ge 23, 3) := op_162 (a := 0) (b := 23) kcX12_coupBy (Nat.le_of_ble_eq_true rfl) rfl rfl rfl (by decide)
theorem dX12_coupBy_18 : decode cX12_coupBy 18 = .ok (.aload_n 0, 1) := op_42 kcX12_coupBy (Nat.le_of_ble_eq_true rfl) rfl
theorem dX12_coupBy_19 : decode cX12_coupBy 19 = .ok (.getfield 57, 3) := op_180 (a := 0) (b := 57) kcX12_coupBy (Nat.le_of_ble_eq_true rfl) rfl rfl rfl
theorem dX12_coupBy_22 : decode cX12_coupBy 22 = .ok (.iload 4, 2) := op_21 (a := 4) kcX12_coupBy (Nat.le_of_ble_eq_true rfl) rfl rfl
theorem dX12_coupBy_24 : decode cX12_coupBy 24 = .ok (.aload_n 0, 1) := op_42 kcX12_coupBy (Nat.le_of_ble_eq_true rfl) rfl
theorem dX12_coupBy_25 : decode cX12_coupBy 25 = .ok (.getfield 54, 3) := op_180 (a := 0) (b := 54) kcX12_coupBy (Nat.le_of_ble_eq_true rfl) rfl rfl rfl
theorem dX12_coupBy_28 : decode cX12_coupBy 28 = .ok (.iload 4, 2) := op_21 (a := 4) kcX12_coupBy (Nat.le_of_ble_eq_true rfl) rfl rfl
theorem dX12_coupBy_30 : decode cX12_coupBy 30 = .ok (.iaload, 1) := op_46 kcX12_coupBy (Nat.le_of_ble_eq_true rfl) rfl
theorem dX12_coupBy_31 : decode cX12_coupBy 31 = .ok (.iastore, 1) := op_79 kcX12_coupBy (Nat.le_of_ble_eq_true rfl) rfl
theorem dX12_coupBy_32 : decode cX12_coupBy 32 = .ok (.iinc 4 1, 3) := by decide +kernel
theorem dX12_coupBy_35 : decode cX12_coupBy 35 = .ok (.goto (-26), 3) := op_167 (a := 255) (b := 230) kcX12_coupBy (Nat.le_of_ble_eq_true rfl) rfl rfl rfl (by decide)
theorem dX12_coupBy_38 : decode cX12_coupBy 38 = .ok (.aload_n 0, 1) := op_42 kcX12_coupBy (Nat.le_of_ble_eq_true rfl) rfl
theorem dX12_coupBy_39 : decode cX12_coupBy 39 = .ok (.iload_n 2, 1) := op_28 kcX12_coupBy (Nat.le_of_ble_eq_true rfl) rfl
theorem dX12_coupBy_40 : decode cX12_coupBy 40 = .ok (.iload_n 3, 1) := op_29 kcX12_coupBy (Nat.le_of_ble_eq_true rfl) rfl
theorem dX12_coupBy_41 : decode cX12_coupBy 41 = .ok (.invokevirtual 275, 3) := op_182 (a := 1) (b := 19) kcX12_coupBy (Nat.le_of_ble_eq_true rfl) rfl rfl rfl
theorem dX12_coupBy_44 : decode cX12_coupBy 44 = .ok (.iconst 0, 1) := op_3 kcX12_coupBy (Nat.le_of_ble_eq_true rfl) rfl
theorem dX12_coupBy_45 : decode cX12_coupBy 45 = .ok (.istore 4, 2) := op_54 (a := 4) kcX12_coupBy (Nat.le_of_ble_eq_true rfl) rfl rfl
theorem dX12_coupBy_47 : decode cX12_coupBy 47 = .ok (.iconst 0, 1) := op_3 kcX12_coupBy (Nat.le_of_ble_eq_true rfl) rfl
theorem dX12_coupBy_48 : decode cX12_coupBy 48 = .ok (.istore 5, 2) := op_54 (a := 5) kcX12_coupBy (Nat.le_of_ble_eq_true rfl) rfl rfl
theorem dX12_coupBy_50 : decode cX12_coupBy 50 = .ok (.iload 5, 2) := op_21 (a := 5) kcX12_coupBy (Nat.le_of_ble_eq_true rfl) rfl rfl
theorem dX12_coupBy_52 : decode cX12_coupBy 52 = .ok (.aload_n 0, 1) := op_42 kcX12_coupBy (Nat.le_of_ble_eq_true rfl) rfl
theorem dX12_coupBy_53 : decode cX12_coupBy 53 = .ok (.getfield 100, 3) := op_180 (a := 0) (b := 100) kcX12_coupBy (Nat.le_of_ble_eq_true rfl) rfl rfl rfl
theorem dX12_coupBy_56 : decode cX12_coupBy 56 = .ok (.if_icmp .ge 42, 3) := op_162 (a := 0) (b := 42) kcX12_coupBy (Nat.le_of_ble_eq_true rfl) rfl rfl rfl (by decide)
theorem dX12_coupBy_59 : decode cX12_coupBy 59 = .ok (.iload 4, 2) := op_21 (a := 4) kcX12_coupBy (Nat.le_of_ble_eq_true rfl) rfl rfl
theorem dX12_coupBy_61 : decode cX12_coupBy 61 = .ok (.aload_n 0, 1) := op_42 kcX12_coupBy (Nat.le_of_ble_eq_true rfl) rfl
theorem dX12_coupBy_62 : decode cX12_coupBy 62 = .ok (.getfield 54, 3) := op_180 (a := 0) (b := 54) kcX12_coupBy (Nat.le_of_ble_eq_true rfl) rfl rfl rfl
theorem dX12_coupBy_65 : decode cX12_coupBy 65 = .ok (.iload 5, 2) := op_21 (a := 5) kcX12_coupBy (Nat.le_of_ble_eq_true rfl) rfl rfl
theorem dX12_coupBy_67 : decode cX12_coupBy 67 = .ok (.iaload, 1) := op_46 kcX12_coupBy (Nat.le_of_ble_eq_true rfl) rfl
theorem dX12_coupBy_68 : decode cX12_coupBy 68 = .ok (.aload_n 0, 1) := op_42 kcX12_coupBy (Nat.le_of_ble_eq_true rfl) rfl
theorem dX12_coupBy_69 : decode cX12_coupBy 69 = .ok (.getfield 57, 3) := op_180 (a := 0) (b := 57) kcX12_coupBy (Nat.le_of_ble_eq_true rfl) rfl rfl rfl
theorem dX12_coupBy_72 : decode cX12_coupBy 72 = .ok (.iload 5, 2) := op_21 (a := 5) kcX12_coupBy (Nat.le_of_ble_eq_true rfl) rfl rfl
theorem dX12_coupBy_74 : decode cX12_coupBy 74 = .ok (.iaload, 1) := op_46 kcX12_coupBy (Nat.le_of_ble_eq_true rfl) rfl
theorem dX12_coupBy_75 : decode cX12_coupBy 75 = .ok (.if_icmp .le 7, 3) := op_164 (a := 0) (b := 7) kcX12_coupBy (Nat.le_of_ble_eq_true rfl) rfl rfl rfl (by decide)
theorem dX12_coupBy_78 : decode cX12_coupBy 78 = .ok (.iconst 1, 1) := op_4 kcX12_coupBy (Nat.le_of_ble_eq_true rfl) rfl
theorem dX12_coupBy_79 : decode cX12_coupBy 79 = .ok (.goto 4, 3) := op_167 (a := 0) (b := 4) kcX12_coupBy (Nat.le_of_ble_eq_true rfl) rfl rfl rfl (by decide)
theorem dX12_coupBy_82 : decode cX12_coupBy 82 = .ok (.iconst 0, 1) := op_3 kcX12_coupBy (Nat.le_of_ble_eq_true rfl) rfl
theorem dX12_coupBy_83 : decode cX12_coupBy 83 = .ok (.invokestatic 212, 3) := op_184 (a := 0) (b := 212) kcX12_coupBy (Nat.le_of_ble_eq_true rfl) rfl rfl rfl
theorem dX12_coupBy_86 : decode cX12_coupBy 86 = .ok (.iload 5, 2) := op_21 (a := 5) kcX12_coupBy (Nat.le_of_ble_eq_true rfl) rfl rfl
theorem dX12_coupBy_88 : decode cX12_coupBy 88 = .ok (.ishl, 1) := op_120 kcX12_coupBy (Nat.le_of_ble_eq_true rfl) rfl
theorem dX12_coupBy_89 : decode cX12_coupBy 89 = .ok (.ior, 1) := op_128 kcX12_coupBy (Nat.le_of_ble_eq_true rfl) rfl
theorem dX12_coupBy_90 : decode cX12_coupBy 90 = .ok (.istore 4, 2) := op_54 (a := 4) kcX12_coupBy (Nat.le_of_ble_eq_true rfl) rfl rfl
theorem dX12_coupBy_92 : decode cX12_coupBy 92 = .ok (.iinc 5 1, 3) := by decide +kernel
theorem dX12_coupBy_95 : decode cX12_coupBy 95 = .ok (.goto (-45), 3) := op_167 (a := 255) (b := 211) kcX12_coupBy (Nat.le_of_ble_eq_true rfl) rfl rfl rfl (by decide)
theorem dX12_coupBy_98 : decode cX12_coupBy 98 = .ok (.aload_n 0, 1) := op_42 kcX12_coupBy (Nat.le_of_ble_eq_true rfl) rfl
theorem dX12_coupBy_99 : decode cX12_coupBy 99 = .ok (.iconst 1, 1) := op_4 kcX12_coupBy (Nat.le_of_ble_eq_true rfl) rfl
theorem dX12_coupBy_100 : decode cX12_coupBy 100 = .ok (.aload_n 0, 1) := op_42 kcX12_coupBy (Nat.le_of_ble_eq_true rfl) rfl
theorem dX12_coupBy_101 : decode cX12_coupBy 101 = .ok (.getfield 100, 3) := op_180 (a := 0) (b := 100) kcX12_coupBy (Nat.le_of_ble_eq_true rfl) rfl rfl rfl
theorem dX12_coupBy_104 : decode cX12_coupBy 104 = .ok (.ishl, 1) := op_120 kcX12_coupBy (Nat.le_of_ble_eq_true rfl) rfl
theorem dX12_coupBy_105 : decode cX12_coupBy 105 = .ok (.iconst 1, 1) := op_4 kcX12_coupBy (Nat.le_of_ble_eq_true rfl) rfl
theorem dX12_coupBy_106 : decode cX12_coupBy 106 = .ok (.isub, 1) := op_100 kcX12_coupBy (Nat.le_of_ble_eq_true rfl) rfl
theorem dX12_coupBy_107 : decode cX12_coupBy 107 = .ok (.invokevirtual 279, 3) := op_182 (a := 1) (b := 23) kcX12_coupBy (Nat.le_of_ble_eq_true rfl) rfl rfl rfl
theorem dX12_coupBy_110 : decode cX12_coupBy 110 = .ok (.istore 5, 2) := op_54 (a := 5) kcX12_coupBy (Nat.le_of_ble_eq_true rfl) rfl rfl
theorem dX12_coupBy_112 : decode cX12_coupBy 112 = .ok (.iconst 1, 1) := op_4 kcX12_coupBy (Nat.le_of_ble_eq_true rfl) rfl
theorem dX12_coupBy_113 : decode cX12_coupBy 113 = .ok (.istore 6, 2) := op_54 (a := 6) kcX12_coupBy (Nat.le_of_ble_eq_true rfl) rfl rfl
theorem dX12_coupBy_115 : decode cX12_coupBy 115 = .ok (.iload 6, 2) := op_21 (a := 6) kcX12_coupBy (Nat.le_of_ble_eq_true rfl) rfl rfl
theorem dX12_coupBy_117 : decode cX12_coupBy 117 = .ok (.iconst 1, 1) := op_4 kcX12_coupBy (Nat.le_of_ble_eq_true rfl) rfl
theorem dX12_coupBy_118 : decode cX12_coupBy 118 = .ok (.aload_n 0, 1) := op_42 kcX12_coupBy (Nat.le_of_ble_eq_true rfl) rfl
theorem dX12_coupBy_119 : decode cX12_coupBy 119 = .ok (.getfield 100, 3) := op_180 (a := 0) (b := 100) kcX12_coupBy (Nat.le_of_ble_eq_true rfl) rfl rfl rfl
theorem dX12_coupBy_122 : decode cX12_coupBy 122 = .ok (.ishl, 1) := op_120 kcX12_coupBy (Nat.le_of_ble_eq_true rfl) rfl
theorem dX12_coupBy_123 : decode cX12_coupBy 123 = .ok (.if_icmp .ge 45, 3) := op_162 (a := 0) (b := 45) kcX12_coupBy (Nat.le_of_ble_eq_true rfl) rfl rfl rfl (by decide)
theorem dX12_coupBy_126 : decode cX12_coupBy 126 = .ok (.iload 6, 2) := op_21 (a := 6) kcX12_coupBy (Nat.le_of_ble_eq_true rfl) rfl rfl
theorem dX12_coupBy_128 : decode cX12_coupBy 128 = .ok (.iload 4, 2) := op_21 (a := 4) kcX12_coupBy (Nat.le_of_ble_eq_true rfl) rfl rfl
theorem dX12_coupBy_130 : decode cX12_coupBy 130 = .ok (.iconst (-1), 1) := op_2 kcX12_coupBy (Nat.le_of_ble_eq_true rfl) rfl
theorem dX12_coupBy_131 : decode cX12_coupBy 131 = .ok (.ixor, 1) := op_130 kcX12_coupBy (Nat.le_of_ble_eq_true rfl) rfl
theorem dX12_coupBy_132 : decode cX12_coupBy 132 = .ok (.iand, 1) := op_126 kcX12_coupBy (Nat.le_of_ble_eq_true rfl) rfl
theorem dX12_coupBy_133 : decode cX12_coupBy 133 = .ok (.ifCond .ne 29, 3) := op_154 (a := 0) (b := 29) kcX12_coupBy (Nat.le_of_ble_eq_true rfl) rfl rfl rfl (by decide)
theorem dX12_coupBy_136 : decode cX12_coupBy 136 = .ok (.iload 6, 2) := op_21 (a := 6) kcX12_coupBy (Nat.le_of_ble_eq_true rfl) rfl rfl
theorem dX12_coupBy_138 : decode cX12_coupBy 138 = .ok (.iload_n 2, 1) := op_28 kcX12_coupBy (Nat.le_of_ble_eq_true rfl) rfl
theorem dX12_coupBy_139 : decode cX12_coupBy 139 = .ok (.ishr, 1) := op_122 kcX12_coupBy (Nat.le_of_ble_eq_true rfl) rfl
theorem dX12_coupBy_140 : decode cX12_coupBy 140 = .ok (.iconst 1, 1) := op_4 kcX12_coupBy (Nat.le_of_ble_eq_true rfl) rfl
theorem dX12_coupBy_141 : decode cX12_coupBy 141 = .ok (.iand, 1) := op_126 kcX12_coupBy (Nat.le_of_ble_eq_true rfl) rfl
theorem dX12_coupBy_142 : decode cX12_coupBy 142 = .ok (.iconst 1, 1) := op_4 kcX12_coupBy (Nat.le_of_ble_eq_true rfl) rfl
theorem dX12_coupBy_143 : decode cX12_coupBy 143 = .ok (.if_icmp .ne 19, 3) := op_160 (a := 0) (b := 19) kcX12_coupBy (Nat.le_of_ble_eq_true rfl) rfl rfl rfl (by decide)
theorem dX12_coupBy_146 : decode cX12_coupBy 146 = .ok (.iconst 2, 1) := op_5 kcX12_coupBy (Nat.le_of_ble_eq_true rfl) rfl
theorem dX12_coupBy_147 : decode cX12_coupBy 147 = .ok (.aload_n 0, 1) := op_42 kcX12_coupBy (Nat.le_of_ble_eq_true rfl) rfl
theorem dX12_coupBy_148 : decode cX12_coupBy 148 = .ok (.iload 6, 2) := op_21 (a := 6) kcX12_coupBy (Nat.le_of_ble_eq_true rfl) rfl rfl
theorem dX12_coupBy_150 : decode cX12_coupBy 150 = .ok (.invokevirtual 279, 3) := op_182 (a := 1) (b := 23) kcX12_coupBy (Nat.le_of_ble_eq_true rfl) rfl rfl rfl
theorem dX12_coupBy_153 : decode cX12_coupBy 153 = .ok (.imul, 1) := op_104 kcX12_coupBy (Nat.le_of_ble_eq_true rfl) rfl
theorem dX12_coupBy_154 : decode cX12_coupBy 154 = .ok (.iload 5, 2) := op_21 (a := 5) kcX12_coupBy (Nat.le_of_ble_eq_true rfl) rfl rfl
theorem dX12_coupBy_156 : decode cX12_coupBy 156 = .ok (.if_icmp .le 6, 3) := op_164 (a := 0) (b := 6) kcX12_coupBy (Nat.le_of_ble_eq_true rfl) rfl rfl rfl (by decide)
theorem dX12_coupBy_159 : decode cX12_coupBy 159 = .ok (.iload 6, 2) := op_21 (a := 6) kcX12_coupBy (Nat.le_of_ble_eq_true rfl) rfl rfl
theorem dX12_coupBy_161 : decode cX12_coupBy 161 = .ok (.ireturn, 1) := op_172 kcX12_coupBy (Nat.le_of_ble_eq_true rfl) rfl
theorem dX12_coupBy_162 : decode cX12_coupBy 162 = .ok (.iinc 6 1, 3) := by decide +kernel
theorem dX12_coupBy_165 : decode cX12_coupBy 165 = .ok (.goto (-50), 3) := op_167 (a := 255) (b := 206) kcX12_coupBy (Nat.le_of_ble_eq_true rfl) rfl rfl rfl (by decide)
theorem dX12_coupBy_168 : decode cX12_coupBy 168 = .ok (.bipush (-4), 2) := op_16 (a := 252) kcX12_coupBy (Nat.le_of_ble_eq_true rfl) rfl rfl (by decide)
theorem dX12_coupBy_170 : decode cX12_coupBy 170 = .ok (.ireturn, 1) := op_172 kcX12_coupBy (Nat.le_of_ble_eq_true rfl) rfl
set_option maxRecDepth 20000 in
theorem gw_wsX12_coupBy : (wsX12_coupBy).all goodWord = true := by decide +kernel
set_option maxRecDepth 20000 in
theorem ggX12_leaderBy_X12_coupBy : GoodIn wsX12_leaderBy wsX12_coupBy := goodIn_r _ [6, 1, 7, 8, 9, 10, 11, 5, 12, 13, 14, 15, 16, 17, 18, 19, 20, 21, 22, 23, 24, 25, 26, 27, 28, 29, 30, 31, 32, 33, 34, 35, 36, 37, 38, 39, 40, 41, 42, 43, 44, 45, 46, 47, 48, 49, 50, 51, 52, 53, 54, 55, 56, 57, 58, 59, 60, 61, 62, 63, 64, 65, 66, 67] rfl gw_wsX12_coupBy
set_option maxRecDepth 20000 in
theorem gX12_leaderBy_X12_coupBy : GoodIn wsX12_leaderBy (wsV RX12 282 RX12 yX12_coupBy wsX12_coupBy) := goodIn_app (goodIn_of _ (by decide +kernel)) ggX12_leaderBy_X12_coupBy
theorem kcX12_leaderBy : (cX12_leaderBy).data.toList = cbs 0xacfc10e2ffa7010384ac1d05009ffc101a01b61c1d1b2a11009f1b1d1c00a26400b42a1d3e03 38 := by decide +kernel
theorem dX12_leaderBy_0 : decode cX12_leaderBy 0 = .ok (.iconst 0, 1) := op_3 kcX12_leaderBy (Nat.le_of_ble_eq_true rfl) rfl
theorem dX12_leaderBy_1 : decode cX12_leaderBy 1 = .ok (.istore_n 3, 1) := op_62 kcX12_leaderBy (Nat.le_of_ble_eq_true rfl) rfl
theorem dX12_leaderBy_2 : decode cX12_leaderBy 2 = .ok (.iload_n 3, 1) := op_29 kcX12_leaderBy (Nat.le_of_ble_eq_true rfl) rfl
theorem dX12_leaderBy_3 : decode cX12_leaderBy 3 = .ok (.aload_n 0, 1) := op_42 kcX12_leaderBy (Nat.le_of_ble_eq_true rfl) rfl
theorem dX12_leaderBy_4 : decode cX12_leaderBy 4 = .ok (.getfield 100, 3) := op_180 (a := 0) (b := 100) kcX12_leaderBy (Nat.le_of_ble_eq_true rfl) rfl rfl rfl
theorem dX12_leaderBy_7 : decode cX12_leaderBy 7 = .ok (.if_icmp .ge 28, 3) := op_162 (a := 0) (b := 28) kcX12_leaderBy (Nat.le_of_ble_eq_true rfl) rfl rfl rfl (by decide)
theorem dX12_leaderBy_10 : decode cX12_leaderBy 10 = .ok (.iload_n 3, 1) := op_29 kcX12_leaderBy (Nat.le_of_ble_eq_true rfl) rfl
theorem dX12_leaderBy_11 : decode cX12_leaderBy 11 = .ok (.iload_n 1, 1) := op_27 kcX12_leaderBy (Nat.le_of_ble_eq_true rfl) rfl
theorem dX12_leaderBy_12 : decode cX12_leaderBy 12 = .ok (.if_icmp .eq 17, 3) := op_159 (a := 0) (b := 17) kcX12_leaderBy (Nat.le_of_ble_eq_true rfl) rfl rfl rfl (by decide)
theorem dX12_leaderBy_15 : decode cX12_leaderBy 15 = .ok (.aload_n 0, 1) := op_42 kcX12_leaderBy (Nat.le_of_ble_eq_true rfl) rfl
theorem dX12_leaderBy_16 : decode cX12_leaderBy 16 = .ok (.iload_n 1, 1) := op_27 kcX12_leaderBy (Nat.le_of_ble_eq_true rfl) rfl
theorem dX12_leaderBy_17 : decode cX12_leaderBy 17 = .ok (.iload_n 3, 1) := op_29 kcX12_leaderBy (Nat.le_of_ble_eq_true rfl) rfl
theorem dX12_leaderBy_18 : decode cX12_leaderBy 18 = .ok (.iload_n 2, 1) := op_28 kcX12_leaderBy (Nat.le_of_ble_eq_true rfl) rfl
theorem dX12_leaderBy_19 : decode cX12_leaderBy 19 = .ok (.invokevirtual 282, 3) := op_182 (a := 1) (b := 26) kcX12_leaderBy (Nat.le_of_ble_eq_true rfl) rfl rfl rfl
theorem dX12_leaderBy_22 : decode cX12_leaderBy 22 = .ok (.bipush (-4), 2) := op_16 (a := 252) kcX12_leaderBy (Nat.le_of_ble_eq_true rfl) rfl rfl (by decide)
theorem dX12_leaderBy_24 : decode cX12_leaderBy 24 = .ok (.if_icmp .eq 5, 3) := op_159 (a := 0) (b := 5) kcX12_leaderBy (Nat.le_of_ble_eq_true rfl) rfl rfl rfl (by decide)
theorem dX12_leaderBy_27 : decode cX12_leaderBy 27 = .ok (.iload_n 3, 1) := op_29 kcX12_leaderBy (Nat.le_of_ble_eq_true rfl) rfl
theorem dX12_leaderBy_28 : decode cX12_leaderBy 28 = .ok (.ireturn, 1) := op_172 kcX12_leaderBy (Nat.le_of_ble_eq_true rfl) rfl
theorem dX12_leaderBy_29 : decode cX12_leaderBy 29 = .ok (.iinc 3 1, 3) := by decide +kernel
theorem dX12_leaderBy_32 : decode cX12_leaderBy 32 = .ok (.goto (-30), 3) := op_167 (a := 255) (b := 226) kcX12_leaderBy (Nat.le_of_ble_eq_true rfl) rfl rfl rfl (by decide)
theorem dX12_leaderBy_35 : decode cX12_leaderBy 35 = .ok (.bipush (-4), 2) := op_16 (a := 252) kcX12_leaderBy (Nat.le_of_ble_eq_true rfl) rfl rfl (by decide)
theorem dX12_leaderBy_37 : decode cX12_leaderBy 37 = .ok (.ireturn, 1) := op_172 kcX12_leaderBy (Nat.le_of_ble_eq_true rfl) rfl
set_option maxRecDepth 20000 in
theorem ggX12_coup_X12_isSeat : GoodIn wsX12_coup wsX12_isSeat := goodIn_r _ [5, 6, 7, 8, 4, 9, 50, 51, 52, 53, 54, 55, 56, 57, 58, 59, 60, 61, 62, 63, 64, 65, 66, 67, 68, 69, 70, 71, 72, 73, 74, 75, 76, 77, 78, 79, 80, 81, 82, 83, 84, 85, 86] rfl gw_wsX12_isSeat
set_option maxRecDepth 20000 in
theorem gX12_coup_X12_isSeat : GoodIn wsX12_coup (wsV RX12 203 RX12 yX12_isSeat wsX12_isSeat) := goodIn_app (goodIn_of _ (by decide +kernel)) ggX12_coup_X12_isSeat
set_option maxRecDepth 20000 in
theorem ggX12_coup_X12_isStir : GoodIn wsX12_coup wsX12_isStir := goodIn_r _ [13, 14, 7, 8, 4, 9, 50, 51, 52, 53, 54, 55, 56, 57, 58, 59, 60, 61, 62, 63, 64, 65, 66, 67, 68, 69, 70, 71, 72, 73, 74, 75, 76, 77, 78, 79, 80, 81, 82, 83, 84, 85, 86] rfl gw_wsX12_isStir
set_option maxRecDepth 20000 in
theorem gX12_coup_X12_isStir : GoodIn wsX12_coup (wsV RX12 207 RX12 yX12_isStir wsX12_isStir) := goodIn_app (goodIn_of _ (by decide +kernel)) ggX12_coup_X12_isStir
set_option maxRecDepth 20000 in
theorem ggX12_coup_X12_isTold : GoodIn wsX12_coup wsX12_isTold := goodIn_r _ [17, 7, 8, 4, 9] rfl gw_wsX12_isTold
set_option maxRecDepth 20000 in
theorem gX12_coup_X12_isTold : GoodIn wsX12_coup (va_wsS RX12 238 yX12_isTold wsX12_isTold) := goodIn_app (goodIn_of _ (by decide +kernel)) ggX12_coup_X12_isTold
set_option maxRecDepth 20000 in
theorem gw_wsX12_leaderBy : (wsX12_leaderBy).all goodWord = true := by decide +kernel
set_option maxRecDepth 20000 in
theorem ggX12_coup_X12_leaderBy : GoodIn wsX12_coup wsX12_leaderBy := goodIn_r _ [21, 6, 22, 23, 24, 4, 25, 26, 27, 28, 29, 30, 31, 32, 33, 34, 35, 36, 37, 38, 39, 40, 41, 42, 43, 44, 45, 46, 47, 48, 49, 50, 51, 52, 53, 54, 55, 56, 57, 58, 59, 60, 61, 62, 63, 64, 65, 66, 67, 68, 69, 70, 71, 72, 73, 74, 75, 76, 77, 78, 79, 80, 81, 82, 83, 84, 85, 86] rfl gw_wsX12_leaderBy
set_option maxRecDepth 20000 in
theorem gX12_coup_X12_leaderBy : GoodIn wsX12_coup (wsV RX12 285 RX12 yX12_leaderBy wsX12_leaderBy) := goodIn_app (goodIn_of _ (by decide +kernel)) ggX12_coup_X12_leaderBy
set_option maxRecDepth 20000 in
theorem ggX12_coup_X12_coupBy : GoodIn wsX12_coup wsX12_coupBy := goodIn_r _ [25, 6, 26, 27, 28, 29, 30, 4, 31, 32, 33, 34, 35, 36, 37, 38, 39, 40, 41, 42, 43, 44, 45, 46, 47, 48, 49, 50, 51, 52, 53, 54, 55, 56, 57, 58, 59, 60, 61, 62, 63, 64, 65, 66, 67, 68, 69, 70, 71, 72, 73, 74, 75, 76, 77, 78, 79, 80, 81, 82, 83, 84, 85, 86] rfl gw_wsX12_coupBy
set_option maxRecDepth 20000 in
theorem gX12_coup_X12_coupBy : GoodIn wsX12_coup (wsV RX12 282 RX12 yX12_coupBy wsX12_coupBy) := goodIn_app (goodIn_of _ (by decide +kernel)) ggX12_coup_X12_coupBy
theorem kcX12_coup : (cX12_coup).data.toList = cbs 0xac1a01b61c04151b2a0b00a7041508009a1d1400a7fc100800a0fc10041504361d01b61c1b2aac0205009aee00b81d0a0099cf00b61c2a120099cb00b61b2a 63 := by decide +kernel
theorem dX12_coup_0 : decode cX12_coup 0 = .ok (.aload_n 0, 1) := op_42 kcX12_coup (Nat.le_of_ble_eq_true rfl) rfl
theorem dX12_coup_1 : decode cX12_coup 1 = .ok (.iload_n 1, 1) := op_27 kcX12_coup (Nat.le_of_ble_eq_true rfl) rfl
theorem dX12_coup_2 : decode cX12_coup 2 = .ok (.invokevirtual 203, 3) := op_182 (a := 0) (b := 203) kcX12_coup (Nat.le_of_ble_eq_true rfl) rfl rfl rfl
theorem dX12_coup_5 : decode cX12_coup 5 = .ok (.ifCond .eq 18, 3) := op_153 (a := 0) (b := 18) kcX12_coup (Nat.le_of_ble_eq_true rfl) rfl rfl rfl (by decide)
theorem dX12_coup_8 : decode cX12_coup 8 = .ok (.aload_n 0, 1) := op_42 kcX12_coup (Nat.le_of_ble_eq_true rfl) rfl
theorem dX12_coup_9 : decode cX12_coup 9 = .ok (.iload_n 2, 1) := op_28 kcX12_coup (Nat.le_of_ble_eq_true rfl) rfl
theorem dX12_coup_10 : decode cX12_coup 10 = .ok (.invokevirtual 207, 3) := op_182 (a := 0) (b := 207) kcX12_coup (Nat.le_of_ble_eq_true rfl) rfl rfl rfl
theorem dX12_coup_13 : decode cX12_coup 13 = .ok (.ifCond .eq 10, 3) := op_153 (a := 0) (b := 10) kcX12_coup (Nat.le_of_ble_eq_true rfl) rfl rfl rfl (by decide)
theorem dX12_coup_16 : decode cX12_coup 16 = .ok (.iload_n 3, 1) := op_29 kcX12_coup (Nat.le_of_ble_eq_true rfl) rfl
theorem dX12_coup_17 : decode cX12_coup 17 = .ok (.invokestatic 238, 3) := op_184 (a := 0) (b := 238) kcX12_coup (Nat.le_of_ble_eq_true rfl) rfl rfl rfl
theorem dX12_coup_20 : decode cX12_coup 20 = .ok (.ifCond .ne 5, 3) := op_154 (a := 0) (b := 5) kcX12_coup (Nat.le_of_ble_eq_true rfl) rfl rfl rfl (by decide)
theorem dX12_coup_23 : decode cX12_coup 23 = .ok (.iconst (-1), 1) := op_2 kcX12_coup (Nat.le_of_ble_eq_true rfl) rfl
theorem dX12_coup_24 : decode cX12_coup 24 = .ok (.ireturn, 1) := op_172 kcX12_coup (Nat.le_of_ble_eq_true rfl) rfl
theorem dX12_coup_25 : decode cX12_coup 25 = .ok (.aload_n 0, 1) := op_42 kcX12_coup (Nat.le_of_ble_eq_true rfl) rfl
theorem dX12_coup_26 : decode cX12_coup 26 = .ok (.iload_n 1, 1) := op_27 kcX12_coup (Nat.le_of_ble_eq_true rfl) rfl
theorem dX12_coup_27 : decode cX12_coup 27 = .ok (.iload_n 2, 1) := op_28 kcX12_coup (Nat.le_of_ble_eq_true rfl) rfl
theorem dX12_coup_28 : decode cX12_coup 28 = .ok (.invokevirtual 285, 3) := op_182 (a := 1) (b := 29) kcX12_coup (Nat.le_of_ble_eq_true rfl) rfl rfl rfl
theorem dX12_coup_31 : decode cX12_coup 31 = .ok (.istore 4, 2) := op_54 (a := 4) kcX12_coup (Nat.le_of_ble_eq_true rfl) rfl rfl
theorem dX12_coup_33 : decode cX12_coup 33 = .ok (.iload 4, 2) := op_21 (a := 4) kcX12_coup (Nat.le_of_ble_eq_true rfl) rfl rfl
theorem dX12_coup_35 : decode cX12_coup 35 = .ok (.bipush (-4), 2) := op_16 (a := 252) kcX12_coup (Nat.le_of_ble_eq_true rfl) rfl rfl (by decide)
theorem dX12_coup_37 : decode cX12_coup 37 = .ok (.if_icmp .ne 8, 3) := op_160 (a := 0) (b := 8) kcX12_coup (Nat.le_of_ble_eq_true rfl) rfl rfl rfl (by decide)
theorem dX12_coup_40 : decode cX12_coup 40 = .ok (.bipush (-4), 2) := op_16 (a := 252) kcX12_coup (Nat.le_of_ble_eq_true rfl) rfl rfl (by decide)
theorem dX12_coup_42 : decode cX12_coup 42 = .ok (.goto 20, 3) := op_167 (a := 0) (b := 20) kcX12_coup (Nat.le_of_ble_eq_true rfl) rfl rfl rfl (by decide)
theorem dX12_coup_45 : decode cX12_coup 45 = .ok (.iload_n 3, 1) := op_29 kcX12_coup (Nat.le_of_ble_eq_true rfl) rfl
theorem dX12_coup_46 : decode cX12_coup 46 = .ok (.ifCond .ne 8, 3) := op_154 (a := 0) (b := 8) kcX12_coup (Nat.le_of_ble_eq_true rfl) rfl rfl rfl (by decide)
theorem dX12_coup_49 : decode cX12_coup 49 = .ok (.iload 4, 2) := op_21 (a := 4) kcX12_coup (Nat.le_of_ble_eq_true rfl) rfl rfl
theorem dX12_coup_51 : decode cX12_coup 51 = .ok (.goto 11, 3) := op_167 (a := 0) (b := 11) kcX12_coup (Nat.le_of_ble_eq_true rfl) rfl rfl rfl (by decide)
theorem dX12_coup_54 : decode cX12_coup 54 = .ok (.aload_n 0, 1) := op_42 kcX12_coup (Nat.le_of_ble_eq_true rfl) rfl
theorem dX12_coup_55 : decode cX12_coup 55 = .ok (.iload_n 1, 1) := op_27 kcX12_coup (Nat.le_of_ble_eq_true rfl) rfl
theorem dX12_coup_56 : decode cX12_coup 56 = .ok (.iload 4, 2) := op_21 (a := 4) kcX12_coup (Nat.le_of_ble_eq_true rfl) rfl rfl
theorem dX12_coup_58 : decode cX12_coup 58 = .ok (.iload_n 2, 1) := op_28 kcX12_coup (Nat.le_of_ble_eq_true rfl) rfl
theorem dX12_coup_59 : decode cX12_coup 59 = .ok (.invokevirtual 282, 3) := op_182 (a := 1) (b := 26) kcX12_coup (Nat.le_of_ble_eq_true rfl) rfl rfl rfl
theorem dX12_coup_62 : decode cX12_coup 62 = .ok (.ireturn, 1) := op_172 kcX12_coup (Nat.le_of_ble_eq_true rfl) rfl
set_option maxRecDepth 20000 in
theorem ggX12_firm_X12_isStir : GoodIn wsX12_firm wsX12_isStir := goodIn_r _ [6, 7, 8, 9, 5, 10, 43, 44, 45, 46, 47, 48, 49, 50, 51, 52, 53, 54, 55, 56, 57, 58, 59, 60, 61, 62, 63, 64, 65, 66, 67, 68, 69, 70, 71, 72, 73, 74, 75, 76, 77, 78, 79] rfl gw_wsX12_isStir
set_option maxRecDepth 20000 in
theorem gX12_firm_X12_isStir : GoodIn wsX12_firm (wsV RX12 207 RX12 yX12_isStir wsX12_isStir) := goodIn_app (goodIn_of _ (by decide +kernel)) ggX12_firm_X12_isStir
set_option maxRecDepth 20000 in
theorem ggX12_firm_X12_leaderBy : GoodIn wsX12_firm wsX12_leaderBy := goodIn_r _ [14, 1, 15, 16, 17, 5, 18, 19, 20, 21, 22, 23, 24, 25, 26, 27, 28, 29, 30, 31, 32, 33, 34, 35, 36, 37, 38, 39, 40, 41, 42, 43, 44, 45, 46, 47, 48, 49, 50, 51, 52, 53, 54, 55, 56, 57, 58, 59, 60, 61, 62, 63, 64, 65, 66, 67, 68, 69, 70, 71, 72, 73, 74, 75, 76, 77, 78, 79] rfl gw_wsX12_leaderBy
set_option maxRecDepth 20000 in
theorem gX12_firm_X12_leaderBy : GoodIn wsX12_firm (wsV RX12 285 RX12 yX12_leaderBy wsX12_leaderBy) := goodIn_app (goodIn_of _ (by decide +kernel)) ggX12_firm_X12_leaderBy
set_option maxRecDepth 20000 in
theorem ggX12_firm_X12_flag : GoodIn wsX12_firm wsX12_flag := goodIn_r _ [33] rfl gw_wsX12_flag
set_option maxRecDepth 20000 in
theorem gX12_firm_X12_flag : GoodIn wsX12_firm (va_wsS RX12 212 yX12_flag wsX12_flag) := goodIn_app (goodIn_of _ (by decide +kernel)) ggX12_firm_X12_flag
theorem kcX12_firm : (cX12_firm).data.toList = cbs 0xac1cddffa70103843d80781dd400b8030400a7040700a0fc101d01b61b1d2a1c2100a26400b42a1d3e033d03ac0205009acf00b61b2a 54 := by decide +kernel
theorem dX12_firm_0 : decode cX12_firm 0 = .ok (.aload_n 0, 1) := op_42 kcX12_firm (Nat.le_of_ble_eq_true rfl) rfl
theorem dX12_firm_1 : decode cX12_firm 1 = .ok (.iload_n 1, 1) := op_27 kcX12_firm (Nat.le_of_ble_eq_true rfl) rfl
theorem dX12_firm_2 : decode cX12_firm 2 = .ok (.invokevirtual 207, 3) := op_182 (a := 0) (b := 207) kcX12_firm (Nat.le_of_ble_eq_true rfl) rfl rfl rfl
theorem dX12_firm_5 : decode cX12_firm 5 = .ok (.ifCond .ne 5, 3) := op_154 (a := 0) (b := 5) kcX12_firm (Nat.le_of_ble_eq_true rfl) rfl rfl rfl (by decide)
theorem dX12_firm_8 : decode cX12_firm 8 = .ok (.iconst (-1), 1) := op_2 kcX12_firm (Nat.le_of_ble_eq_true rfl) rfl
theorem dX12_firm_9 : decode cX12_firm 9 = .ok (.ireturn, 1) := op_172 kcX12_firm (Nat.le_of_ble_eq_true rfl) rfl
theorem dX12_firm_10 : decode cX12_firm 10 = .ok (.iconst 0, 1) := op_3 kcX12_firm (Nat.le_of_ble_eq_true rfl) rfl
theorem dX12_firm_11 : decode cX12_firm 11 = .ok (.istore_n 2, 1) := op_61 kcX12_firm (Nat.le_of_ble_eq_true rfl) rfl
theorem dX12_firm_12 : decode cX12_firm 12 = .ok (.iconst 0, 1) := op_3 kcX12_firm (Nat.le_of_ble_eq_true rfl) rfl
theorem dX12_firm_13 : decode cX12_firm 13 = .ok (.istore_n 3, 1) := op_62 kcX12_firm (Nat.le_of_ble_eq_true rfl) rfl
theorem dX12_firm_14 : decode cX12_firm 14 = .ok (.iload_n 3, 1) := op_29 kcX12_firm (Nat.le_of_ble_eq_true rfl) rfl
theorem dX12_firm_15 : decode cX12_firm 15 = .ok (.aload_n 0, 1) := op_42 kcX12_firm (Nat.le_of_ble_eq_true rfl) rfl
theorem dX12_firm_16 : decode cX12_firm 16 = .ok (.getfield 100, 3) := op_180 (a := 0) (b := 100) kcX12_firm (Nat.le_of_ble_eq_true rfl) rfl rfl rfl
theorem dX12_firm_19 : decode cX12_firm 19 = .ok (.if_icmp .ge 33, 3) := op_162 (a := 0) (b := 33) kcX12_firm (Nat.le_of_ble_eq_true rfl) rfl rfl rfl (by decide)
theorem dX12_firm_22 : decode cX12_firm 22 = .ok (.iload_n 2, 1) := op_28 kcX12_firm (Nat.le_of_ble_eq_true rfl) rfl
theorem dX12_firm_23 : decode cX12_firm 23 = .ok (.aload_n 0, 1) := op_42 kcX12_firm (Nat.le_of_ble_eq_true rfl) rfl
theorem dX12_firm_24 : decode cX12_firm 24 = .ok (.iload_n 3, 1) := op_29 kcX12_firm (Nat.le_of_ble_eq_true rfl) rfl
theorem dX12_firm_25 : decode cX12_firm 25 = .ok (.iload_n 1, 1) := op_27 kcX12_firm (Nat.le_of_ble_eq_true rfl) rfl
theorem dX12_firm_26 : decode cX12_firm 26 = .ok (.invokevirtual 285, 3) := op_182 (a := 1) (b := 29) kcX12_firm (Nat.le_of_ble_eq_true rfl) rfl rfl rfl
theorem dX12_firm_29 : decode cX12_firm 29 = .ok (.bipush (-4), 2) := op_16 (a := 252) kcX12_firm (Nat.le_of_ble_eq_true rfl) rfl rfl (by decide)
theorem dX12_firm_31 : decode cX12_firm 31 = .ok (.if_icmp .ne 7, 3) := op_160 (a := 0) (b := 7) kcX12_firm (Nat.le_of_ble_eq_true rfl) rfl rfl rfl (by decide)
theorem dX12_firm_34 : decode cX12_firm 34 = .ok (.iconst 1, 1) := op_4 kcX12_firm (Nat.le_of_ble_eq_true rfl) rfl
theorem dX12_firm_35 : decode cX12_firm 35 = .ok (.goto 4, 3) := op_167 (a := 0) (b := 4) kcX12_firm (Nat.le_of_ble_eq_true rfl) rfl rfl rfl (by decide)
theorem dX12_firm_38 : decode cX12_firm 38 = .ok (.iconst 0, 1) := op_3 kcX12_firm (Nat.le_of_ble_eq_true rfl) rfl
theorem dX12_firm_39 : decode cX12_firm 39 = .ok (.invokestatic 212, 3) := op_184 (a := 0) (b := 212) kcX12_firm (Nat.le_of_ble_eq_true rfl) rfl rfl rfl
theorem dX12_firm_42 : decode cX12_firm 42 = .ok (.iload_n 3, 1) := op_29 kcX12_firm (Nat.le_of_ble_eq_true rfl) rfl
theorem dX12_firm_43 : decode cX12_firm 43 = .ok (.ishl, 1) := op_120 kcX12_firm (Nat.le_of_ble_eq_true rfl) rfl
theorem dX12_firm_44 : decode cX12_firm 44 = .ok (.ior, 1) := op_128 kcX12_firm (Nat.le_of_ble_eq_true rfl) rfl
theorem dX12_firm_45 : decode cX12_firm 45 = .ok (.istore_n 2, 1) := op_61 kcX12_firm (Nat.le_of_ble_eq_true rfl) rfl
theorem dX12_firm_46 : decode cX12_firm 46 = .ok (.iinc 3 1, 3) := by decide +kernel
theorem dX12_firm_49 : decode cX12_firm 49 = .ok (.goto (-35), 3) := op_167 (a := 255) (b := 221) kcX12_firm (Nat.le_of_ble_eq_true rfl) rfl rfl rfl (by decide)
theorem dX12_firm_52 : decode cX12_firm 52 = .ok (.iload_n 2, 1) := op_28 kcX12_firm (Nat.le_of_ble_eq_true rfl) rfl
theorem dX12_firm_53 : decode cX12_firm 53 = .ok (.ireturn, 1) := op_172 kcX12_firm (Nat.le_of_ble_eq_true rfl) rfl
set_option maxRecDepth 20000 in
theorem ggX12_see_X12_isSeat : GoodIn wsX12_see wsX12_isSeat := goodIn_r _ [6, 7, 8, 9, 5, 10, 11, 12, 13, 14, 15, 16, 17, 18, 19, 20, 21, 22, 23, 24, 25, 26, 27, 28, 29, 30, 31, 32, 33, 34, 35, 36, 37, 38, 39, 40, 41, 42, 43, 44, 45, 46, 47] rfl gw_wsX12_isSeat
set_option maxRecDepth 20000 in
theorem gX12_see_X12_isSeat : GoodIn wsX12_see (wsV RX12 203 RX12 yX12_isSeat wsX12_isSeat) := goodIn_app (goodIn_of _ (by decide +kernel)) ggX12_see_X12_isSeat
theorem kcX12_see : (cX12_see).data.toList = cbs 0xac2e1f100700b42a4f60042e5c1f100700b42a4f1b602e1f100700b42a20100700b42aacfd100600a006102e1f100700b42aac0205009acb00b61b2a 60 := by decide +kernel
theorem dX12_see_0 : decode cX12_see 0 = .ok (.aload_n 0, 1) := op_42 kcX12_see (Nat.le_of_ble_eq_true rfl) rfl
theorem dX12_see_1 : decode cX12_see 1 = .ok (.iload_n 1, 1) := op_27 kcX12_see (Nat.le_of_ble_eq_true rfl) rfl
theorem dX12_see_2 : decode cX12_see 2 = .ok (.invokevirtual 203, 3) := op_182 (a := 0) (b := 203) kcX12_see (Nat.le_of_ble_eq_true rfl) rfl rfl rfl
theorem dX12_see_5 : decode cX12_see 5 = .ok (.ifCond .ne 5, 3) := op_154 (a := 0) (b := 5) kcX12_see (Nat.le_of_ble_eq_true rfl) rfl rfl rfl (by decide)
theorem dX12_see_8 : decode cX12_see 8 = .ok (.iconst (-1), 1) := op_2 kcX12_see (Nat.le_of_ble_eq_true rfl) rfl
theorem dX12_see_9 : decode cX12_see 9 = .ok (.ireturn, 1) := op_172 kcX12_see (Nat.le_of_ble_eq_true rfl) rfl
theorem dX12_see_10 : decode cX12_see 10 = .ok (.aload_n 0, 1) := op_42 kcX12_see (Nat.le_of_ble_eq_true rfl) rfl
theorem dX12_see_11 : decode cX12_see 11 = .ok (.getfield 7, 3) := op_180 (a := 0) (b := 7) kcX12_see (Nat.le_of_ble_eq_true rfl) rfl rfl rfl
theorem dX12_see_14 : decode cX12_see 14 = .ok (.bipush 31, 2) := op_16 (a := 31) kcX12_see (Nat.le_of_ble_eq_true rfl) rfl rfl (by decide)
theorem dX12_see_16 : decode cX12_see 16 = .ok (.iaload, 1) := op_46 kcX12_see (Nat.le_of_ble_eq_true rfl) rfl
theorem dX12_see_17 : decode cX12_see 17 = .ok (.bipush 6, 2) := op_16 (a := 6) kcX12_see (Nat.le_of_ble_eq_true rfl) rfl rfl (by decide)
theorem dX12_see_19 : decode cX12_see 19 = .ok (.if_icmp .ne 6, 3) := op_160 (a := 0) (b := 6) kcX12_see (Nat.le_of_ble_eq_true rfl) rfl rfl rfl (by decide)
theorem dX12_see_22 : decode cX12_see 22 = .ok (.bipush (-3), 2) := op_16 (a := 253) kcX12_see (Nat.le_of_ble_eq_true rfl) rfl rfl (by decide)
theorem dX12_see_24 : decode cX12_see 24 = .ok (.ireturn, 1) := op_172 kcX12_see (Nat.le_of_ble_eq_true rfl) rfl
theorem dX12_see_25 : decode cX12_see 25 = .ok (.aload_n 0, 1) := op_42 kcX12_see (Nat.le_of_ble_eq_true rfl) rfl
theorem dX12_see_26 : decode cX12_see 26 = .ok (.getfield 7, 3) := op_180 (a := 0) (b := 7) kcX12_see (Nat.le_of_ble_eq_true rfl) rfl rfl rfl
theorem dX12_see_29 : decode cX12_see 29 = .ok (.bipush 32, 2) := op_16 (a := 32) kcX12_see (Nat.le_of_ble_eq_true rfl) rfl rfl (by decide)
theorem dX12_see_31 : decode cX12_see 31 = .ok (.aload_n 0, 1) := op_42 kcX12_see (Nat.le_of_ble_eq_true rfl) rfl
theorem dX12_see_32 : decode cX12_see 32 = .ok (.getfield 7, 3) := op_180 (a := 0) (b := 7) kcX12_see (Nat.le_of_ble_eq_true rfl) rfl rfl rfl
theorem dX12_see_35 : decode cX12_see 35 = .ok (.bipush 31, 2) := op_16 (a := 31) kcX12_see (Nat.le_of_ble_eq_true rfl) rfl rfl (by decide)
theorem dX12_see_37 : decode cX12_see 37 = .ok (.iaload, 1) := op_46 kcX12_see (Nat.le_of_ble_eq_true rfl) rfl
theorem dX12_see_38 : decode cX12_see 38 = .ok (.iadd, 1) := op_96 kcX12_see (Nat.le_of_ble_eq_true rfl) rfl
theorem dX12_see_39 : decode cX12_see 39 = .ok (.iload_n 1, 1) := op_27 kcX12_see (Nat.le_of_ble_eq_true rfl) rfl
theorem dX12_see_40 : decode cX12_see 40 = .ok (.iastore, 1) := op_79 kcX12_see (Nat.le_of_ble_eq_true rfl) rfl
theorem dX12_see_41 : decode cX12_see 41 = .ok (.aload_n 0, 1) := op_42 kcX12_see (Nat.le_of_ble_eq_true rfl) rfl
theorem dX12_see_42 : decode cX12_see 42 = .ok (.getfield 7, 3) := op_180 (a := 0) (b := 7) kcX12_see (Nat.le_of_ble_eq_true rfl) rfl rfl rfl
theorem dX12_see_45 : decode cX12_see 45 = .ok (.bipush 31, 2) := op_16 (a := 31) kcX12_see (Nat.le_of_ble_eq_true rfl) rfl rfl (by decide)
theorem dX12_see_47 : decode cX12_see 47 = .ok (.dup2, 1) := op_92 kcX12_see (Nat.le_of_ble_eq_true rfl) rfl
theorem dX12_see_48 : decode cX12_see 48 = .ok (.iaload, 1) := op_46 kcX12_see (Nat.le_of_ble_eq_true rfl) rfl
theorem dX12_see_49 : decode cX12_see 49 = .ok (.iconst 1, 1) := op_4 kcX12_see (Nat.le_of_ble_eq_true rfl) rfl
theorem dX12_see_50 : decode cX12_see 50 = .ok (.iadd, 1) := op_96 kcX12_see (Nat.le_of_ble_eq_true rfl) rfl
theorem dX12_see_51 : decode cX12_see 51 = .ok (.iastore, 1) := op_79 kcX12_see (Nat.le_of_ble_eq_true rfl) rfl
theorem dX12_see_52 : decode cX12_see 52 = .ok (.aload_n 0, 1) := op_42 kcX12_see (Nat.le_of_ble_eq_true rfl) rfl
theorem dX12_see_53 : decode cX12_see 53 = .ok (.getfield 7, 3) := op_180 (a := 0) (b := 7) kcX12_see (Nat.le_of_ble_eq_true rfl) rfl rfl rfl
theorem dX12_see_56 : decode cX12_see 56 = .ok (.bipush 31, 2) := op_16 (a := 31) kcX12_see (Nat.le_of_ble_eq_true rfl) rfl rfl (by decide)
theorem dX12_see_58 : decode cX12_see 58 = .ok (.iaload, 1) := op_46 kcX12_see (Nat.le_of_ble_eq_true rfl) rfl
theorem dX12_see_59 : decode cX12_see 59 = .ok (.ireturn, 1) := op_172 kcX12_see (Nat.le_of_ble_eq_true rfl) rfl
set_option maxRecDepth 20000 in
theorem ggX12_forget_X12_in : GoodIn wsX12_forget wsX12_in := goodIn_r _ [5] rfl gw_wsX12_in
set_option maxRecDepth 20000 in
theorem gX12_forget_X12_in : GoodIn wsX12_forget (va_wsS RX12 115 yX12_in wsX12_in) := goodIn_app (goodIn_of _ (by decide +kernel)) ggX12_forget_X12_in
theorem kcX12_forget : (cX12_forget).data.toList = cbs 0xac1c4f1b1f100700b42a3d2e1f100700b42aac0205009a7300b8852e1f100700b42a09851b 37 := by decide +kernel
theorem dX12_forget_0 : decode cX12_forget 0 = .ok (.iload_n 1, 1) := op_27 kcX12_forget (Nat.le_of_ble_eq_true rfl) rfl
theorem dX12_forget_1 : decode cX12_forget 1 = .ok (.i2l, 1) := op_133 kcX12_forget (Nat.le_of_ble_eq_true rfl) rfl
theorem dX12_forget_2 : decode cX12_forget 2 = .ok (.lconst 0, 1) := op_9 kcX12_forget (Nat.le_of_ble_eq_true rfl) rfl
theorem dX12_forget_3 : decode cX12_forget 3 = .ok (.aload_n 0, 1) := op_42 kcX12_forget (Nat.le_of_ble_eq_true rfl) rfl
theorem dX12_forget_4 : decode cX12_forget 4 = .ok (.getfield 7, 3) := op_180 (a := 0) (b := 7) kcX12_forget (Nat.le_of_ble_eq_true rfl) rfl rfl rfl
theorem dX12_forget_7 : decode cX12_forget 7 = .ok (.bipush 31, 2) := op_16 (a := 31) kcX12_forget (Nat.le_of_ble_eq_true rfl) rfl rfl (by decide)
theorem dX12_forget_9 : decode cX12_forget 9 = .ok (.iaload, 1) := op_46 kcX12_forget (Nat.le_of_ble_eq_true rfl) rfl
theorem dX12_forget_10 : decode cX12_forget 10 = .ok (.i2l, 1) := op_133 kcX12_forget (Nat.le_of_ble_eq_true rfl) rfl
theorem dX12_forget_11 : decode cX12_forget 11 = .ok (.invokestatic 115, 3) := op_184 (a := 0) (b := 115) kcX12_forget (Nat.le_of_ble_eq_true rfl) rfl rfl rfl
theorem dX12_forget_14 : decode cX12_forget 14 = .ok (.ifCond .ne 5, 3) := op_154 (a := 0) (b := 5) kcX12_forget (Nat.le_of_ble_eq_true rfl) rfl rfl rfl (by decide)
theorem dX12_forget_17 : decode cX12_forget 17 = .ok (.iconst (-1), 1) := op_2 kcX12_forget (Nat.le_of_ble_eq_true rfl) rfl
theorem dX12_forget_18 : decode cX12_forget 18 = .ok (.ireturn, 1) := op_172 kcX12_forget (Nat.le_of_ble_eq_true rfl) rfl
theorem dX12_forget_19 : decode cX12_forget 19 = .ok (.aload_n 0, 1) := op_42 kcX12_forget (Nat.le_of_ble_eq_true rfl) rfl
theorem dX12_forget_20 : decode cX12_forget 20 = .ok (.getfield 7, 3) := op_180 (a := 0) (b := 7) kcX12_forget (Nat.le_of_ble_eq_true rfl) rfl rfl rfl
theorem dX12_forget_23 : decode cX12_forget 23 = .ok (.bipush 31, 2) := op_16 (a := 31) kcX12_forget (Nat.le_of_ble_eq_true rfl) rfl rfl (by decide)
theorem dX12_forget_25 : decode cX12_forget 25 = .ok (.iaload, 1) := op_46 kcX12_forget (Nat.le_of_ble_eq_true rfl) rfl
theorem dX12_forget_26 : decode cX12_forget 26 = .ok (.istore_n 2, 1) := op_61 kcX12_forget (Nat.le_of_ble_eq_true rfl) rfl
theorem dX12_forget_27 : decode cX12_forget 27 = .ok (.aload_n 0, 1) := op_42 kcX12_forget (Nat.le_of_ble_eq_true rfl) rfl
theorem dX12_forget_28 : decode cX12_forget 28 = .ok (.getfield 7, 3) := op_180 (a := 0) (b := 7) kcX12_forget (Nat.le_of_ble_eq_true rfl) rfl rfl rfl
theorem dX12_forget_31 : decode cX12_forget 31 = .ok (.bipush 31, 2) := op_16 (a := 31) kcX12_forget (Nat.le_of_ble_eq_true rfl) rfl rfl (by decide)
theorem dX12_forget_33 : decode cX12_forget 33 = .ok (.iload_n 1, 1) := op_27 kcX12_forget (Nat.le_of_ble_eq_true rfl) rfl
theorem dX12_forget_34 : decode cX12_forget 34 = .ok (.iastore, 1) := op_79 kcX12_forget (Nat.le_of_ble_eq_true rfl) rfl
theorem dX12_forget_35 : decode cX12_forget 35 = .ok (.iload_n 2, 1) := op_28 kcX12_forget (Nat.le_of_ble_eq_true rfl) rfl
theorem dX12_forget_36 : decode cX12_forget 36 = .ok (.ireturn, 1) := op_172 kcX12_forget (Nat.le_of_ble_eq_true rfl) rfl
set_option maxRecDepth 20000 in
theorem ggX12_findHistories_X12_then : GoodIn wsX12_findHistories wsX12_then := goodIn_r _ [9, 10, 11, 12, 13, 8, 14, 15, 16, 17, 18, 19, 4, 1, 20, 21, 22, 23, 24, 25, 26, 27, 28, 29, 30, 31, 32, 33, 34, 35, 36, 37, 38, 39, 40, 41, 42, 43, 44, 45, 46, 47, 48, 49, 50, 51, 52, 53, 54, 55, 56, 57, 58, 59] rfl gw_wsX12_then
set_option maxRecDepth 20000 in
theorem gX12_findHistories_X12_then : GoodIn wsX12_findHistories (wsV RX12 233 RX12 yX12_then wsX12_then) := goodIn_app (goodIn_of _ (by decide +kernel)) ggX12_findHistories_X12_then
theorem kcX12_findHistories : (cX12_findHistories).data.toList = cbs 0xb17cffa7ff028488ffa7010384a3ffa70104844f60030400a72e600515603110681c31103c00b42a1500a02e601c20100700b42a70071005152e5c601d681c31103c00b42a0536e900b604151d2a4400a26400b42a6c07101d4f00a26400b42a7007101d5a00a26700b42a04150436034f03601d681c31103c00b42a7800a231101d3e0386009b1c3d64041bebffa70102844f04601c681b31103c00b42a1500a231101c3d033c2e1f100700b42a 174 := by decide +kernel
theorem dX12_findHistories_0 : decode cX12_findHistories 0 = .ok (.aload_n 0, 1) := op_42 kcX12_findHistories (Nat.le_of_ble_eq_true rfl) rfl
theorem dX12_findHistories_1 : decode cX12_findHistories 1 = .ok (.getfield 7, 3) := op_180 (a := 0) (b := 7) kcX12_findHistories (Nat.le_of_ble_eq_true rfl) rfl rfl rfl
theorem dX12_findHistories_4 : decode cX12_findHistories 4 = .ok (.bipush 31, 2) := op_16 (a := 31) kcX12_findHistories (Nat.le_of_ble_eq_true rfl) rfl rfl (by decide)
theorem dX12_findHistories_6 : decode cX12_findHistories 6 = .ok (.iaload, 1) := op_46 kcX12_findHistories (Nat.le_of_ble_eq_true rfl) rfl
theorem dX12_findHistories_7 : decode cX12_findHistories 7 = .ok (.istore_n 1, 1) := op_60 kcX12_findHistories (Nat.le_of_ble_eq_true rfl) rfl
theorem dX12_findHistories_8 : decode cX12_findHistories 8 = .ok (.iconst 0, 1) := op_3 kcX12_findHistories (Nat.le_of_ble_eq_true rfl) rfl
theorem dX12_findHistories_9 : decode cX12_findHistories 9 = .ok (.istore_n 2, 1) := op_61 kcX12_findHistories (Nat.le_of_ble_eq_true rfl) rfl
theorem dX12_findHistories_10 : decode cX12_findHistories 10 = .ok (.iload_n 2, 1) := op_28 kcX12_findHistories (Nat.le_of_ble_eq_true rfl) rfl
theorem dX12_findHistories_11 : decode cX12_findHistories 11 = .ok (.bipush 49, 2) := op_16 (a := 49) kcX12_findHistories (Nat.le_of_ble_eq_true rfl) rfl rfl (by decide)
theorem dX12_findHistories_13 : decode cX12_findHistories 13 = .ok (.if_icmp .ge 21, 3) := op_162 (a := 0) (b := 21) kcX12_findHistories (Nat.le_of_ble_eq_true rfl) rfl rfl rfl (by decide)
theorem dX12_findHistories_16 : decode cX12_findHistories 16 = .ok (.aload_n 0, 1) := op_42 kcX12_findHistories (Nat.le_of_ble_eq_true rfl) rfl
theorem dX12_findHistories_17 : decode cX12_findHistories 17 = .ok (.getfield 60, 3) := op_180 (a := 0) (b := 60) kcX12_findHistories (Nat.le_of_ble_eq_true rfl) rfl rfl rfl
theorem dX12_findHistories_20 : decode cX12_findHistories 20 = .ok (.bipush 49, 2) := op_16 (a := 49) kcX12_findHistories (Nat.le_of_ble_eq_true rfl) rfl rfl (by decide)
theorem dX12_findHistories_22 : decode cX12_findHistories 22 = .ok (.iload_n 1, 1) := op_27 kcX12_findHistories (Nat.le_of_ble_eq_true rfl) rfl
theorem dX12_findHistories_23 : decode cX12_findHistories 23 = .ok (.imul, 1) := op_104 kcX12_findHistories (Nat.le_of_ble_eq_true rfl) rfl
theorem dX12_findHistories_24 : decode cX12_findHistories 24 = .ok (.iload_n 2, 1) := op_28 kcX12_findHistories (Nat.le_of_ble_eq_true rfl) rfl
theorem dX12_findHistories_25 : decode cX12_findHistories 25 = .ok (.iadd, 1) := op_96 kcX12_findHistories (Nat.le_of_ble_eq_true rfl) rfl
theorem dX12_findHistories_26 : decode cX12_findHistories 26 = .ok (.iconst 1, 1) := op_4 kcX12_findHistories (Nat.le_of_ble_eq_true rfl) rfl
theorem dX12_findHistories_27 : decode cX12_findHistories 27 = .ok (.iastore, 1) := op_79 kcX12_findHistories (Nat.le_of_ble_eq_true rfl) rfl
theorem dX12_findHistories_28 : decode cX12_findHistories 28 = .ok (.iinc 2 1, 3) := by decide +kernel
theorem dX12_findHistories_31 : decode cX12_findHistories 31 = .ok (.goto (-21), 3) := op_167 (a := 255) (b := 235) kcX12_findHistories (Nat.le_of_ble_eq_true rfl) rfl rfl rfl (by decide)
theorem dX12_findHistories_34 : decode cX12_findHistories 34 = .ok (.iload_n 1, 1) := op_27 kcX12_findHistories (Nat.le_of_ble_eq_true rfl) rfl
theorem dX12_findHistories_35 : decode cX12_findHistories 35 = .ok (.iconst 1, 1) := op_4 kcX12_findHistories (Nat.le_of_ble_eq_true rfl) rfl
theorem dX12_findHistories_36 : decode cX12_findHistories 36 = .ok (.isub, 1) := op_100 kcX12_findHistories (Nat.le_of_ble_eq_true rfl) rfl
theorem dX12_findHistories_37 : decode cX12_findHistories 37 = .ok (.istore_n 2, 1) := op_61 kcX12_findHistories (Nat.le_of_ble_eq_true rfl) rfl
theorem dX12_findHistories_38 : decode cX12_findHistories 38 = .ok (.iload_n 2, 1) := op_28 kcX12_findHistories (Nat.le_of_ble_eq_true rfl) rfl
theorem dX12_findHistories_39 : decode cX12_findHistories 39 = .ok (.ifCond .lt 134, 3) := op_155 (a := 0) (b := 134) kcX12_findHistories (Nat.le_of_ble_eq_true rfl) rfl rfl rfl (by decide)
theorem dX12_findHistories_42 : decode cX12_findHistories 42 = .ok (.iconst 0, 1) := op_3 kcX12_findHistories (Nat.le_of_ble_eq_true rfl) rfl
theorem dX12_findHistories_43 : decode cX12_findHistories 43 = .ok (.istore_n 3, 1) := op_62 kcX12_findHistories (Nat.le_of_ble_eq_true rfl) rfl
theorem dX12_findHistories_44 : decode cX12_findHistories 44 = .ok (.iload_n 3, 1) := op_29 kcX12_findHistories (Nat.le_of_ble_eq_true rfl) rfl
theorem dX12_findHistories_45 : decode cX12_findHistories 45 = .ok (.bipush 49, 2) := op_16 (a := 49) kcX12_findHistories (Nat.le_of_ble_eq_true rfl) rfl rfl (by decide)
theorem dX12_findHistories_47 : decode cX12_findHistories 47 = .ok (.if_icmp .ge 120, 3) := op_162 (a := 0) (b := 120) kcX12_findHistories (Nat.le_of_ble_eq_true rfl) rfl rfl rfl (by decide)
theorem dX12_findHistories_50 : decode cX12_findHistories 50 = .ok (.aload_n 0, 1) := op_42 kcX12_findHistories (Nat.le_of_ble_eq_true rfl) rfl
theorem dX12_findHistories_51 : decode cX12_findHistories 51 = .ok (.getfield 60, 3) := op_180 (a := 0) (b := 60) kcX12_findHistories (Nat.le_of_ble_eq_true rfl) rfl rfl rfl
theorem dX12_findHistories_54 : decode cX12_findHistories 54 = .ok (.bipush 49, 2) := op_16 (a := 49) kcX12_findHistories (Nat.le_of_ble_eq_true rfl) rfl rfl (by decide)
theorem dX12_findHistories_56 : decode cX12_findHistories 56 = .ok (.iload_n 2, 1) := op_28 kcX12_findHistories (Nat.le_of_ble_eq_true rfl) rfl
theorem dX12_findHistories_57 : decode cX12_findHistories 57 = .ok (.imul, 1) := op_104 kcX12_findHistories (Nat.le_of_ble_eq_true rfl) rfl
theorem dX12_findHistories_58 : decode cX12_findHistories 58 = .ok (.iload_n 3, 1) := op_29 kcX12_findHistories (Nat.le_of_ble_eq_true rfl) rfl
theorem dX12_findHistories_59 : decode cX12_findHistories 59 = .ok (.iadd, 1) := op_96 kcX12_findHistories (Nat.le_of_ble_eq_true rfl) rfl
theorem dX12_findHistories_60 : decode cX12_findHistories 60 = .ok (.iconst 0, 1) := op_3 kcX12_findHistories (Nat.le_of_ble_eq_true rfl) rfl
theorem dX12_findHistories_61 : decode cX12_findHistories 61 = .ok (.iastore, 1) := op_79 kcX12_findHistories (Nat.le_of_ble_eq_true rfl) rfl
theorem dX12_findHistories_62 : decode cX12_findHistories 62 = .ok (.iconst 0, 1) := op_3 kcX12_findHistories (Nat.le_of_ble_eq_true rfl) rfl
theorem dX12_findHistories_63 : decode cX12_findHistories 63 = .ok (.istore 4, 2) := op_54 (a := 4) kcX12_findHistories (Nat.le_of_ble_eq_true rfl) rfl rfl
theorem dX12_findHistories_65 : decode cX12_findHistories 65 = .ok (.iload 4, 2) := op_21 (a := 4) kcX12_findHistories (Nat.le_of_ble_eq_true rfl) rfl rfl
theorem dX12_findHistories_67 : decode cX12_findHistories 67 = .ok (.aload_n 0, 1) := op_42 kcX12_findHistories (Nat.le_of_ble_eq_true rfl) rfl
theorem dX12_findHistories_68 : decode cX12_findHistories 68 = .ok (.getfield 103, 3) := op_180 (a := 0) (b := 103) kcX12_findHistories (Nat.le_of_ble_eq_true rfl) rfl rfl rfl
theorem dX12_findHistories_71 : decode cX12_findHistories 71 = .ok (.if_icmp .ge 90, 3) := op_162 (a := 0) (b := 90) kcX12_findHistories (Nat.le_of_ble_eq_true rfl) rfl rfl rfl (by decide)
theorem dX12_findHistories_74 : decode cX12_findHistories 74 = .ok (.iload_n 3, 1) := op_29 kcX12_findHistories (Nat.le_of_ble_eq_true rfl) rfl
theorem dX12_findHistories_75 : decode cX12_findHistories 75 = .ok (.bipush 7, 2) := op_16 (a := 7) kcX12_findHistories (Nat.le_of_ble_eq_true rfl) rfl rfl (by decide)
theorem dX12_findHistories_77 : decode cX12_findHistories 77 = .ok (.irem, 1) := op_112 kcX12_findHistories (Nat.le_of_ble_eq_true rfl) rfl
theorem dX12_findHistories_78 : decode cX12_findHistories 78 = .ok (.aload_n 0, 1) := op_42 kcX12_findHistories (Nat.le_of_ble_eq_true rfl) rfl
theorem dX12_findHistories_79 : decode cX12_findHistories 79 = .ok (.getfield 100, 3) := op_180 (a := 0) (b := 100) kcX12_findHistories (Nat.le_of_ble_eq_true rfl) rfl rfl rfl
theorem dX12_findHistories_82 : decode cX12_findHistories 82 = .ok (.if_icmp .ge 79, 3) := op_162 (a := 0) (b := 79) kcX12_findHistories (Nat.le_of_ble_eq_true rfl) rfl rfl rfl (by decide)
theorem dX12_findHistories_85 : decode cX12_findHistories 85 = .ok (.iload_n 3, 1) := op_29 kcX12_findHistories (Nat.le_of_ble_eq_true rfl) rfl
theorem dX12_findHistories_86 : decode cX12_findHistories 86 = .ok (.bipush 7, 2) := op_16 (a := 7) kcX12_findHistories (Nat.le_of_ble_eq_true rfl) rfl rfl (by decide)
theorem dX12_findHistories_88 : decode cX12_findHistories 88 = .ok (.idiv, 1) := op_108 kcX12_findHistories (Nat.le_of_ble_eq_true rfl) rfl
theorem dX12_findHistories_89 : decode cX12_findHistories 89 = .ok (.aload_n 0, 1) := op_42 kcX12_findHistories (Nat.le_of_ble_eq_true rfl) rfl
theorem dX12_findHistories_90 : decode cX12_findHistories 90 = .ok (.getfield 100, 3) := op_180 (a := 0) (b := 100) kcX12_findHistories (Nat.le_of_ble_eq_true rfl) rfl rfl rfl
theorem dX12_findHistories_93 : decode cX12_findHistories 93 = .ok (.if_icmp .ge 68, 3) := op_162 (a := 0) (b := 68) kcX12_findHistories (Nat.le_of_ble_eq_true rfl) rfl rfl rfl (by decide)
theorem dX12_findHistories_96 : decode cX12_findHistories 96 = .ok (.aload_n 0, 1) := op_42 kcX12_findHistories (Nat.le_of_ble_eq_true rfl) rfl
theorem dX12_findHistories_97 : decode cX12_findHistories 97 = .ok (.iload_n 3, 1) := op_29 kcX12_findHistories (Nat.le_of_ble_eq_true rfl) rfl
theorem dX12_findHistories_98 : decode cX12_findHistories 98 = .ok (.iload 4, 2) := op_21 (a := 4) kcX12_findHistories (Nat.le_of_ble_eq_true rfl) rfl rfl
theorem dX12_findHistories_100 : decode cX12_findHistories 100 = .ok (.invokevirtual 233, 3) := op_182 (a := 0) (b := 233) kcX12_findHistories (Nat.le_of_ble_eq_true rfl) rfl rfl rfl
theorem dX12_findHistories_103 : decode cX12_findHistories 103 = .ok (.istore 5, 2) := op_54 (a := 5) kcX12_findHistories (Nat.le_of_ble_eq_true rfl) rfl rfl
theorem dX12_findHistories_105 : decode cX12_findHistories 105 = .ok (.aload_n 0, 1) := op_42 kcX12_findHistories (Nat.le_of_ble_eq_true rfl) rfl
theorem dX12_findHistories_106 : decode cX12_findHistories 106 = .ok (.getfield 60, 3) := op_180 (a := 0) (b := 60) kcX12_findHistories (Nat.le_of_ble_eq_true rfl) rfl rfl rfl
theorem dX12_findHistories_109 : decode cX12_findHistories 109 = .ok (.bipush 49, 2) := op_16 (a := 49) kcX12_findHistories (Nat.le_of_ble_eq_true rfl) rfl rfl (by decide)
theorem dX12_findHistories_111 : decode cX12_findHistories 111 = .ok (.iload_n 2, 1) := op_28 kcX12_findHistories (Nat.le_of_ble_eq_true rfl) rfl
theorem dX12_findHistories_112 : decode cX12_findHistories 112 = .ok (.imul, 1) := op_104 kcX12_findHistories (Nat.le_of_ble_eq_true rfl) rfl
theorem dX12_findHistories_113 : decode cX12_findHistories 113 = .ok (.iload_n 3, 1) := op_29 kcX12_findHistories (Nat.le_of_ble_eq_true rfl) rfl
theorem dX12_findHistories_114 : decode cX12_findHistories 114 = .ok (.iadd, 1) := op_96 kcX12_findHistories (Nat.le_of_ble_eq_true rfl) rfl
theorem dX12_findHistories_115 : decode cX12_findHistories 115 = .ok (.dup2, 1) := op_92 kcX12_findHistories (Nat.le_of_ble_eq_true rfl) rfl
theorem dX12_findHistories_116 : decode cX12_findHistories 116 = .ok (.iaload, 1) := op_46 kcX12_findHistories (Nat.le_of_ble_eq_true rfl) rfl
theorem dX12_findHistories_117 : decode cX12_findHistories 117 = .ok (.iload 5, 2) := op_21 (a := 5) kcX12_findHistories (Nat.le_of_ble_eq_true rfl) rfl rfl
theorem dX12_findHistories_119 : decode cX12_findHistories 119 = .ok (.bipush 7, 2) := op_16 (a := 7) kcX12_findHistories (Nat.le_of_ble_eq_true rfl) rfl rfl (by decide)
theorem dX12_findHistories_121 : decode cX12_findHistories 121 = .ok (.irem, 1) := op_112 kcX12_findHistories (Nat.le_of_ble_eq_true rfl) rfl
theorem dX12_findHistories_122 : decode cX12_findHistories 122 = .ok (.aload_n 0, 1) := op_42 kcX12_findHistories (Nat.le_of_ble_eq_true rfl) rfl
theorem dX12_findHistories_123 : decode cX12_findHistories 123 = .ok (.getfield 7, 3) := op_180 (a := 0) (b := 7) kcX12_findHistories (Nat.le_of_ble_eq_true rfl) rfl rfl rfl
theorem dX12_findHistories_126 : decode cX12_findHistories 126 = .ok (.bipush 32, 2) := op_16 (a := 32) kcX12_findHistories (Nat.le_of_ble_eq_true rfl) rfl rfl (by decide)
theorem dX12_findHistories_128 : decode cX12_findHistories 128 = .ok (.iload_n 2, 1) := op_28 kcX12_findHistories (Nat.le_of_ble_eq_true rfl) rfl
theorem dX12_findHistories_129 : decode cX12_findHistories 129 = .ok (.iadd, 1) := op_96 kcX12_findHistories (Nat.le_of_ble_eq_true rfl) rfl
theorem dX12_findHistories_130 : decode cX12_findHistories 130 = .ok (.iaload, 1) := op_46 kcX12_findHistories (Nat.le_of_ble_eq_true rfl) rfl
theorem dX12_findHistories_131 : decode cX12_findHistories 131 = .ok (.if_icmp .ne 21, 3) := op_160 (a := 0) (b := 21) kcX12_findHistories (Nat.le_of_ble_eq_true rfl) rfl rfl rfl (by decide)
theorem dX12_findHistories_134 : decode cX12_findHistories 134 = .ok (.aload_n 0, 1) := op_42 kcX12_findHistories (Nat.le_of_ble_eq_true rfl) rfl
theorem dX12_findHistories_135 : decode cX12_findHistories 135 = .ok (.getfield 60, 3) := op_180 (a := 0) (b := 60) kcX12_findHistories (Nat.le_of_ble_eq_true rfl) rfl rfl rfl
theorem dX12_findHistories_138 : decode cX12_findHistories 138 = .ok (.bipush 49, 2) := op_16 (a := 49) kcX12_findHistories (Nat.le_of_ble_eq_true rfl) rfl rfl (by decide)
theorem dX12_findHistories_140 : decode cX12_findHistories 140 = .ok (.iload_n 2, 1) := op_28 kcX12_findHistories (Nat.le_of_ble_eq_true rfl) rfl
theorem dX12_findHistories_141 : decode cX12_findHistories 141 = .ok (.imul, 1) := op_104 kcX12_findHistories (Nat.le_of_ble_eq_true rfl) rfl
theorem dX12_findHistories_142 : decode cX12_findHistories 142 = .ok (.bipush 49, 2) := op_16 (a := 49) kcX12_findHistories (Nat.le_of_ble_eq_true rfl) rfl rfl (by decide)
theorem dX12_findHistories_144 : decode cX12_findHistories 144 = .ok (.iadd, 1) := op_96 kcX12_findHistories (Nat.le_of_ble_eq_true rfl) rfl
theorem dX12_findHistories_145 : decode cX12_findHistories 145 = .ok (.iload 5, 2) := op_21 (a := 5) kcX12_findHistories (Nat.le_of_ble_eq_true rfl) rfl rfl
theorem dX12_findHistories_147 : decode cX12_findHistories 147 = .ok (.iadd, 1) := op_96 kcX12_findHistories (Nat.le_of_ble_eq_true rfl) rfl
theorem dX12_findHistories_148 : decode cX12_findHistories 148 = .ok (.iaload, 1) := op_46 kcX12_findHistories (Nat.le_of_ble_eq_true rfl) rfl
theorem dX12_findHistories_149 : decode cX12_findHistories 149 = .ok (.goto 4, 3) := op_167 (a := 0) (b := 4) kcX12_findHistories (Nat.le_of_ble_eq_true rfl) rfl rfl rfl (by decide)
theorem dX12_findHistories_152 : decode cX12_findHistories 152 = .ok (.iconst 0, 1) := op_3 kcX12_findHistories (Nat.le_of_ble_eq_true rfl) rfl
theorem dX12_findHistories_153 : decode cX12_findHistories 153 = .ok (.iadd, 1) := op_96 kcX12_findHistories (Nat.le_of_ble_eq_true rfl) rfl
theorem dX12_findHistories_154 : decode cX12_findHistories 154 = .ok (.iastore, 1) := op_79 kcX12_findHistories (Nat.le_of_ble_eq_true rfl) rfl
theorem dX12_findHistories_155 : decode cX12_findHistories 155 = .ok (.iinc 4 1, 3) := by decide +kernel
theorem dX12_findHistories_158 : decode cX12_findHistories 158 = .ok (.goto (-93), 3) := op_167 (a := 255) (b := 163) kcX12_findHistories (Nat.le_of_ble_eq_true rfl) rfl rfl rfl (by decide)
theorem dX12_findHistories_161 : decode cX12_findHistories 161 = .ok (.iinc 3 1, 3) := by decide +kernel
theorem dX12_findHistories_164 : decode cX12_findHistories 164 = .ok (.goto (-120), 3) := op_167 (a := 255) (b := 136) kcX12_findHistories (Nat.le_of_ble_eq_true rfl) rfl rfl rfl (by decide)
theorem dX12_findHistories_167 : decode cX12_findHistories 167 = .ok (.iinc 2 (-1), 3) := by decide +kernel
theorem dX12_findHistories_170 : decode cX12_findHistories 170 = .ok (.goto (-132), 3) := op_167 (a := 255) (b := 124) kcX12_findHistories (Nat.le_of_ble_eq_true rfl) rfl rfl rfl (by decide)
theorem dX12_findHistories_173 : decode cX12_findHistories 173 = .ok (.return_, 1) := op_177 kcX12_findHistories (Nat.le_of_ble_eq_true rfl) rfl
set_option maxRecDepth 20000 in
theorem ggX12_canGo_X12_then : GoodIn wsX12_canGo wsX12_then := goodIn_r _ [7, 8, 9, 10, 11, 6, 12, 13, 14, 15, 16, 17, 18, 1, 19, 20, 21, 22, 23, 24, 25, 26, 27, 28, 29, 30, 31, 32, 33, 34, 35, 36, 37, 38, 39, 40, 41, 42, 43, 44, 45, 46, 47, 48, 49, 50, 51, 52, 53, 54, 55, 56, 57, 58] rfl gw_wsX12_then
set_option maxRecDepth 20000 in
theorem gX12_canGo_X12_then : GoodIn wsX12_canGo (wsV RX12 233 RX12 yX12_then wsX12_then) := goodIn_app (goodIn_of _ (by decide +kernel)) ggX12_canGo_X12_then
theorem kcX12_canGo : (cX12_canGo).data.toList = cbs 0xac030400a70407009e2e600415603110681b31103c00b42a1900a02e601b20100700b42a70071004150436e900b61d1c2a 49 := by decide +kernel
theorem dX12_canGo_0 : decode cX12_canGo 0 = .ok (.aload_n 0, 1) := op_42 kcX12_canGo (Nat.le_of_ble_eq_true rfl) rfl
theorem dX12_canGo_1 : decode cX12_canGo 1 = .ok (.iload_n 2, 1) := op_28 kcX12_canGo (Nat.le_of_ble_eq_true rfl) rfl
theorem dX12_canGo_2 : decode cX12_canGo 2 = .ok (.iload_n 3, 1) := op_29 kcX12_canGo (Nat.le_of_ble_eq_true rfl) rfl
theorem dX12_canGo_3 : decode cX12_canGo 3 = .ok (.invokevirtual 233, 3) := op_182 (a := 0) (b := 233) kcX12_canGo (Nat.le_of_ble_eq_true rfl) rfl rfl rfl
theorem dX12_canGo_6 : decode cX12_canGo 6 = .ok (.istore 4, 2) := op_54 (a := 4) kcX12_canGo (Nat.le_of_ble_eq_true rfl) rfl rfl
theorem dX12_canGo_8 : decode cX12_canGo 8 = .ok (.iload 4, 2) := op_21 (a := 4) kcX12_canGo (Nat.le_of_ble_eq_true rfl) rfl rfl
theorem dX12_canGo_10 : decode cX12_canGo 10 = .ok (.bipush 7, 2) := op_16 (a := 7) kcX12_canGo (Nat.le_of_ble_eq_true rfl) rfl rfl (by decide)
theorem dX12_canGo_12 : decode cX12_canGo 12 = .ok (.irem, 1) := op_112 kcX12_canGo (Nat.le_of_ble_eq_true rfl) rfl
theorem dX12_canGo_13 : decode cX12_canGo 13 = .ok (.aload_n 0, 1) := op_42 kcX12_canGo (Nat.le_of_ble_eq_true rfl) rfl
theorem dX12_canGo_14 : decode cX12_canGo 14 = .ok (.getfield 7, 3) := op_180 (a := 0) (b := 7) kcX12_canGo (Nat.le_of_ble_eq_true rfl) rfl rfl rfl
theorem dX12_canGo_17 : decode cX12_canGo 17 = .ok (.bipush 32, 2) := op_16 (a := 32) kcX12_canGo (Nat.le_of_ble_eq_true rfl) rfl rfl (by decide)
theorem dX12_canGo_19 : decode cX12_canGo 19 = .ok (.iload_n 1, 1) := op_27 kcX12_canGo (Nat.le_of_ble_eq_true rfl) rfl
theorem dX12_canGo_20 : decode cX12_canGo 20 = .ok (.iadd, 1) := op_96 kcX12_canGo (Nat.le_of_ble_eq_true rfl) rfl
theorem dX12_canGo_21 : decode cX12_canGo 21 = .ok (.iaload, 1) := op_46 kcX12_canGo (Nat.le_of_ble_eq_true rfl) rfl
theorem dX12_canGo_22 : decode cX12_canGo 22 = .ok (.if_icmp .ne 25, 3) := op_160 (a := 0) (b := 25) kcX12_canGo (Nat.le_of_ble_eq_true rfl) rfl rfl rfl (by decide)
theorem dX12_canGo_25 : decode cX12_canGo 25 = .ok (.aload_n 0, 1) := op_42 kcX12_canGo (Nat.le_of_ble_eq_true rfl) rfl
theorem dX12_canGo_26 : decode cX12_canGo 26 = .ok (.getfield 60, 3) := op_180 (a := 0) (b := 60) kcX12_canGo (Nat.le_of_ble_eq_true rfl) rfl rfl rfl
theorem dX12_canGo_29 : decode cX12_canGo 29 = .ok (.bipush 49, 2) := op_16 (a := 49) kcX12_canGo (Nat.le_of_ble_eq_true rfl) rfl rfl (by decide)
theorem dX12_canGo_31 : decode cX12_canGo 31 = .ok (.iload_n 1, 1) := op_27 kcX12_canGo (Nat.le_of_ble_eq_true rfl) rfl
theorem dX12_canGo_32 : decode cX12_canGo 32 = .ok (.imul, 1) := op_104 kcX12_canGo (Nat.le_of_ble_eq_true rfl) rfl
theorem dX12_canGo_33 : decode cX12_canGo 33 = .ok (.bipush 49, 2) := op_16 (a := 49) kcX12_canGo (Nat.le_of_ble_eq_true rfl) rfl rfl (by decide)
theorem dX12_canGo_35 : decode cX12_canGo 35 = .ok (.iadd, 1) := op_96 kcX12_canGo (Nat.le_of_ble_eq_true rfl) rfl
theorem dX12_canGo_36 : decode cX12_canGo 36 = .ok (.iload 4, 2) := op_21 (a := 4) kcX12_canGo (Nat.le_of_ble_eq_true rfl) rfl rfl
theorem dX12_canGo_38 : decode cX12_canGo 38 = .ok (.iadd, 1) := op_96 kcX12_canGo (Nat.le_of_ble_eq_true rfl) rfl
theorem dX12_canGo_39 : decode cX12_canGo 39 = .ok (.iaload, 1) := op_46 kcX12_canGo (Nat.le_of_ble_eq_true rfl) rfl
theorem dX12_canGo_40 : decode cX12_canGo 40 = .ok (.ifCond .le 7, 3) := op_158 (a := 0) (b := 7) kcX12_canGo (Nat.le_of_ble_eq_true rfl) rfl rfl rfl (by decide)
theorem dX12_canGo_43 : decode cX12_canGo 43 = .ok (.iconst 1, 1) := op_4 kcX12_canGo (Nat.le_of_ble_eq_true rfl) rfl
theorem dX12_canGo_44 : decode cX12_canGo 44 = .ok (.goto 4, 3) := op_167 (a := 0) (b := 4) kcX12_canGo (Nat.le_of_ble_eq_true rfl) rfl rfl rfl (by decide)
theorem dX12_canGo_47 : decode cX12_canGo 47 = .ok (.iconst 0, 1) := op_3 kcX12_canGo (Nat.le_of_ble_eq_true rfl) rfl
theorem dX12_canGo_48 : decode cX12_canGo 48 = .ok (.ireturn, 1) := op_172 kcX12_canGo (Nat.le_of_ble_eq_true rfl) rfl
set_option maxRecDepth 20000 in
theorem ggX12_histories_X12_in : GoodIn wsX12_histories wsX12_in := goodIn_r _ [9] rfl gw_wsX12_in
set_option maxRecDepth 20000 in
theorem gX12_histories_X12_in : GoodIn wsX12_histories (va_wsS RX12 115 yX12_in wsX12_in) := goodIn_app (goodIn_of _ (by decide +kernel)) ggX12_histories_X12_in
set_option maxRecDepth 20000 in
theorem gw_wsX12_findHistories : (wsX12_findHistories).all goodWord = true := by decide +kernel
set_option maxRecDepth 20000 in
theorem ggX12_histories_X12_findHistories : GoodIn wsX12_histories wsX12_findHistories := goodIn_r _ [13, 4, 3, 5, 14, 15, 16, 17, 8, 18, 19, 20, 21, 22, 23, 24, 25, 26, 27, 28, 29, 30, 31, 40, 41, 42, 43, 44, 45, 46, 47, 48, 49, 50, 51, 52, 53, 54, 55, 56, 57, 58, 59, 60, 61, 62, 63, 64, 65, 66, 67, 68, 69, 70, 71, 72, 73, 74, 75, 76] rfl gw_wsX12_findHistories
set_option maxRecDepth 20000 in
theorem gX12_histories_X12_findHistories : GoodIn wsX12_histories (wsV RX12 290 RX12 yX12_findHistories wsX12_findHistories) := goodIn_app (goodIn_of _ (by decide +kernel)) ggX12_histories_X12_findHistories
set_option maxRecDepth 20000 in
theorem ggX12_histories_X12_stateNow : GoodIn wsX12_histories wsX12_stateNow := goodIn_r _ [35, 4, 40, 41, 42, 43, 44, 45, 46, 47, 48, 49, 50, 51, 52, 53, 54, 55, 56, 57, 58, 59, 60, 61, 62, 63, 64, 65, 66, 67, 68, 69, 70, 71, 72, 73, 74, 75, 76] rfl gw_wsX12_stateNow
set_option maxRecDepth 20000 in
theorem gX12_histories_X12_stateNow : GoodIn wsX12_histories (wsV RX12 268 RX12 yX12_stateNow wsX12_stateNow) := goodIn_app (goodIn_of _ (by decide +kernel)) ggX12_histories_X12_stateNow
set_option maxRecDepth 20000 in
theorem gw_wsX12_canGo : (wsX12_canGo).all goodWord = true := by decide +kernel
set_option maxRecDepth 20000 in
theorem ggX12_histories_X12_canGo : GoodIn wsX12_histories wsX12_canGo := goodIn_r _ [39, 4, 3, 15, 16, 17, 8, 18, 19, 20, 21, 22, 23, 24, 25, 26, 27, 28, 14, 29, 30, 31, 40, 41, 42, 43, 44, 45, 46, 47, 48, 49, 50, 51, 52, 53, 54, 55, 56, 57, 58, 59, 60, 61, 62, 63, 64, 65, 66, 67, 68, 69, 70, 71, 72, 73, 74, 75, 76] rfl gw_wsX12_canGo
set_option maxRecDepth 20000 in
theorem gX12_histories_X12_canGo : GoodIn wsX12_histories (wsV RX12 293 RX12 yX12_canGo wsX12_canGo) := goodIn_app (goodIn_of _ (by decide +kernel)) ggX12_histories_X12_canGo
set_option maxRecDepth 20000 in
theorem ggX12_histories_X12_then : GoodIn wsX12_histories wsX12_then := goodIn_r _ [18, 19, 20, 21, 22, 8, 23, 24, 25, 26, 27, 28, 14, 4, 29, 30, 31, 40, 41, 42, 43, 44, 45, 46, 47, 48, 49, 50, 51, 52, 53, 54, 55, 56, 57, 58, 59, 60, 61, 62, 63, 64, 65, 66, 67, 68, 69, 70, 71, 72, 73, 74, 75, 76] rfl gw_wsX12_then
set_option maxRecDepth 20000 in
theorem gX12_histories_X12_then : GoodIn wsX12_histories (wsV RX12 233 RX12 yX12_then wsX12_then) := goodIn_app (goodIn_of _ (by decide +kernel)) ggX12_histories_X12_then
theorem kcX12_histories : (cX12_histories).data.toList = cbs 0xac1dc4ffa70104843de900b61d1c2ae5ffa7ff05843e1d0400a705150800992501b605151c04152a1c009b0515053664046700b42a3efc103900a3640a101b04150436033efc10acfc100600a12e1f100700b42a640a101b1100992e1c3c00b42aac2e1c3c00b42a0a009a1b3d0c01b62a2201b62aac0205009a7300b8200114ec0014851b1300991b 137 := by decide +kernel
theorem dX12_histories_0 : decode cX12_histories 0 = .ok (.iload_n 1, 1) := op_27 kcX12_histories (Nat.le_of_ble_eq_true rfl) rfl
theorem dX12_histories_1 : decode cX12_histories 1 = .ok (.ifCond .eq 19, 3) := op_153 (a := 0) (b := 19) kcX12_histories (Nat.le_of_ble_eq_true rfl) rfl rfl rfl (by decide)
theorem dX12_histories_4 : decode cX12_histories 4 = .ok (.iload_n 1, 1) := op_27 kcX12_histories (Nat.le_of_ble_eq_true rfl) rfl
theorem dX12_histories_5 : decode cX12_histories 5 = .ok (.i2l, 1) := op_133 kcX12_histories (Nat.le_of_ble_eq_true rfl) rfl
theorem dX12_histories_6 : decode cX12_histories 6 = .ok (.ldc2_w 236, 3) := op_20 (a := 0) (b := 236) kcX12_histories (Nat.le_of_ble_eq_true rfl) rfl rfl rfl
theorem dX12_histories_9 : decode cX12_histories 9 = .ok (.ldc2_w 288, 3) := op_20 (a := 1) (b := 32) kcX12_histories (Nat.le_of_ble_eq_true rfl) rfl rfl rfl
theorem dX12_histories_12 : decode cX12_histories 12 = .ok (.invokestatic 115, 3) := op_184 (a := 0) (b := 115) kcX12_histories (Nat.le_of_ble_eq_true rfl) rfl rfl rfl
theorem dX12_histories_15 : decode cX12_histories 15 = .ok (.ifCond .ne 5, 3) := op_154 (a := 0) (b := 5) kcX12_histories (Nat.le_of_ble_eq_true rfl) rfl rfl rfl (by decide)
theorem dX12_histories_18 : decode cX12_histories 18 = .ok (.iconst (-1), 1) := op_2 kcX12_histories (Nat.le_of_ble_eq_true rfl) rfl
theorem dX12_histories_19 : decode cX12_histories 19 = .ok (.ireturn, 1) := op_172 kcX12_histories (Nat.le_of_ble_eq_true rfl) rfl
theorem dX12_histories_20 : decode cX12_histories 20 = .ok (.aload_n 0, 1) := op_42 kcX12_histories (Nat.le_of_ble_eq_true rfl) rfl
theorem dX12_histories_21 : decode cX12_histories 21 = .ok (.invokevirtual 290, 3) := op_182 (a := 1) (b := 34) kcX12_histories (Nat.le_of_ble_eq_true rfl) rfl rfl rfl
theorem dX12_histories_24 : decode cX12_histories 24 = .ok (.aload_n 0, 1) := op_42 kcX12_histories (Nat.le_of_ble_eq_true rfl) rfl
theorem dX12_histories_25 : decode cX12_histories 25 = .ok (.invokevirtual 268, 3) := op_182 (a := 1) (b := 12) kcX12_histories (Nat.le_of_ble_eq_true rfl) rfl rfl rfl
theorem dX12_histories_28 : decode cX12_histories 28 = .ok (.istore_n 2, 1) := op_61 kcX12_histories (Nat.le_of_ble_eq_true rfl) rfl
theorem dX12_histories_29 : decode cX12_histories 29 = .ok (.iload_n 1, 1) := op_27 kcX12_histories (Nat.le_of_ble_eq_true rfl) rfl
theorem dX12_histories_30 : decode cX12_histories 30 = .ok (.ifCond .ne 10, 3) := op_154 (a := 0) (b := 10) kcX12_histories (Nat.le_of_ble_eq_true rfl) rfl rfl rfl (by decide)
theorem dX12_histories_33 : decode cX12_histories 33 = .ok (.aload_n 0, 1) := op_42 kcX12_histories (Nat.le_of_ble_eq_true rfl) rfl
theorem dX12_histories_34 : decode cX12_histories 34 = .ok (.getfield 60, 3) := op_180 (a := 0) (b := 60) kcX12_histories (Nat.le_of_ble_eq_true rfl) rfl rfl rfl
theorem dX12_histories_37 : decode cX12_histories 37 = .ok (.iload_n 2, 1) := op_28 kcX12_histories (Nat.le_of_ble_eq_true rfl) rfl
theorem dX12_histories_38 : decode cX12_histories 38 = .ok (.iaload, 1) := op_46 kcX12_histories (Nat.le_of_ble_eq_true rfl) rfl
theorem dX12_histories_39 : decode cX12_histories 39 = .ok (.ireturn, 1) := op_172 kcX12_histories (Nat.le_of_ble_eq_true rfl) rfl
theorem dX12_histories_40 : decode cX12_histories 40 = .ok (.aload_n 0, 1) := op_42 kcX12_histories (Nat.le_of_ble_eq_true rfl) rfl
theorem dX12_histories_41 : decode cX12_histories 41 = .ok (.getfield 60, 3) := op_180 (a := 0) (b := 60) kcX12_histories (Nat.le_of_ble_eq_true rfl) rfl rfl rfl
theorem dX12_histories_44 : decode cX12_histories 44 = .ok (.iload_n 2, 1) := op_28 kcX12_histories (Nat.le_of_ble_eq_true rfl) rfl
theorem dX12_histories_45 : decode cX12_histories 45 = .ok (.iaload, 1) := op_46 kcX12_histories (Nat.le_of_ble_eq_true rfl) rfl
theorem dX12_histories_46 : decode cX12_histories 46 = .ok (.ifCond .eq 17, 3) := op_153 (a := 0) (b := 17) kcX12_histories (Nat.le_of_ble_eq_true rfl) rfl rfl rfl (by decide)
theorem dX12_histories_49 : decode cX12_histories 49 = .ok (.iload_n 1, 1) := op_27 kcX12_histories (Nat.le_of_ble_eq_true rfl) rfl
theorem dX12_histories_50 : decode cX12_histories 50 = .ok (.bipush 10, 2) := op_16 (a := 10) kcX12_histories (Nat.le_of_ble_eq_true rfl) rfl rfl (by decide)
theorem dX12_histories_52 : decode cX12_histories 52 = .ok (.isub, 1) := op_100 kcX12_histories (Nat.le_of_ble_eq_true rfl) rfl
theorem dX12_histories_53 : decode cX12_histories 53 = .ok (.aload_n 0, 1) := op_42 kcX12_histories (Nat.le_of_ble_eq_true rfl) rfl
theorem dX12_histories_54 : decode cX12_histories 54 = .ok (.getfield 7, 3) := op_180 (a := 0) (b := 7) kcX12_histories (Nat.le_of_ble_eq_true rfl) rfl rfl rfl
theorem dX12_histories_57 : decode cX12_histories 57 = .ok (.bipush 31, 2) := op_16 (a := 31) kcX12_histories (Nat.le_of_ble_eq_true rfl) rfl rfl (by decide)
theorem dX12_histories_59 : decode cX12_histories 59 = .ok (.iaload, 1) := op_46 kcX12_histories (Nat.le_of_ble_eq_true rfl) rfl
theorem dX12_histories_60 : decode cX12_histories 60 = .ok (.if_icmp .lt 6, 3) := op_161 (a := 0) (b := 6) kcX12_histories (Nat.le_of_ble_eq_true rfl) rfl rfl rfl (by decide)
theorem dX12_histories_63 : decode cX12_histories 63 = .ok (.bipush (-4), 2) := op_16 (a := 252) kcX12_histories (Nat.le_of_ble_eq_true rfl) rfl rfl (by decide)
theorem dX12_histories_65 : decode cX12_histories 65 = .ok (.ireturn, 1) := op_172 kcX12_histories (Nat.le_of_ble_eq_true rfl) rfl
theorem dX12_histories_66 : decode cX12_histories 66 = .ok (.bipush (-4), 2) := op_16 (a := 252) kcX12_histories (Nat.le_of_ble_eq_true rfl) rfl rfl (by decide)
theorem dX12_histories_68 : decode cX12_histories 68 = .ok (.istore_n 3, 1) := op_62 kcX12_histories (Nat.le_of_ble_eq_true rfl) rfl
theorem dX12_histories_69 : decode cX12_histories 69 = .ok (.iconst 0, 1) := op_3 kcX12_histories (Nat.le_of_ble_eq_true rfl) rfl
theorem dX12_histories_70 : decode cX12_histories 70 = .ok (.istore 4, 2) := op_54 (a := 4) kcX12_histories (Nat.le_of_ble_eq_true rfl) rfl rfl
theorem dX12_histories_72 : decode cX12_histories 72 = .ok (.iload 4, 2) := op_21 (a := 4) kcX12_histories (Nat.le_of_ble_eq_true rfl) rfl rfl
theorem dX12_histories_74 : decode cX12_histories 74 = .ok (.iload_n 1, 1) := op_27 kcX12_histories (Nat.le_of_ble_eq_true rfl) rfl
theorem dX12_histories_75 : decode cX12_histories 75 = .ok (.bipush 10, 2) := op_16 (a := 10) kcX12_histories (Nat.le_of_ble_eq_true rfl) rfl rfl (by decide)
theorem dX12_histories_77 : decode cX12_histories 77 = .ok (.isub, 1) := op_100 kcX12_histories (Nat.le_of_ble_eq_true rfl) rfl
theorem dX12_histories_78 : decode cX12_histories 78 = .ok (.if_icmp .gt 57, 3) := op_163 (a := 0) (b := 57) kcX12_histories (Nat.le_of_ble_eq_true rfl) rfl rfl rfl (by decide)
theorem dX12_histories_81 : decode cX12_histories 81 = .ok (.bipush (-4), 2) := op_16 (a := 252) kcX12_histories (Nat.le_of_ble_eq_true rfl) rfl rfl (by decide)
theorem dX12_histories_83 : decode cX12_histories 83 = .ok (.istore_n 3, 1) := op_62 kcX12_histories (Nat.le_of_ble_eq_true rfl) rfl
theorem dX12_histories_84 : decode cX12_histories 84 = .ok (.aload_n 0, 1) := op_42 kcX12_histories (Nat.le_of_ble_eq_true rfl) rfl
theorem dX12_histories_85 : decode cX12_histories 85 = .ok (.getfield 103, 3) := op_180 (a := 0) (b := 103) kcX12_histories (Nat.le_of_ble_eq_true rfl) rfl rfl rfl
theorem dX12_histories_88 : decode cX12_histories 88 = .ok (.iconst 1, 1) := op_4 kcX12_histories (Nat.le_of_ble_eq_true rfl) rfl
theorem dX12_histories_89 : decode cX12_histories 89 = .ok (.isub, 1) := op_100 kcX12_histories (Nat.le_of_ble_eq_true rfl) rfl
theorem dX12_histories_90 : decode cX12_histories 90 = .ok (.istore 5, 2) := op_54 (a := 5) kcX12_histories (Nat.le_of_ble_eq_true rfl) rfl rfl
theorem dX12_histories_92 : decode cX12_histories 92 = .ok (.iload 5, 2) := op_21 (a := 5) kcX12_histories (Nat.le_of_ble_eq_true rfl) rfl rfl
theorem dX12_histories_94 : decode cX12_histories 94 = .ok (.ifCond .lt 28, 3) := op_155 (a := 0) (b := 28) kcX12_histories (Nat.le_of_ble_eq_true rfl) rfl rfl rfl (by decide)
theorem dX12_histories_97 : decode cX12_histories 97 = .ok (.aload_n 0, 1) := op_42 kcX12_histories (Nat.le_of_ble_eq_true rfl) rfl
theorem dX12_histories_98 : decode cX12_histories 98 = .ok (.iload 4, 2) := op_21 (a := 4) kcX12_histories (Nat.le_of_ble_eq_true rfl) rfl rfl
theorem dX12_histories_100 : decode cX12_histories 100 = .ok (.iload_n 2, 1) := op_28 kcX12_histories (Nat.le_of_ble_eq_true rfl) rfl
theorem dX12_histories_101 : decode cX12_histories 101 = .ok (.iload 5, 2) := op_21 (a := 5) kcX12_histories (Nat.le_of_ble_eq_true rfl) rfl rfl
theorem dX12_histories_103 : decode cX12_histories 103 = .ok (.invokevirtual 293, 3) := op_182 (a := 1) (b := 37) kcX12_histories (Nat.le_of_ble_eq_true rfl) rfl rfl rfl
theorem dX12_histories_106 : decode cX12_histories 106 = .ok (.ifCond .eq 8, 3) := op_153 (a := 0) (b := 8) kcX12_histories (Nat.le_of_ble_eq_true rfl) rfl rfl rfl (by decide)
theorem dX12_histories_109 : decode cX12_histories 109 = .ok (.iload 5, 2) := op_21 (a := 5) kcX12_histories (Nat.le_of_ble_eq_true rfl) rfl rfl
theorem dX12_histories_111 : decode cX12_histories 111 = .ok (.goto 4, 3) := op_167 (a := 0) (b := 4) kcX12_histories (Nat.le_of_ble_eq_true rfl) rfl rfl rfl (by decide)
theorem dX12_histories_114 : decode cX12_histories 114 = .ok (.iload_n 3, 1) := op_29 kcX12_histories (Nat.le_of_ble_eq_true rfl) rfl
theorem dX12_histories_115 : decode cX12_histories 115 = .ok (.istore_n 3, 1) := op_62 kcX12_histories (Nat.le_of_ble_eq_true rfl) rfl
theorem dX12_histories_116 : decode cX12_histories 116 = .ok (.iinc 5 (-1), 3) := by decide +kernel
theorem dX12_histories_119 : decode cX12_histories 119 = .ok (.goto (-27), 3) := op_167 (a := 255) (b := 229) kcX12_histories (Nat.le_of_ble_eq_true rfl) rfl rfl rfl (by decide)
theorem dX12_histories_122 : decode cX12_histories 122 = .ok (.aload_n 0, 1) := op_42 kcX12_histories (Nat.le_of_ble_eq_true rfl) rfl
theorem dX12_histories_123 : decode cX12_histories 123 = .ok (.iload_n 2, 1) := op_28 kcX12_histories (Nat.le_of_ble_eq_true rfl) rfl
theorem dX12_histories_124 : decode cX12_histories 124 = .ok (.iload_n 3, 1) := op_29 kcX12_histories (Nat.le_of_ble_eq_true rfl) rfl
theorem dX12_histories_125 : decode cX12_histories 125 = .ok (.invokevirtual 233, 3) := op_182 (a := 0) (b := 233) kcX12_histories (Nat.le_of_ble_eq_true rfl) rfl rfl rfl
theorem dX12_histories_128 : decode cX12_histories 128 = .ok (.istore_n 2, 1) := op_61 kcX12_histories (Nat.le_of_ble_eq_true rfl) rfl
theorem dX12_histories_129 : decode cX12_histories 129 = .ok (.iinc 4 1, 3) := by decide +kernel
theorem dX12_histories_132 : decode cX12_histories 132 = .ok (.goto (-60), 3) := op_167 (a := 255) (b := 196) kcX12_histories (Nat.le_of_ble_eq_true rfl) rfl rfl rfl (by decide)
theorem dX12_histories_135 : decode cX12_histories 135 = .ok (.iload_n 3, 1) := op_29 kcX12_histories (Nat.le_of_ble_eq_true rfl) rfl
theorem dX12_histories_136 : decode cX12_histories 136 = .ok (.ireturn, 1) := op_172 kcX12_histories (Nat.le_of_ble_eq_true rfl) rfl
set_option maxRecDepth 20000 in
theorem ggX12_could_X12_in : GoodIn wsX12_could wsX12_in := goodIn_r _ [8] rfl gw_wsX12_in
set_option maxRecDepth 20000 in
theorem gX12_could_X12_in : GoodIn wsX12_could (va_wsS RX12 115 yX12_in wsX12_in) := goodIn_app (goodIn_of _ (by decide +kernel)) ggX12_could_X12_in
set_option maxRecDepth 20000 in
theorem ggX12_could_X12_findHistories : GoodIn wsX12_could wsX12_findHistories := goodIn_r _ [12, 1, 13, 4, 14, 15, 16, 17, 7, 18, 19, 20, 21, 22, 23, 24, 25, 26, 27, 28, 29, 30, 31, 40, 41, 42, 43, 44, 45, 46, 47, 48, 49, 50, 51, 52, 53, 54, 55, 56, 57, 58, 59, 60, 61, 62, 63, 64, 65, 66, 67, 68, 69, 70, 71, 72, 73, 74, 75, 76] rfl gw_wsX12_findHistories
set_option maxRecDepth 20000 in
theorem gX12_could_X12_findHistories : GoodIn wsX12_could (wsV RX12 290 RX12 yX12_findHistories wsX12_findHistories) := goodIn_app (goodIn_of _ (by decide +kernel)) ggX12_could_X12_findHistories
set_option maxRecDepth 20000 in
theorem ggX12_could_X12_stateNow : GoodIn wsX12_could wsX12_stateNow := goodIn_r _ [35, 1, 40, 41, 42, 43, 44, 45, 46, 47, 48, 49, 50, 51, 52, 53, 54, 55, 56, 57, 58, 59, 60, 61, 62, 63, 64, 65, 66, 67, 68, 69, 70, 71, 72, 73, 74, 75, 76] rfl gw_wsX12_stateNow
set_option maxRecDepth 20000 in
theorem gX12_could_X12_stateNow : GoodIn wsX12_could (wsV RX12 268 RX12 yX12_stateNow wsX12_stateNow) := goodIn_app (goodIn_of _ (by decide +kernel)) ggX12_could_X12_stateNow
set_option maxRecDepth 20000 in
theorem ggX12_could_X12_canGo : GoodIn wsX12_could wsX12_canGo := goodIn_r _ [39, 1, 13, 15, 16, 17, 7, 18, 19, 20, 21, 22, 23, 24, 25, 26, 27, 28, 14, 29, 30, 31, 40, 41, 42, 43, 44, 45, 46, 47, 48, 49, 50, 51, 52, 53, 54, 55, 56, 57, 58, 59, 60, 61, 62, 63, 64, 65, 66, 67, 68, 69, 70, 71, 72, 73, 74, 75, 76] rfl gw_wsX12_canGo
set_option maxRecDepth 20000 in
theorem gX12_could_X12_canGo : GoodIn wsX12_could (wsV RX12 293 RX12 yX12_canGo wsX12_canGo) := goodIn_app (goodIn_of _ (by decide +kernel)) ggX12_could_X12_canGo
set_option maxRecDepth 20000 in
theorem ggX12_could_X12_then : GoodIn wsX12_could wsX12_then := goodIn_r _ [18, 19, 20, 21, 22, 7, 23, 24, 25, 26, 27, 28, 14, 1, 29, 30, 31, 40, 41, 42, 43, 44, 45, 46, 47, 48, 49, 50, 51, 52, 53, 54, 55, 56, 57, 58, 59, 60, 61, 62, 63, 64, 65, 66, 67, 68, 69, 70, 71, 72, 73, 74, 75, 76] rfl gw_wsX12_then
set_option maxRecDepth 20000 in
theorem gX12_could_X12_then : GoodIn wsX12_could (wsV RX12 233 RX12 yX12_then wsX12_then) := goodIn_app (goodIn_of _ (by decide +kernel)) ggX12_could_X12_then
theorem kcX12_could : (cX12_could).data.toList = cbs 0xac1c73ffa7010384e8ffa7010484543304154200b42a04153f00b42a1700a231100415043603b9ffa7010484c9ffa70105845404e900b6051504152a4200b42a3d80780515041c1800992501b6051504151d2a2a00993304153f00b42a3400a26700b42a05150536034600a231100415043603eeffa7010484540304154200b42a1100a2311004150436033d038e00a31b1d3e03e4ffa701038454030400a7040700a00c01b62a1d1d3f00b42a1c00a231101d3e033d032201b62aac0205009a7300b88564042e1f100700b42a09851b 208 := by decide +kernel
theorem dX12_could_0 : decode cX12_could 0 = .ok (.iload_n 1, 1) := op_27 kcX12_could (Nat.le_of_ble_eq_true rfl) rfl
theorem dX12_could_1 : decode cX12_could 1 = .ok (.i2l, 1) := op_133 kcX12_could (Nat.le_of_ble_eq_true rfl) rfl
theorem dX12_could_2 : decode cX12_could 2 = .ok (.lconst 0, 1) := op_9 kcX12_could (Nat.le_of_ble_eq_true rfl) rfl
theorem dX12_could_3 : decode cX12_could 3 = .ok (.aload_n 0, 1) := op_42 kcX12_could (Nat.le_of_ble_eq_true rfl) rfl
theorem dX12_could_4 : decode cX12_could 4 = .ok (.getfield 7, 3) := op_180 (a := 0) (b := 7) kcX12_could (Nat.le_of_ble_eq_true rfl) rfl rfl rfl
theorem dX12_could_7 : decode cX12_could 7 = .ok (.bipush 31, 2) := op_16 (a := 31) kcX12_could (Nat.le_of_ble_eq_true rfl) rfl rfl (by decide)
theorem dX12_could_9 : decode cX12_could 9 = .ok (.iaload, 1) := op_46 kcX12_could (Nat.le_of_ble_eq_true rfl) rfl
theorem dX12_could_10 : decode cX12_could 10 = .ok (.iconst 1, 1) := op_4 kcX12_could (Nat.le_of_ble_eq_true rfl) rfl
theorem dX12_could_11 : decode cX12_could 11 = .ok (.isub, 1) := op_100 kcX12_could (Nat.le_of_ble_eq_true rfl) rfl
theorem dX12_could_12 : decode cX12_could 12 = .ok (.i2l, 1) := op_133 kcX12_could (Nat.le_of_ble_eq_true rfl) rfl
theorem dX12_could_13 : decode cX12_could 13 = .ok (.invokestatic 115, 3) := op_184 (a := 0) (b := 115) kcX12_could (Nat.le_of_ble_eq_true rfl) rfl rfl rfl
theorem dX12_could_16 : decode cX12_could 16 = .ok (.ifCond .ne 5, 3) := op_154 (a := 0) (b := 5) kcX12_could (Nat.le_of_ble_eq_true rfl) rfl rfl rfl (by decide)
theorem dX12_could_19 : decode cX12_could 19 = .ok (.iconst (-1), 1) := op_2 kcX12_could (Nat.le_of_ble_eq_true rfl) rfl
theorem dX12_could_20 : decode cX12_could 20 = .ok (.ireturn, 1) := op_172 kcX12_could (Nat.le_of_ble_eq_true rfl) rfl
theorem dX12_could_21 : decode cX12_could 21 = .ok (.aload_n 0, 1) := op_42 kcX12_could (Nat.le_of_ble_eq_true rfl) rfl
theorem dX12_could_22 : decode cX12_could 22 = .ok (.invokevirtual 290, 3) := op_182 (a := 1) (b := 34) kcX12_could (Nat.le_of_ble_eq_true rfl) rfl rfl rfl
theorem dX12_could_25 : decode cX12_could 25 = .ok (.iconst 0, 1) := op_3 kcX12_could (Nat.le_of_ble_eq_true rfl) rfl
theorem dX12_could_26 : decode cX12_could 26 = .ok (.istore_n 2, 1) := op_61 kcX12_could (Nat.le_of_ble_eq_true rfl) rfl
theorem dX12_could_27 : decode cX12_could 27 = .ok (.iconst 0, 1) := op_3 kcX12_could (Nat.le_of_ble_eq_true rfl) rfl
theorem dX12_could_28 : decode cX12_could 28 = .ok (.istore_n 3, 1) := op_62 kcX12_could (Nat.le_of_ble_eq_true rfl) rfl
theorem dX12_could_29 : decode cX12_could 29 = .ok (.iload_n 3, 1) := op_29 kcX12_could (Nat.le_of_ble_eq_true rfl) rfl
theorem dX12_could_30 : decode cX12_could 30 = .ok (.bipush 49, 2) := op_16 (a := 49) kcX12_could (Nat.le_of_ble_eq_true rfl) rfl rfl (by decide)
theorem dX12_could_32 : decode cX12_could 32 = .ok (.if_icmp .ge 28, 3) := op_162 (a := 0) (b := 28) kcX12_could (Nat.le_of_ble_eq_true rfl) rfl rfl rfl (by decide)
theorem dX12_could_35 : decode cX12_could 35 = .ok (.aload_n 0, 1) := op_42 kcX12_could (Nat.le_of_ble_eq_true rfl) rfl
theorem dX12_could_36 : decode cX12_could 36 = .ok (.getfield 63, 3) := op_180 (a := 0) (b := 63) kcX12_could (Nat.le_of_ble_eq_true rfl) rfl rfl rfl
theorem dX12_could_39 : decode cX12_could 39 = .ok (.iload_n 3, 1) := op_29 kcX12_could (Nat.le_of_ble_eq_true rfl) rfl
theorem dX12_could_40 : decode cX12_could 40 = .ok (.iload_n 3, 1) := op_29 kcX12_could (Nat.le_of_ble_eq_true rfl) rfl
theorem dX12_could_41 : decode cX12_could 41 = .ok (.aload_n 0, 1) := op_42 kcX12_could (Nat.le_of_ble_eq_true rfl) rfl
theorem dX12_could_42 : decode cX12_could 42 = .ok (.invokevirtual 268, 3) := op_182 (a := 1) (b := 12) kcX12_could (Nat.le_of_ble_eq_true rfl) rfl rfl rfl
theorem dX12_could_45 : decode cX12_could 45 = .ok (.if_icmp .ne 7, 3) := op_160 (a := 0) (b := 7) kcX12_could (Nat.le_of_ble_eq_true rfl) rfl rfl rfl (by decide)
theorem dX12_could_48 : decode cX12_could 48 = .ok (.iconst 1, 1) := op_4 kcX12_could (Nat.le_of_ble_eq_true rfl) rfl
theorem dX12_could_49 : decode cX12_could 49 = .ok (.goto 4, 3) := op_167 (a := 0) (b := 4) kcX12_could (Nat.le_of_ble_eq_true rfl) rfl rfl rfl (by decide)
theorem dX12_could_52 : decode cX12_could 52 = .ok (.iconst 0, 1) := op_3 kcX12_could (Nat.le_of_ble_eq_true rfl) rfl
theorem dX12_could_53 : decode cX12_could 53 = .ok (.bastore, 1) := op_84 kcX12_could (Nat.le_of_ble_eq_true rfl) rfl
theorem dX12_could_54 : decode cX12_could 54 = .ok (.iinc 3 1, 3) := by decide +kernel
theorem dX12_could_57 : decode cX12_could 57 = .ok (.goto (-28), 3) := op_167 (a := 255) (b := 228) kcX12_could (Nat.le_of_ble_eq_true rfl) rfl rfl rfl (by decide)
theorem dX12_could_60 : decode cX12_could 60 = .ok (.iconst 0, 1) := op_3 kcX12_could (Nat.le_of_ble_eq_true rfl) rfl
theorem dX12_could_61 : decode cX12_could 61 = .ok (.istore_n 3, 1) := op_62 kcX12_could (Nat.le_of_ble_eq_true rfl) rfl
theorem dX12_could_62 : decode cX12_could 62 = .ok (.iload_n 3, 1) := op_29 kcX12_could (Nat.le_of_ble_eq_true rfl) rfl
theorem dX12_could_63 : decode cX12_could 63 = .ok (.iload_n 1, 1) := op_27 kcX12_could (Nat.le_of_ble_eq_true rfl) rfl
theorem dX12_could_64 : decode cX12_could 64 = .ok (.if_icmp .gt 142, 3) := op_163 (a := 0) (b := 142) kcX12_could (Nat.le_of_ble_eq_true rfl) rfl rfl rfl (by decide)
theorem dX12_could_67 : decode cX12_could 67 = .ok (.iconst 0, 1) := op_3 kcX12_could (Nat.le_of_ble_eq_true rfl) rfl
theorem dX12_could_68 : decode cX12_could 68 = .ok (.istore_n 2, 1) := op_61 kcX12_could (Nat.le_of_ble_eq_true rfl) rfl
theorem dX12_could_69 : decode cX12_could 69 = .ok (.iconst 0, 1) := op_3 kcX12_could (Nat.le_of_ble_eq_true rfl) rfl
theorem dX12_could_70 : decode cX12_could 70 = .ok (.istore 4, 2) := op_54 (a := 4) kcX12_could (Nat.le_of_ble_eq_true rfl) rfl rfl
theorem dX12_could_72 : decode cX12_could 72 = .ok (.iload 4, 2) := op_21 (a := 4) kcX12_could (Nat.le_of_ble_eq_true rfl) rfl rfl
theorem dX12_could_74 : decode cX12_could 74 = .ok (.bipush 49, 2) := op_16 (a := 49) kcX12_could (Nat.le_of_ble_eq_true rfl) rfl rfl (by decide)
theorem dX12_could_76 : decode cX12_could 76 = .ok (.if_icmp .ge 17, 3) := op_162 (a := 0) (b := 17) kcX12_could (Nat.le_of_ble_eq_true rfl) rfl rfl rfl (by decide)
theorem dX12_could_79 : decode cX12_could 79 = .ok (.aload_n 0, 1) := op_42 kcX12_could (Nat.le_of_ble_eq_true rfl) rfl
theorem dX12_could_80 : decode cX12_could 80 = .ok (.getfield 66, 3) := op_180 (a := 0) (b := 66) kcX12_could (Nat.le_of_ble_eq_true rfl) rfl rfl rfl
theorem dX12_could_83 : decode cX12_could 83 = .ok (.iload 4, 2) := op_21 (a := 4) kcX12_could (Nat.le_of_ble_eq_true rfl) rfl rfl
theorem dX12_could_85 : decode cX12_could 85 = .ok (.iconst 0, 1) := op_3 kcX12_could (Nat.le_of_ble_eq_true rfl) rfl
theorem dX12_could_86 : decode cX12_could 86 = .ok (.bastore, 1) := op_84 kcX12_could (Nat.le_of_ble_eq_true rfl) rfl
theorem dX12_could_87 : decode cX12_could 87 = .ok (.iinc 4 1, 3) := by decide +kernel
theorem dX12_could_90 : decode cX12_could 90 = .ok (.goto (-18), 3) := op_167 (a := 255) (b := 238) kcX12_could (Nat.le_of_ble_eq_true rfl) rfl rfl rfl (by decide)
theorem dX12_could_93 : decode cX12_could 93 = .ok (.iconst 0, 1) := op_3 kcX12_could (Nat.le_of_ble_eq_true rfl) rfl
theorem dX12_could_94 : decode cX12_could 94 = .ok (.istore 4, 2) := op_54 (a := 4) kcX12_could (Nat.le_of_ble_eq_true rfl) rfl rfl
theorem dX12_could_96 : decode cX12_could 96 = .ok (.iload 4, 2) := op_21 (a := 4) kcX12_could (Nat.le_of_ble_eq_true rfl) rfl rfl
theorem dX12_could_98 : decode cX12_could 98 = .ok (.bipush 49, 2) := op_16 (a := 49) kcX12_could (Nat.le_of_ble_eq_true rfl) rfl rfl (by decide)
theorem dX12_could_100 : decode cX12_could 100 = .ok (.if_icmp .ge 70, 3) := op_162 (a := 0) (b := 70) kcX12_could (Nat.le_of_ble_eq_true rfl) rfl rfl rfl (by decide)
theorem dX12_could_103 : decode cX12_could 103 = .ok (.iconst 0, 1) := op_3 kcX12_could (Nat.le_of_ble_eq_true rfl) rfl
theorem dX12_could_104 : decode cX12_could 104 = .ok (.istore 5, 2) := op_54 (a := 5) kcX12_could (Nat.le_of_ble_eq_true rfl) rfl rfl
theorem dX12_could_106 : decode cX12_could 106 = .ok (.iload 5, 2) := op_21 (a := 5) kcX12_could (Nat.le_of_ble_eq_true rfl) rfl rfl
theorem dX12_could_108 : decode cX12_could 108 = .ok (.aload_n 0, 1) := op_42 kcX12_could (Nat.le_of_ble_eq_true rfl) rfl
theorem dX12_could_109 : decode cX12_could 109 = .ok (.getfield 103, 3) := op_180 (a := 0) (b := 103) kcX12_could (Nat.le_of_ble_eq_true rfl) rfl rfl rfl
theorem dX12_could_112 : decode cX12_could 112 = .ok (.if_icmp .ge 52, 3) := op_162 (a := 0) (b := 52) kcX12_could (Nat.le_of_ble_eq_true rfl) rfl rfl rfl (by decide)
theorem dX12_could_115 : decode cX12_could 115 = .ok (.aload_n 0, 1) := op_42 kcX12_could (Nat.le_of_ble_eq_true rfl) rfl
theorem dX12_could_116 : decode cX12_could 116 = .ok (.getfield 63, 3) := op_180 (a := 0) (b := 63) kcX12_could (Nat.le_of_ble_eq_true rfl) rfl rfl rfl
theorem dX12_could_119 : decode cX12_could 119 = .ok (.iload 4, 2) := op_21 (a := 4) kcX12_could (Nat.le_of_ble_eq_true rfl) rfl rfl
theorem dX12_could_121 : decode cX12_could 121 = .ok (.baload, 1) := op_51 kcX12_could (Nat.le_of_ble_eq_true rfl) rfl
theorem dX12_could_122 : decode cX12_could 122 = .ok (.ifCond .eq 42, 3) := op_153 (a := 0) (b := 42) kcX12_could (Nat.le_of_ble_eq_true rfl) rfl rfl rfl (by decide)
theorem dX12_could_125 : decode cX12_could 125 = .ok (.aload_n 0, 1) := op_42 kcX12_could (Nat.le_of_ble_eq_true rfl) rfl
theorem dX12_could_126 : decode cX12_could 126 = .ok (.iload_n 3, 1) := op_29 kcX12_could (Nat.le_of_ble_eq_true rfl) rfl
theorem dX12_could_127 : decode cX12_could 127 = .ok (.iload 4, 2) := op_21 (a := 4) kcX12_could (Nat.le_of_ble_eq_true rfl) rfl rfl
theorem dX12_could_129 : decode cX12_could 129 = .ok (.iload 5, 2) := op_21 (a := 5) kcX12_could (Nat.le_of_ble_eq_true rfl) rfl rfl
theorem dX12_could_131 : decode cX12_could 131 = .ok (.invokevirtual 293, 3) := op_182 (a := 1) (b := 37) kcX12_could (Nat.le_of_ble_eq_true rfl) rfl rfl rfl
theorem dX12_could_134 : decode cX12_could 134 = .ok (.ifCond .eq 24, 3) := op_153 (a := 0) (b := 24) kcX12_could (Nat.le_of_ble_eq_true rfl) rfl rfl rfl (by decide)
theorem dX12_could_137 : decode cX12_could 137 = .ok (.iload_n 2, 1) := op_28 kcX12_could (Nat.le_of_ble_eq_true rfl) rfl
theorem dX12_could_138 : decode cX12_could 138 = .ok (.iconst 1, 1) := op_4 kcX12_could (Nat.le_of_ble_eq_true rfl) rfl
theorem dX12_could_139 : decode cX12_could 139 = .ok (.iload 5, 2) := op_21 (a := 5) kcX12_could (Nat.le_of_ble_eq_true rfl) rfl rfl
theorem dX12_could_141 : decode cX12_could 141 = .ok (.ishl, 1) := op_120 kcX12_could (Nat.le_of_ble_eq_true rfl) rfl
theorem dX12_could_142 : decode cX12_could 142 = .ok (.ior, 1) := op_128 kcX12_could (Nat.le_of_ble_eq_true rfl) rfl
theorem dX12_could_143 : decode cX12_could 143 = .ok (.istore_n 2, 1) := op_61 kcX12_could (Nat.le_of_ble_eq_true rfl) rfl
theorem dX12_could_144 : decode cX12_could 144 = .ok (.aload_n 0, 1) := op_42 kcX12_could (Nat.le_of_ble_eq_true rfl) rfl
theorem dX12_could_145 : decode cX12_could 145 = .ok (.getfield 66, 3) := op_180 (a := 0) (b := 66) kcX12_could (Nat.le_of_ble_eq_true rfl) rfl rfl rfl
theorem dX12_could_148 : decode cX12_could 148 = .ok (.aload_n 0, 1) := op_42 kcX12_could (Nat.le_of_ble_eq_true rfl) rfl
theorem dX12_could_149 : decode cX12_could 149 = .ok (.iload 4, 2) := op_21 (a := 4) kcX12_could (Nat.le_of_ble_eq_true rfl) rfl rfl
theorem dX12_could_151 : decode cX12_could 151 = .ok (.iload 5, 2) := op_21 (a := 5) kcX12_could (Nat.le_of_ble_eq_true rfl) rfl rfl
theorem dX12_could_153 : decode cX12_could 153 = .ok (.invokevirtual 233, 3) := op_182 (a := 0) (b := 233) kcX12_could (Nat.le_of_ble_eq_true rfl) rfl rfl rfl
theorem dX12_could_156 : decode cX12_could 156 = .ok (.iconst 1, 1) := op_4 kcX12_could (Nat.le_of_ble_eq_true rfl) rfl
theorem dX12_could_157 : decode cX12_could 157 = .ok (.bastore, 1) := op_84 kcX12_could (Nat.le_of_ble_eq_true rfl) rfl
theorem dX12_could_158 : decode cX12_could 158 = .ok (.iinc 5 1, 3) := by decide +kernel
theorem dX12_could_161 : decode cX12_could 161 = .ok (.goto (-55), 3) := op_167 (a := 255) (b := 201) kcX12_could (Nat.le_of_ble_eq_true rfl) rfl rfl rfl (by decide)
theorem dX12_could_164 : decode cX12_could 164 = .ok (.iinc 4 1, 3) := by decide +kernel
theorem dX12_could_167 : decode cX12_could 167 = .ok (.goto (-71), 3) := op_167 (a := 255) (b := 185) kcX12_could (Nat.le_of_ble_eq_true rfl) rfl rfl rfl (by decide)
theorem dX12_could_170 : decode cX12_could 170 = .ok (.iconst 0, 1) := op_3 kcX12_could (Nat.le_of_ble_eq_true rfl) rfl
theorem dX12_could_171 : decode cX12_could 171 = .ok (.istore 4, 2) := op_54 (a := 4) kcX12_could (Nat.le_of_ble_eq_true rfl) rfl rfl
theorem dX12_could_173 : decode cX12_could 173 = .ok (.iload 4, 2) := op_21 (a := 4) kcX12_could (Nat.le_of_ble_eq_true rfl) rfl rfl
theorem dX12_could_175 : decode cX12_could 175 = .ok (.bipush 49, 2) := op_16 (a := 49) kcX12_could (Nat.le_of_ble_eq_true rfl) rfl rfl (by decide)
theorem dX12_could_177 : decode cX12_could 177 = .ok (.if_icmp .ge 23, 3) := op_162 (a := 0) (b := 23) kcX12_could (Nat.le_of_ble_eq_true rfl) rfl rfl rfl (by decide)
theorem dX12_could_180 : decode cX12_could 180 = .ok (.aload_n 0, 1) := op_42 kcX12_could (Nat.le_of_ble_eq_true rfl) rfl
theorem dX12_could_181 : decode cX12_could 181 = .ok (.getfield 63, 3) := op_180 (a := 0) (b := 63) kcX12_could (Nat.le_of_ble_eq_true rfl) rfl rfl rfl
theorem dX12_could_184 : decode cX12_could 184 = .ok (.iload 4, 2) := op_21 (a := 4) kcX12_could (Nat.le_of_ble_eq_true rfl) rfl rfl
theorem dX12_could_186 : decode cX12_could 186 = .ok (.aload_n 0, 1) := op_42 kcX12_could (Nat.le_of_ble_eq_true rfl) rfl
theorem dX12_could_187 : decode cX12_could 187 = .ok (.getfield 66, 3) := op_180 (a := 0) (b := 66) kcX12_could (Nat.le_of_ble_eq_true rfl) rfl rfl rfl
theorem dX12_could_190 : decode cX12_could 190 = .ok (.iload 4, 2) := op_21 (a := 4) kcX12_could (Nat.le_of_ble_eq_true rfl) rfl rfl
theorem dX12_could_192 : decode cX12_could 192 = .ok (.baload, 1) := op_51 kcX12_could (Nat.le_of_ble_eq_true rfl) rfl
theorem dX12_could_193 : decode cX12_could 193 = .ok (.bastore, 1) := op_84 kcX12_could (Nat.le_of_ble_eq_true rfl) rfl
theorem dX12_could_194 : decode cX12_could 194 = .ok (.iinc 4 1, 3) := by decide +kernel
theorem dX12_could_197 : decode cX12_could 197 = .ok (.goto (-24), 3) := op_167 (a := 255) (b := 232) kcX12_could (Nat.le_of_ble_eq_true rfl) rfl rfl rfl (by decide)
theorem dX12_could_200 : decode cX12_could 200 = .ok (.iinc 3 1, 3) := by decide +kernel
theorem dX12_could_203 : decode cX12_could 203 = .ok (.goto (-141), 3) := op_167 (a := 255) (b := 115) kcX12_could (Nat.le_of_ble_eq_true rfl) rfl rfl rfl (by decide)
theorem dX12_could_206 : decode cX12_could 206 = .ok (.iload_n 2, 1) := op_28 kcX12_could (Nat.le_of_ble_eq_true rfl) rfl
theorem dX12_could_207 : decode cX12_could 207 = .ok (.ireturn, 1) := op_172 kcX12_could (Nat.le_of_ble_eq_true rfl) rfl
set_option maxRecDepth 20000 in
theorem ggX12_blind_X12_in : GoodIn wsX12_blind wsX12_in := goodIn_r _ [7] rfl gw_wsX12_in
set_option maxRecDepth 20000 in
theorem gX12_blind_X12_in : GoodIn wsX12_blind (va_wsS RX12 115 yX12_in wsX12_in) := goodIn_app (goodIn_of _ (by decide +kernel)) ggX12_blind_X12_in
set_option maxRecDepth 20000 in
theorem ggX12_blind_X12_isTold : GoodIn wsX12_blind wsX12_isTold := goodIn_r _ [10, 4, 5, 6, 7] rfl gw_wsX12_isTold
set_option maxRecDepth 20000 in
theorem gX12_blind_X12_isTold : GoodIn wsX12_blind (va_wsS RX12 238 yX12_isTold wsX12_isTold) := goodIn_app (goodIn_of _ (by decide +kernel)) ggX12_blind_X12_isTold
set_option maxRecDepth 20000 in
theorem ggX12_blind_X12_power : GoodIn wsX12_blind wsX12_power := goodIn_r _ [14] rfl gw_wsX12_power
set_option maxRecDepth 20000 in
theorem gX12_blind_X12_power : GoodIn wsX12_blind (wsV RX12 252 RX12 yX12_power wsX12_power) := goodIn_app (goodIn_of _ (by decide +kernel)) ggX12_blind_X12_power
set_option maxRecDepth 20000 in
theorem ggX12_blind_X12_lowest : GoodIn wsX12_blind wsX12_lowest := goodIn_r _ [17, 18, 19, 6, 20] rfl gw_wsX12_lowest
set_option maxRecDepth 20000 in
theorem gX12_blind_X12_lowest : GoodIn wsX12_blind (va_wsS RX12 256 yX12_lowest wsX12_lowest) := goodIn_app (goodIn_of _ (by decide +kernel)) ggX12_blind_X12_lowest
theorem kcX12_blind : (cX12_blind).data.toList = cbs 0xad0001b81dfc00b61c856400b42a2a0416c6ffa701088406376d856004081569856408151c0616043761090400a769fc00b66408151c650a856400b42a2a06161800a11b081504163a00a31c081508360306370a043709adf1001407009aee00b81d0a00997300b8851c09851b1500997300b82801140a851c 121 := by decide +kernel
theorem dX12_blind_0 : decode cX12_blind 0 = .ok (.iload_n 2, 1) := op_28 kcX12_blind (Nat.le_of_ble_eq_true rfl) rfl
theorem dX12_blind_1 : decode cX12_blind 1 = .ok (.i2l, 1) := op_133 kcX12_blind (Nat.le_of_ble_eq_true rfl) rfl
theorem dX12_blind_2 : decode cX12_blind 2 = .ok (.lconst 1, 1) := op_10 kcX12_blind (Nat.le_of_ble_eq_true rfl) rfl
theorem dX12_blind_3 : decode cX12_blind 3 = .ok (.ldc2_w 296, 3) := op_20 (a := 1) (b := 40) kcX12_blind (Nat.le_of_ble_eq_true rfl) rfl rfl rfl
theorem dX12_blind_6 : decode cX12_blind 6 = .ok (.invokestatic 115, 3) := op_184 (a := 0) (b := 115) kcX12_blind (Nat.le_of_ble_eq_true rfl) rfl rfl rfl
theorem dX12_blind_9 : decode cX12_blind 9 = .ok (.ifCond .eq 21, 3) := op_153 (a := 0) (b := 21) kcX12_blind (Nat.le_of_ble_eq_true rfl) rfl rfl rfl (by decide)
theorem dX12_blind_12 : decode cX12_blind 12 = .ok (.iload_n 1, 1) := op_27 kcX12_blind (Nat.le_of_ble_eq_true rfl) rfl
theorem dX12_blind_13 : decode cX12_blind 13 = .ok (.i2l, 1) := op_133 kcX12_blind (Nat.le_of_ble_eq_true rfl) rfl
theorem dX12_blind_14 : decode cX12_blind 14 = .ok (.lconst 0, 1) := op_9 kcX12_blind (Nat.le_of_ble_eq_true rfl) rfl
theorem dX12_blind_15 : decode cX12_blind 15 = .ok (.iload_n 2, 1) := op_28 kcX12_blind (Nat.le_of_ble_eq_true rfl) rfl
theorem dX12_blind_16 : decode cX12_blind 16 = .ok (.i2l, 1) := op_133 kcX12_blind (Nat.le_of_ble_eq_true rfl) rfl
theorem dX12_blind_17 : decode cX12_blind 17 = .ok (.invokestatic 115, 3) := op_184 (a := 0) (b := 115) kcX12_blind (Nat.le_of_ble_eq_true rfl) rfl rfl rfl
theorem dX12_blind_20 : decode cX12_blind 20 = .ok (.ifCond .eq 10, 3) := op_153 (a := 0) (b := 10) kcX12_blind (Nat.le_of_ble_eq_true rfl) rfl rfl rfl (by decide)
theorem dX12_blind_23 : decode cX12_blind 23 = .ok (.iload_n 3, 1) := op_29 kcX12_blind (Nat.le_of_ble_eq_true rfl) rfl
theorem dX12_blind_24 : decode cX12_blind 24 = .ok (.invokestatic 238, 3) := op_184 (a := 0) (b := 238) kcX12_blind (Nat.le_of_ble_eq_true rfl) rfl rfl rfl
theorem dX12_blind_27 : decode cX12_blind 27 = .ok (.ifCond .ne 7, 3) := op_154 (a := 0) (b := 7) kcX12_blind (Nat.le_of_ble_eq_true rfl) rfl rfl rfl (by decide)
theorem dX12_blind_30 : decode cX12_blind 30 = .ok (.ldc2_w 241, 3) := op_20 (a := 0) (b := 241) kcX12_blind (Nat.le_of_ble_eq_true rfl) rfl rfl rfl
theorem dX12_blind_33 : decode cX12_blind 33 = .ok (.lreturn, 1) := op_173 kcX12_blind (Nat.le_of_ble_eq_true rfl) rfl
theorem dX12_blind_34 : decode cX12_blind 34 = .ok (.lconst 0, 1) := op_9 kcX12_blind (Nat.le_of_ble_eq_true rfl) rfl
theorem dX12_blind_35 : decode cX12_blind 35 = .ok (.lstore 4, 2) := op_55 (a := 4) kcX12_blind (Nat.le_of_ble_eq_true rfl) rfl rfl
theorem dX12_blind_37 : decode cX12_blind 37 = .ok (.lconst 1, 1) := op_10 kcX12_blind (Nat.le_of_ble_eq_true rfl) rfl
theorem dX12_blind_38 : decode cX12_blind 38 = .ok (.lstore 6, 2) := op_55 (a := 6) kcX12_blind (Nat.le_of_ble_eq_true rfl) rfl rfl
theorem dX12_blind_40 : decode cX12_blind 40 = .ok (.iconst 0, 1) := op_3 kcX12_blind (Nat.le_of_ble_eq_true rfl) rfl
theorem dX12_blind_41 : decode cX12_blind 41 = .ok (.istore 8, 2) := op_54 (a := 8) kcX12_blind (Nat.le_of_ble_eq_true rfl) rfl rfl
theorem dX12_blind_43 : decode cX12_blind 43 = .ok (.iload 8, 2) := op_21 (a := 8) kcX12_blind (Nat.le_of_ble_eq_true rfl) rfl rfl
theorem dX12_blind_45 : decode cX12_blind 45 = .ok (.iload_n 2, 1) := op_28 kcX12_blind (Nat.le_of_ble_eq_true rfl) rfl
theorem dX12_blind_46 : decode cX12_blind 46 = .ok (.if_icmp .gt 58, 3) := op_163 (a := 0) (b := 58) kcX12_blind (Nat.le_of_ble_eq_true rfl) rfl rfl rfl (by decide)
theorem dX12_blind_49 : decode cX12_blind 49 = .ok (.lload 4, 2) := op_22 (a := 4) kcX12_blind (Nat.le_of_ble_eq_true rfl) rfl rfl
theorem dX12_blind_51 : decode cX12_blind 51 = .ok (.iload 8, 2) := op_21 (a := 8) kcX12_blind (Nat.le_of_ble_eq_true rfl) rfl rfl
theorem dX12_blind_53 : decode cX12_blind 53 = .ok (.iload_n 1, 1) := op_27 kcX12_blind (Nat.le_of_ble_eq_true rfl) rfl
theorem dX12_blind_54 : decode cX12_blind 54 = .ok (.if_icmp .lt 24, 3) := op_161 (a := 0) (b := 24) kcX12_blind (Nat.le_of_ble_eq_true rfl) rfl rfl rfl (by decide)
theorem dX12_blind_57 : decode cX12_blind 57 = .ok (.lload 6, 2) := op_22 (a := 6) kcX12_blind (Nat.le_of_ble_eq_true rfl) rfl rfl
theorem dX12_blind_59 : decode cX12_blind 59 = .ok (.aload_n 0, 1) := op_42 kcX12_blind (Nat.le_of_ble_eq_true rfl) rfl
theorem dX12_blind_60 : decode cX12_blind 60 = .ok (.aload_n 0, 1) := op_42 kcX12_blind (Nat.le_of_ble_eq_true rfl) rfl
theorem dX12_blind_61 : decode cX12_blind 61 = .ok (.getfield 100, 3) := op_180 (a := 0) (b := 100) kcX12_blind (Nat.le_of_ble_eq_true rfl) rfl rfl rfl
theorem dX12_blind_64 : decode cX12_blind 64 = .ok (.i2l, 1) := op_133 kcX12_blind (Nat.le_of_ble_eq_true rfl) rfl
theorem dX12_blind_65 : decode cX12_blind 65 = .ok (.lconst 1, 1) := op_10 kcX12_blind (Nat.le_of_ble_eq_true rfl) rfl
theorem dX12_blind_66 : decode cX12_blind 66 = .ok (.lsub, 1) := op_101 kcX12_blind (Nat.le_of_ble_eq_true rfl) rfl
theorem dX12_blind_67 : decode cX12_blind 67 = .ok (.iload_n 2, 1) := op_28 kcX12_blind (Nat.le_of_ble_eq_true rfl) rfl
theorem dX12_blind_68 : decode cX12_blind 68 = .ok (.iload 8, 2) := op_21 (a := 8) kcX12_blind (Nat.le_of_ble_eq_true rfl) rfl rfl
theorem dX12_blind_70 : decode cX12_blind 70 = .ok (.isub, 1) := op_100 kcX12_blind (Nat.le_of_ble_eq_true rfl) rfl
theorem dX12_blind_71 : decode cX12_blind 71 = .ok (.invokevirtual 252, 3) := op_182 (a := 0) (b := 252) kcX12_blind (Nat.le_of_ble_eq_true rfl) rfl rfl rfl
theorem dX12_blind_74 : decode cX12_blind 74 = .ok (.lmul, 1) := op_105 kcX12_blind (Nat.le_of_ble_eq_true rfl) rfl
theorem dX12_blind_75 : decode cX12_blind 75 = .ok (.goto 4, 3) := op_167 (a := 0) (b := 4) kcX12_blind (Nat.le_of_ble_eq_true rfl) rfl rfl rfl (by decide)
theorem dX12_blind_78 : decode cX12_blind 78 = .ok (.lconst 0, 1) := op_9 kcX12_blind (Nat.le_of_ble_eq_true rfl) rfl
theorem dX12_blind_79 : decode cX12_blind 79 = .ok (.ladd, 1) := op_97 kcX12_blind (Nat.le_of_ble_eq_true rfl) rfl
theorem dX12_blind_80 : decode cX12_blind 80 = .ok (.lstore 4, 2) := op_55 (a := 4) kcX12_blind (Nat.le_of_ble_eq_true rfl) rfl rfl
theorem dX12_blind_82 : decode cX12_blind 82 = .ok (.lload 6, 2) := op_22 (a := 6) kcX12_blind (Nat.le_of_ble_eq_true rfl) rfl rfl
theorem dX12_blind_84 : decode cX12_blind 84 = .ok (.iload_n 2, 1) := op_28 kcX12_blind (Nat.le_of_ble_eq_true rfl) rfl
theorem dX12_blind_85 : decode cX12_blind 85 = .ok (.iload 8, 2) := op_21 (a := 8) kcX12_blind (Nat.le_of_ble_eq_true rfl) rfl rfl
theorem dX12_blind_87 : decode cX12_blind 87 = .ok (.isub, 1) := op_100 kcX12_blind (Nat.le_of_ble_eq_true rfl) rfl
theorem dX12_blind_88 : decode cX12_blind 88 = .ok (.i2l, 1) := op_133 kcX12_blind (Nat.le_of_ble_eq_true rfl) rfl
theorem dX12_blind_89 : decode cX12_blind 89 = .ok (.lmul, 1) := op_105 kcX12_blind (Nat.le_of_ble_eq_true rfl) rfl
theorem dX12_blind_90 : decode cX12_blind 90 = .ok (.iload 8, 2) := op_21 (a := 8) kcX12_blind (Nat.le_of_ble_eq_true rfl) rfl rfl
theorem dX12_blind_92 : decode cX12_blind 92 = .ok (.iconst 1, 1) := op_4 kcX12_blind (Nat.le_of_ble_eq_true rfl) rfl
theorem dX12_blind_93 : decode cX12_blind 93 = .ok (.iadd, 1) := op_96 kcX12_blind (Nat.le_of_ble_eq_true rfl) rfl
theorem dX12_blind_94 : decode cX12_blind 94 = .ok (.i2l, 1) := op_133 kcX12_blind (Nat.le_of_ble_eq_true rfl) rfl
theorem dX12_blind_95 : decode cX12_blind 95 = .ok (.ldiv, 1) := op_109 kcX12_blind (Nat.le_of_ble_eq_true rfl) rfl
theorem dX12_blind_96 : decode cX12_blind 96 = .ok (.lstore 6, 2) := op_55 (a := 6) kcX12_blind (Nat.le_of_ble_eq_true rfl) rfl rfl
theorem dX12_blind_98 : decode cX12_blind 98 = .ok (.iinc 8 1, 3) := by decide +kernel
theorem dX12_blind_101 : decode cX12_blind 101 = .ok (.goto (-58), 3) := op_167 (a := 255) (b := 198) kcX12_blind (Nat.le_of_ble_eq_true rfl) rfl rfl rfl (by decide)
theorem dX12_blind_104 : decode cX12_blind 104 = .ok (.lload 4, 2) := op_22 (a := 4) kcX12_blind (Nat.le_of_ble_eq_true rfl) rfl rfl
theorem dX12_blind_106 : decode cX12_blind 106 = .ok (.aload_n 0, 1) := op_42 kcX12_blind (Nat.le_of_ble_eq_true rfl) rfl
theorem dX12_blind_107 : decode cX12_blind 107 = .ok (.aload_n 0, 1) := op_42 kcX12_blind (Nat.le_of_ble_eq_true rfl) rfl
theorem dX12_blind_108 : decode cX12_blind 108 = .ok (.getfield 100, 3) := op_180 (a := 0) (b := 100) kcX12_blind (Nat.le_of_ble_eq_true rfl) rfl rfl rfl
theorem dX12_blind_111 : decode cX12_blind 111 = .ok (.i2l, 1) := op_133 kcX12_blind (Nat.le_of_ble_eq_true rfl) rfl
theorem dX12_blind_112 : decode cX12_blind 112 = .ok (.iload_n 2, 1) := op_28 kcX12_blind (Nat.le_of_ble_eq_true rfl) rfl
theorem dX12_blind_113 : decode cX12_blind 113 = .ok (.invokevirtual 252, 3) := op_182 (a := 0) (b := 252) kcX12_blind (Nat.le_of_ble_eq_true rfl) rfl rfl rfl
theorem dX12_blind_116 : decode cX12_blind 116 = .ok (.iload_n 3, 1) := op_29 kcX12_blind (Nat.le_of_ble_eq_true rfl) rfl
theorem dX12_blind_117 : decode cX12_blind 117 = .ok (.invokestatic 256, 3) := op_184 (a := 1) (b := 0) kcX12_blind (Nat.le_of_ble_eq_true rfl) rfl rfl rfl
theorem dX12_blind_120 : decode cX12_blind 120 = .ok (.lreturn, 1) := op_173 kcX12_blind (Nat.le_of_ble_eq_true rfl) rfl
theorem kcX12_copies : (cX12_copies).data.toList = cbs 0xb1e7ffa70103844f2e601d1c0700b42a601d1b0700b42a1900a226101d3e03 31 := by decide +kernel
theorem dX12_copies_0 : decode cX12_copies 0 = .ok (.iconst 0, 1) := op_3 kcX12_copies (Nat.le_of_ble_eq_true rfl) rfl
theorem dX12_copies_1 : decode cX12_copies 1 = .ok (.istore_n 3, 1) := op_62 kcX12_copies (Nat.le_of_ble_eq_true rfl) rfl
theorem dX12_copies_2 : decode cX12_copies 2 = .ok (.iload_n 3, 1) := op_29 kcX12_copies (Nat.le_of_ble_eq_true rfl) rfl
theorem dX12_copies_3 : decode cX12_copies 3 = .ok (.bipush 38, 2) := op_16 (a := 38) kcX12_copies (Nat.le_of_ble_eq_true rfl) rfl rfl (by decide)
theorem dX12_copies_5 : decode cX12_copies 5 = .ok (.if_icmp .ge 25, 3) := op_162 (a := 0) (b := 25) kcX12_copies (Nat.le_of_ble_eq_true rfl) rfl rfl rfl (by decide)
theorem dX12_copies_8 : decode cX12_copies 8 = .ok (.aload_n 0, 1) := op_42 kcX12_copies (Nat.le_of_ble_eq_true rfl) rfl
theorem dX12_copies_9 : decode cX12_copies 9 = .ok (.getfield 7, 3) := op_180 (a := 0) (b := 7) kcX12_copies (Nat.le_of_ble_eq_true rfl) rfl rfl rfl
theorem dX12_copies_12 : decode cX12_copies 12 = .ok (.iload_n 1, 1) := op_27 kcX12_copies (Nat.le_of_ble_eq_true rfl) rfl
theorem dX12_copies_13 : decode cX12_copies 13 = .ok (.iload_n 3, 1) := op_29 kcX12_copies (Nat.le_of_ble_eq_true rfl) rfl
theorem dX12_copies_14 : decode cX12_copies 14 = .ok (.iadd, 1) := op_96 kcX12_copies (Nat.le_of_ble_eq_true rfl) rfl
theorem dX12_copies_15 : decode cX12_copies 15 = .ok (.aload_n 0, 1) := op_42 kcX12_copies (Nat.le_of_ble_eq_true rfl) rfl
theorem dX12_copies_16 : decode cX12_copies 16 = .ok (.getfield 7, 3) := op_180 (a := 0) (b := 7) kcX12_copies (Nat.le_of_ble_eq_true rfl) rfl rfl rfl
theorem dX12_copies_19 : decode cX12_copies 19 = .ok (.iload_n 2, 1) := op_28 kcX12_copies (Nat.le_of_ble_eq_true rfl) rfl
theorem dX12_copies_20 : decode cX12_copies 20 = .ok (.iload_n 3, 1) := op_29 kcX12_copies (Nat.le_of_ble_eq_true rfl) rfl
theorem dX12_copies_21 : decode cX12_copies 21 = .ok (.iadd, 1) := op_96 kcX12_copies (Nat.le_of_ble_eq_true rfl) rfl
theorem dX12_copies_22 : decode cX12_copies 22 = .ok (.iaload, 1) := op_46 kcX12_copies (Nat.le_of_ble_eq_true rfl) rfl
theorem dX12_copies_23 : decode cX12_copies 23 = .ok (.iastore, 1) := op_79 kcX12_copies (Nat.le_of_ble_eq_true rfl) rfl
theorem dX12_copies_24 : decode cX12_copies 24 = .ok (.iinc 3 1, 3) := by decide +kernel
theorem dX12_copies_27 : decode cX12_copies 27 = .ok (.goto (-25), 3) := op_167 (a := 255) (b := 231) kcX12_copies (Nat.le_of_ble_eq_true rfl) rfl rfl rfl (by decide)
theorem dX12_copies_30 : decode cX12_copies 30 = .ok (.return_, 1) := op_177 kcX12_copies (Nat.le_of_ble_eq_true rfl) rfl
set_option maxRecDepth 20000 in
theorem gw_wsX12_copies : (wsX12_copies).all goodWord = true := by decide +kernel
set_option maxRecDepth 20000 in
theorem ggX12_unlikeBy_X12_copies : GoodIn wsX12_unlikeBy wsX12_copies := goodIn_r _ [8, 2, 27, 28, 29, 30, 31, 32, 33, 34, 35, 36, 37, 38, 39, 40, 41, 42, 43, 44, 45, 46, 47, 48, 49, 50, 51, 52, 53, 54, 55, 56, 57, 58, 59, 60, 61, 62, 63] rfl gw_wsX12_copies
set_option maxRecDepth 20000 in
theorem gX12_unlikeBy_X12_copies : GoodIn wsX12_unlikeBy (wsV RX12 298 RX12 yX12_copies wsX12_copies) := goodIn_app (goodIn_of _ (by decide +kernel)) ggX12_unlikeBy_X12_copies
set_option maxRecDepth 20000 in
theorem ggX12_unlikeBy_X12_goesDay : GoodIn wsX12_unlikeBy wsX12_goesDay := goodIn_r _ [12, 2, 1, 13, 14, 15, 16, 17, 18, 7, 19, 20, 21, 22, 23, 24, 25, 26, 27, 28, 29, 30, 31, 32, 33, 34, 35, 36, 37, 38, 39, 40, 41, 42, 43, 44, 45, 46, 47, 48, 49, 50, 51, 52, 53, 54, 55, 56, 57, 58, 59, 60, 61, 62, 63] rfl gw_wsX12_goesDay
set_option maxRecDepth 20000 in
theorem gX12_unlikeBy_X12_goesDay : GoodIn wsX12_unlikeBy (wsV RX12 226 RX12 yX12_goesDay wsX12_goesDay) := goodIn_app (goodIn_of _ (by decide +kernel)) ggX12_unlikeBy_X12_goesDay
theorem kcX12_unlikeBy : (cX12_unlikeBy).data.toList = cbs 0xac64051504152a01b67210032ab4ffa7010684053605150500a72e60061517100700b42a1000a205152e60061517100700b42a043604150500a72e60061517100700b42a1000a404152e60061517100700b42a4900a26400b42a061506360405362e17100700b42a04362e17100700b42adbffa70104843e040400a76c6700b42a1d0c00a4041de200b6706700b42a6c1d1b2a2500a21c0415043603f0ffa70104843e686700b42a1d1000a21c04150436043e04ebffa70103844f03601d17100700b42a1300a26400b42a1d3e032a01b60372102a 213 := by decide +kernel
theorem dX12_unlikeBy_0 : decode cX12_unlikeBy 0 = .ok (.aload_n 0, 1) := op_42 kcX12_unlikeBy (Nat.le_of_ble_eq_true rfl) rfl
theorem dX12_unlikeBy_1 : decode cX12_unlikeBy 1 = .ok (.bipush 114, 2) := op_16 (a := 114) kcX12_unlikeBy (Nat.le_of_ble_eq_true rfl) rfl rfl (by decide)
theorem dX12_unlikeBy_3 : decode cX12_unlikeBy 3 = .ok (.iconst 0, 1) := op_3 kcX12_unlikeBy (Nat.le_of_ble_eq_true rfl) rfl
theorem dX12_unlikeBy_4 : decode cX12_unlikeBy 4 = .ok (.invokevirtual 298, 3) := op_182 (a := 1) (b := 42) kcX12_unlikeBy (Nat.le_of_ble_eq_true rfl) rfl rfl rfl
theorem dX12_unlikeBy_7 : decode cX12_unlikeBy 7 = .ok (.iconst 0, 1) := op_3 kcX12_unlikeBy (Nat.le_of_ble_eq_true rfl) rfl
theorem dX12_unlikeBy_8 : decode cX12_unlikeBy 8 = .ok (.istore_n 3, 1) := op_62 kcX12_unlikeBy (Nat.le_of_ble_eq_true rfl) rfl
theorem dX12_unlikeBy_9 : decode cX12_unlikeBy 9 = .ok (.iload_n 3, 1) := op_29 kcX12_unlikeBy (Nat.le_of_ble_eq_true rfl) rfl
theorem dX12_unlikeBy_10 : decode cX12_unlikeBy 10 = .ok (.aload_n 0, 1) := op_42 kcX12_unlikeBy (Nat.le_of_ble_eq_true rfl) rfl
theorem dX12_unlikeBy_11 : decode cX12_unlikeBy 11 = .ok (.getfield 100, 3) := op_180 (a := 0) (b := 100) kcX12_unlikeBy (Nat.le_of_ble_eq_true rfl) rfl rfl rfl
theorem dX12_unlikeBy_14 : decode cX12_unlikeBy 14 = .ok (.if_icmp .ge 19, 3) := op_162 (a := 0) (b := 19) kcX12_unlikeBy (Nat.le_of_ble_eq_true rfl) rfl rfl rfl (by decide)
theorem dX12_unlikeBy_17 : decode cX12_unlikeBy 17 = .ok (.aload_n 0, 1) := op_42 kcX12_unlikeBy (Nat.le_of_ble_eq_true rfl) rfl
theorem dX12_unlikeBy_18 : decode cX12_unlikeBy 18 = .ok (.getfield 7, 3) := op_180 (a := 0) (b := 7) kcX12_unlikeBy (Nat.le_of_ble_eq_true rfl) rfl rfl rfl
theorem dX12_unlikeBy_21 : decode cX12_unlikeBy 21 = .ok (.bipush 23, 2) := op_16 (a := 23) kcX12_unlikeBy (Nat.le_of_ble_eq_true rfl) rfl rfl (by decide)
theorem dX12_unlikeBy_23 : decode cX12_unlikeBy 23 = .ok (.iload_n 3, 1) := op_29 kcX12_unlikeBy (Nat.le_of_ble_eq_true rfl) rfl
theorem dX12_unlikeBy_24 : decode cX12_unlikeBy 24 = .ok (.iadd, 1) := op_96 kcX12_unlikeBy (Nat.le_of_ble_eq_true rfl) rfl
theorem dX12_unlikeBy_25 : decode cX12_unlikeBy 25 = .ok (.iconst 0, 1) := op_3 kcX12_unlikeBy (Nat.le_of_ble_eq_true rfl) rfl
theorem dX12_unlikeBy_26 : decode cX12_unlikeBy 26 = .ok (.iastore, 1) := op_79 kcX12_unlikeBy (Nat.le_of_ble_eq_true rfl) rfl
theorem dX12_unlikeBy_27 : decode cX12_unlikeBy 27 = .ok (.iinc 3 1, 3) := by decide +kernel
theorem dX12_unlikeBy_30 : decode cX12_unlikeBy 30 = .ok (.goto (-21), 3) := op_167 (a := 255) (b := 235) kcX12_unlikeBy (Nat.le_of_ble_eq_true rfl) rfl rfl rfl (by decide)
theorem dX12_unlikeBy_33 : decode cX12_unlikeBy 33 = .ok (.iconst 1, 1) := op_4 kcX12_unlikeBy (Nat.le_of_ble_eq_true rfl) rfl
theorem dX12_unlikeBy_34 : decode cX12_unlikeBy 34 = .ok (.istore_n 3, 1) := op_62 kcX12_unlikeBy (Nat.le_of_ble_eq_true rfl) rfl
theorem dX12_unlikeBy_35 : decode cX12_unlikeBy 35 = .ok (.iconst 1, 1) := op_4 kcX12_unlikeBy (Nat.le_of_ble_eq_true rfl) rfl
theorem dX12_unlikeBy_36 : decode cX12_unlikeBy 36 = .ok (.istore 4, 2) := op_54 (a := 4) kcX12_unlikeBy (Nat.le_of_ble_eq_true rfl) rfl rfl
theorem dX12_unlikeBy_38 : decode cX12_unlikeBy 38 = .ok (.iload 4, 2) := op_21 (a := 4) kcX12_unlikeBy (Nat.le_of_ble_eq_true rfl) rfl rfl
theorem dX12_unlikeBy_40 : decode cX12_unlikeBy 40 = .ok (.iload_n 2, 1) := op_28 kcX12_unlikeBy (Nat.le_of_ble_eq_true rfl) rfl
theorem dX12_unlikeBy_41 : decode cX12_unlikeBy 41 = .ok (.if_icmp .ge 16, 3) := op_162 (a := 0) (b := 16) kcX12_unlikeBy (Nat.le_of_ble_eq_true rfl) rfl rfl rfl (by decide)
theorem dX12_unlikeBy_44 : decode cX12_unlikeBy 44 = .ok (.iload_n 3, 1) := op_29 kcX12_unlikeBy (Nat.le_of_ble_eq_true rfl) rfl
theorem dX12_unlikeBy_45 : decode cX12_unlikeBy 45 = .ok (.aload_n 0, 1) := op_42 kcX12_unlikeBy (Nat.le_of_ble_eq_true rfl) rfl
theorem dX12_unlikeBy_46 : decode cX12_unlikeBy 46 = .ok (.getfield 103, 3) := op_180 (a := 0) (b := 103) kcX12_unlikeBy (Nat.le_of_ble_eq_true rfl) rfl rfl rfl
theorem dX12_unlikeBy_49 : decode cX12_unlikeBy 49 = .ok (.imul, 1) := op_104 kcX12_unlikeBy (Nat.le_of_ble_eq_true rfl) rfl
theorem dX12_unlikeBy_50 : decode cX12_unlikeBy 50 = .ok (.istore_n 3, 1) := op_62 kcX12_unlikeBy (Nat.le_of_ble_eq_true rfl) rfl
theorem dX12_unlikeBy_51 : decode cX12_unlikeBy 51 = .ok (.iinc 4 1, 3) := by decide +kernel
theorem dX12_unlikeBy_54 : decode cX12_unlikeBy 54 = .ok (.goto (-16), 3) := op_167 (a := 255) (b := 240) kcX12_unlikeBy (Nat.le_of_ble_eq_true rfl) rfl rfl rfl (by decide)
theorem dX12_unlikeBy_57 : decode cX12_unlikeBy 57 = .ok (.iconst 0, 1) := op_3 kcX12_unlikeBy (Nat.le_of_ble_eq_true rfl) rfl
theorem dX12_unlikeBy_58 : decode cX12_unlikeBy 58 = .ok (.istore 4, 2) := op_54 (a := 4) kcX12_unlikeBy (Nat.le_of_ble_eq_true rfl) rfl rfl
theorem dX12_unlikeBy_60 : decode cX12_unlikeBy 60 = .ok (.iload 4, 2) := op_21 (a := 4) kcX12_unlikeBy (Nat.le_of_ble_eq_true rfl) rfl rfl
theorem dX12_unlikeBy_62 : decode cX12_unlikeBy 62 = .ok (.iload_n 2, 1) := op_28 kcX12_unlikeBy (Nat.le_of_ble_eq_true rfl) rfl
theorem dX12_unlikeBy_63 : decode cX12_unlikeBy 63 = .ok (.if_icmp .ge 37, 3) := op_162 (a := 0) (b := 37) kcX12_unlikeBy (Nat.le_of_ble_eq_true rfl) rfl rfl rfl (by decide)
theorem dX12_unlikeBy_66 : decode cX12_unlikeBy 66 = .ok (.aload_n 0, 1) := op_42 kcX12_unlikeBy (Nat.le_of_ble_eq_true rfl) rfl
theorem dX12_unlikeBy_67 : decode cX12_unlikeBy 67 = .ok (.iload_n 1, 1) := op_27 kcX12_unlikeBy (Nat.le_of_ble_eq_true rfl) rfl
theorem dX12_unlikeBy_68 : decode cX12_unlikeBy 68 = .ok (.iload_n 3, 1) := op_29 kcX12_unlikeBy (Nat.le_of_ble_eq_true rfl) rfl
theorem dX12_unlikeBy_69 : decode cX12_unlikeBy 69 = .ok (.idiv, 1) := op_108 kcX12_unlikeBy (Nat.le_of_ble_eq_true rfl) rfl
theorem dX12_unlikeBy_70 : decode cX12_unlikeBy 70 = .ok (.aload_n 0, 1) := op_42 kcX12_unlikeBy (Nat.le_of_ble_eq_true rfl) rfl
theorem dX12_unlikeBy_71 : decode cX12_unlikeBy 71 = .ok (.getfield 103, 3) := op_180 (a := 0) (b := 103) kcX12_unlikeBy (Nat.le_of_ble_eq_true rfl) rfl rfl rfl
theorem dX12_unlikeBy_74 : decode cX12_unlikeBy 74 = .ok (.irem, 1) := op_112 kcX12_unlikeBy (Nat.le_of_ble_eq_true rfl) rfl
theorem dX12_unlikeBy_75 : decode cX12_unlikeBy 75 = .ok (.invokevirtual 226, 3) := op_182 (a := 0) (b := 226) kcX12_unlikeBy (Nat.le_of_ble_eq_true rfl) rfl rfl rfl
theorem dX12_unlikeBy_78 : decode cX12_unlikeBy 78 = .ok (.iload_n 3, 1) := op_29 kcX12_unlikeBy (Nat.le_of_ble_eq_true rfl) rfl
theorem dX12_unlikeBy_79 : decode cX12_unlikeBy 79 = .ok (.iconst 1, 1) := op_4 kcX12_unlikeBy (Nat.le_of_ble_eq_true rfl) rfl
theorem dX12_unlikeBy_80 : decode cX12_unlikeBy 80 = .ok (.if_icmp .le 12, 3) := op_164 (a := 0) (b := 12) kcX12_unlikeBy (Nat.le_of_ble_eq_true rfl) rfl rfl rfl (by decide)
theorem dX12_unlikeBy_83 : decode cX12_unlikeBy 83 = .ok (.iload_n 3, 1) := op_29 kcX12_unlikeBy (Nat.le_of_ble_eq_true rfl) rfl
theorem dX12_unlikeBy_84 : decode cX12_unlikeBy 84 = .ok (.aload_n 0, 1) := op_42 kcX12_unlikeBy (Nat.le_of_ble_eq_true rfl) rfl
theorem dX12_unlikeBy_85 : decode cX12_unlikeBy 85 = .ok (.getfield 103, 3) := op_180 (a := 0) (b := 103) kcX12_unlikeBy (Nat.le_of_ble_eq_true rfl) rfl rfl rfl
theorem dX12_unlikeBy_88 : decode cX12_unlikeBy 88 = .ok (.idiv, 1) := op_108 kcX12_unlikeBy (Nat.le_of_ble_eq_true rfl) rfl
theorem dX12_unlikeBy_89 : decode cX12_unlikeBy 89 = .ok (.goto 4, 3) := op_167 (a := 0) (b := 4) kcX12_unlikeBy (Nat.le_of_ble_eq_true rfl) rfl rfl rfl (by decide)
theorem dX12_unlikeBy_92 : decode cX12_unlikeBy 92 = .ok (.iconst 1, 1) := op_4 kcX12_unlikeBy (Nat.le_of_ble_eq_true rfl) rfl
theorem dX12_unlikeBy_93 : decode cX12_unlikeBy 93 = .ok (.istore_n 3, 1) := op_62 kcX12_unlikeBy (Nat.le_of_ble_eq_true rfl) rfl
theorem dX12_unlikeBy_94 : decode cX12_unlikeBy 94 = .ok (.iinc 4 1, 3) := by decide +kernel
theorem dX12_unlikeBy_97 : decode cX12_unlikeBy 97 = .ok (.goto (-37), 3) := op_167 (a := 255) (b := 219) kcX12_unlikeBy (Nat.le_of_ble_eq_true rfl) rfl rfl rfl (by decide)
theorem dX12_unlikeBy_100 : decode cX12_unlikeBy 100 = .ok (.aload_n 0, 1) := op_42 kcX12_unlikeBy (Nat.le_of_ble_eq_true rfl) rfl
theorem dX12_unlikeBy_101 : decode cX12_unlikeBy 101 = .ok (.getfield 7, 3) := op_180 (a := 0) (b := 7) kcX12_unlikeBy (Nat.le_of_ble_eq_true rfl) rfl rfl rfl
theorem dX12_unlikeBy_104 : decode cX12_unlikeBy 104 = .ok (.bipush 23, 2) := op_16 (a := 23) kcX12_unlikeBy (Nat.le_of_ble_eq_true rfl) rfl rfl (by decide)
theorem dX12_unlikeBy_106 : decode cX12_unlikeBy 106 = .ok (.iaload, 1) := op_46 kcX12_unlikeBy (Nat.le_of_ble_eq_true rfl) rfl
theorem dX12_unlikeBy_107 : decode cX12_unlikeBy 107 = .ok (.istore 4, 2) := op_54 (a := 4) kcX12_unlikeBy (Nat.le_of_ble_eq_true rfl) rfl rfl
theorem dX12_unlikeBy_109 : decode cX12_unlikeBy 109 = .ok (.aload_n 0, 1) := op_42 kcX12_unlikeBy (Nat.le_of_ble_eq_true rfl) rfl
theorem dX12_unlikeBy_110 : decode cX12_unlikeBy 110 = .ok (.getfield 7, 3) := op_180 (a := 0) (b := 7) kcX12_unlikeBy (Nat.le_of_ble_eq_true rfl) rfl rfl rfl
theorem dX12_unlikeBy_113 : decode cX12_unlikeBy 113 = .ok (.bipush 23, 2) := op_16 (a := 23) kcX12_unlikeBy (Nat.le_of_ble_eq_true rfl) rfl rfl (by decide)
theorem dX12_unlikeBy_115 : decode cX12_unlikeBy 115 = .ok (.iaload, 1) := op_46 kcX12_unlikeBy (Nat.le_of_ble_eq_true rfl) rfl
theorem dX12_unlikeBy_116 : decode cX12_unlikeBy 116 = .ok (.istore 5, 2) := op_54 (a := 5) kcX12_unlikeBy (Nat.le_of_ble_eq_true rfl) rfl rfl
theorem dX12_unlikeBy_118 : decode cX12_unlikeBy 118 = .ok (.iconst 1, 1) := op_4 kcX12_unlikeBy (Nat.le_of_ble_eq_true rfl) rfl
theorem dX12_unlikeBy_119 : decode cX12_unlikeBy 119 = .ok (.istore 6, 2) := op_54 (a := 6) kcX12_unlikeBy (Nat.le_of_ble_eq_true rfl) rfl rfl
theorem dX12_unlikeBy_121 : decode cX12_unlikeBy 121 = .ok (.iload 6, 2) := op_21 (a := 6) kcX12_unlikeBy (Nat.le_of_ble_eq_true rfl) rfl rfl
theorem dX12_unlikeBy_123 : decode cX12_unlikeBy 123 = .ok (.aload_n 0, 1) := op_42 kcX12_unlikeBy (Nat.le_of_ble_eq_true rfl) rfl
theorem dX12_unlikeBy_124 : decode cX12_unlikeBy 124 = .ok (.getfield 100, 3) := op_180 (a := 0) (b := 100) kcX12_unlikeBy (Nat.le_of_ble_eq_true rfl) rfl rfl rfl
theorem dX12_unlikeBy_127 : decode cX12_unlikeBy 127 = .ok (.if_icmp .ge 73, 3) := op_162 (a := 0) (b := 73) kcX12_unlikeBy (Nat.le_of_ble_eq_true rfl) rfl rfl rfl (by decide)
theorem dX12_unlikeBy_130 : decode cX12_unlikeBy 130 = .ok (.aload_n 0, 1) := op_42 kcX12_unlikeBy (Nat.le_of_ble_eq_true rfl) rfl
theorem dX12_unlikeBy_131 : decode cX12_unlikeBy 131 = .ok (.getfield 7, 3) := op_180 (a := 0) (b := 7) kcX12_unlikeBy (Nat.le_of_ble_eq_true rfl) rfl rfl rfl
theorem dX12_unlikeBy_134 : decode cX12_unlikeBy 134 = .ok (.bipush 23, 2) := op_16 (a := 23) kcX12_unlikeBy (Nat.le_of_ble_eq_true rfl) rfl rfl (by decide)
theorem dX12_unlikeBy_136 : decode cX12_unlikeBy 136 = .ok (.iload 6, 2) := op_21 (a := 6) kcX12_unlikeBy (Nat.le_of_ble_eq_true rfl) rfl rfl
theorem dX12_unlikeBy_138 : decode cX12_unlikeBy 138 = .ok (.iadd, 1) := op_96 kcX12_unlikeBy (Nat.le_of_ble_eq_true rfl) rfl
theorem dX12_unlikeBy_139 : decode cX12_unlikeBy 139 = .ok (.iaload, 1) := op_46 kcX12_unlikeBy (Nat.le_of_ble_eq_true rfl) rfl
theorem dX12_unlikeBy_140 : decode cX12_unlikeBy 140 = .ok (.iload 4, 2) := op_21 (a := 4) kcX12_unlikeBy (Nat.le_of_ble_eq_true rfl) rfl rfl
theorem dX12_unlikeBy_142 : decode cX12_unlikeBy 142 = .ok (.if_icmp .le 16, 3) := op_164 (a := 0) (b := 16) kcX12_unlikeBy (Nat.le_of_ble_eq_true rfl) rfl rfl rfl (by decide)
theorem dX12_unlikeBy_145 : decode cX12_unlikeBy 145 = .ok (.aload_n 0, 1) := op_42 kcX12_unlikeBy (Nat.le_of_ble_eq_true rfl) rfl
theorem dX12_unlikeBy_146 : decode cX12_unlikeBy 146 = .ok (.getfield 7, 3) := op_180 (a := 0) (b := 7) kcX12_unlikeBy (Nat.le_of_ble_eq_true rfl) rfl rfl rfl
theorem dX12_unlikeBy_149 : decode cX12_unlikeBy 149 = .ok (.bipush 23, 2) := op_16 (a := 23) kcX12_unlikeBy (Nat.le_of_ble_eq_true rfl) rfl rfl (by decide)
theorem dX12_unlikeBy_151 : decode cX12_unlikeBy 151 = .ok (.iload 6, 2) := op_21 (a := 6) kcX12_unlikeBy (Nat.le_of_ble_eq_true rfl) rfl rfl
theorem dX12_unlikeBy_153 : decode cX12_unlikeBy 153 = .ok (.iadd, 1) := op_96 kcX12_unlikeBy (Nat.le_of_ble_eq_true rfl) rfl
theorem dX12_unlikeBy_154 : decode cX12_unlikeBy 154 = .ok (.iaload, 1) := op_46 kcX12_unlikeBy (Nat.le_of_ble_eq_true rfl) rfl
theorem dX12_unlikeBy_155 : decode cX12_unlikeBy 155 = .ok (.goto 5, 3) := op_167 (a := 0) (b := 5) kcX12_unlikeBy (Nat.le_of_ble_eq_true rfl) rfl rfl rfl (by decide)
theorem dX12_unlikeBy_158 : decode cX12_unlikeBy 158 = .ok (.iload 4, 2) := op_21 (a := 4) kcX12_unlikeBy (Nat.le_of_ble_eq_true rfl) rfl rfl
theorem dX12_unlikeBy_160 : decode cX12_unlikeBy 160 = .ok (.istore 4, 2) := op_54 (a := 4) kcX12_unlikeBy (Nat.le_of_ble_eq_true rfl) rfl rfl
theorem dX12_unlikeBy_162 : decode cX12_unlikeBy 162 = .ok (.aload_n 0, 1) := op_42 kcX12_unlikeBy (Nat.le_of_ble_eq_true rfl) rfl
theorem dX12_unlikeBy_163 : decode cX12_unlikeBy 163 = .ok (.getfield 7, 3) := op_180 (a := 0) (b := 7) kcX12_unlikeBy (Nat.le_of_ble_eq_true rfl) rfl rfl rfl
theorem dX12_unlikeBy_166 : decode cX12_unlikeBy 166 = .ok (.bipush 23, 2) := op_16 (a := 23) kcX12_unlikeBy (Nat.le_of_ble_eq_true rfl) rfl rfl (by decide)
theorem dX12_unlikeBy_168 : decode cX12_unlikeBy 168 = .ok (.iload 6, 2) := op_21 (a := 6) kcX12_unlikeBy (Nat.le_of_ble_eq_true rfl) rfl rfl
theorem dX12_unlikeBy_170 : decode cX12_unlikeBy 170 = .ok (.iadd, 1) := op_96 kcX12_unlikeBy (Nat.le_of_ble_eq_true rfl) rfl
theorem dX12_unlikeBy_171 : decode cX12_unlikeBy 171 = .ok (.iaload, 1) := op_46 kcX12_unlikeBy (Nat.le_of_ble_eq_true rfl) rfl
theorem dX12_unlikeBy_172 : decode cX12_unlikeBy 172 = .ok (.iload 5, 2) := op_21 (a := 5) kcX12_unlikeBy (Nat.le_of_ble_eq_true rfl) rfl rfl
theorem dX12_unlikeBy_174 : decode cX12_unlikeBy 174 = .ok (.if_icmp .ge 16, 3) := op_162 (a := 0) (b := 16) kcX12_unlikeBy (Nat.le_of_ble_eq_true rfl) rfl rfl rfl (by decide)
theorem dX12_unlikeBy_177 : decode cX12_unlikeBy 177 = .ok (.aload_n 0, 1) := op_42 kcX12_unlikeBy (Nat.le_of_ble_eq_true rfl) rfl
theorem dX12_unlikeBy_178 : decode cX12_unlikeBy 178 = .ok (.getfield 7, 3) := op_180 (a := 0) (b := 7) kcX12_unlikeBy (Nat.le_of_ble_eq_true rfl) rfl rfl rfl
theorem dX12_unlikeBy_181 : decode cX12_unlikeBy 181 = .ok (.bipush 23, 2) := op_16 (a := 23) kcX12_unlikeBy (Nat.le_of_ble_eq_true rfl) rfl rfl (by decide)
theorem dX12_unlikeBy_183 : decode cX12_unlikeBy 183 = .ok (.iload 6, 2) := op_21 (a := 6) kcX12_unlikeBy (Nat.le_of_ble_eq_true rfl) rfl rfl
theorem dX12_unlikeBy_185 : decode cX12_unlikeBy 185 = .ok (.iadd, 1) := op_96 kcX12_unlikeBy (Nat.le_of_ble_eq_true rfl) rfl
theorem dX12_unlikeBy_186 : decode cX12_unlikeBy 186 = .ok (.iaload, 1) := op_46 kcX12_unlikeBy (Nat.le_of_ble_eq_true rfl) rfl
theorem dX12_unlikeBy_187 : decode cX12_unlikeBy 187 = .ok (.goto 5, 3) := op_167 (a := 0) (b := 5) kcX12_unlikeBy (Nat.le_of_ble_eq_true rfl) rfl rfl rfl (by decide)
theorem dX12_unlikeBy_190 : decode cX12_unlikeBy 190 = .ok (.iload 5, 2) := op_21 (a := 5) kcX12_unlikeBy (Nat.le_of_ble_eq_true rfl) rfl rfl
theorem dX12_unlikeBy_192 : decode cX12_unlikeBy 192 = .ok (.istore 5, 2) := op_54 (a := 5) kcX12_unlikeBy (Nat.le_of_ble_eq_true rfl) rfl rfl
theorem dX12_unlikeBy_194 : decode cX12_unlikeBy 194 = .ok (.iinc 6 1, 3) := by decide +kernel
theorem dX12_unlikeBy_197 : decode cX12_unlikeBy 197 = .ok (.goto (-76), 3) := op_167 (a := 255) (b := 180) kcX12_unlikeBy (Nat.le_of_ble_eq_true rfl) rfl rfl rfl (by decide)
theorem dX12_unlikeBy_200 : decode cX12_unlikeBy 200 = .ok (.aload_n 0, 1) := op_42 kcX12_unlikeBy (Nat.le_of_ble_eq_true rfl) rfl
theorem dX12_unlikeBy_201 : decode cX12_unlikeBy 201 = .ok (.iconst 0, 1) := op_3 kcX12_unlikeBy (Nat.le_of_ble_eq_true rfl) rfl
theorem dX12_unlikeBy_202 : decode cX12_unlikeBy 202 = .ok (.bipush 114, 2) := op_16 (a := 114) kcX12_unlikeBy (Nat.le_of_ble_eq_true rfl) rfl rfl (by decide)
theorem dX12_unlikeBy_204 : decode cX12_unlikeBy 204 = .ok (.invokevirtual 298, 3) := op_182 (a := 1) (b := 42) kcX12_unlikeBy (Nat.le_of_ble_eq_true rfl) rfl rfl rfl
theorem dX12_unlikeBy_207 : decode cX12_unlikeBy 207 = .ok (.iload 4, 2) := op_21 (a := 4) kcX12_unlikeBy (Nat.le_of_ble_eq_true rfl) rfl rfl
theorem dX12_unlikeBy_209 : decode cX12_unlikeBy 209 = .ok (.iload 5, 2) := op_21 (a := 5) kcX12_unlikeBy (Nat.le_of_ble_eq_true rfl) rfl rfl
theorem dX12_unlikeBy_211 : decode cX12_unlikeBy 211 = .ok (.isub, 1) := op_100 kcX12_unlikeBy (Nat.le_of_ble_eq_true rfl) rfl
theorem dX12_unlikeBy_212 : decode cX12_unlikeBy 212 = .ok (.ireturn, 1) := op_172 kcX12_unlikeBy (Nat.le_of_ble_eq_true rfl) rfl
set_option maxRecDepth 20000 in
theorem ggX12_fair_X12_in : GoodIn wsX12_fair wsX12_in := goodIn_r _ [10] rfl gw_wsX12_in
set_option maxRecDepth 20000 in
theorem gX12_fair_X12_in : GoodIn wsX12_fair (va_wsS RX12 115 yX12_in wsX12_in) := goodIn_app (goodIn_of _ (by decide +kernel)) ggX12_fair_X12_in
set_option maxRecDepth 20000 in
theorem ggX12_fair_X12_power : GoodIn wsX12_fair wsX12_power := goodIn_r _ [14] rfl gw_wsX12_power
set_option maxRecDepth 20000 in
theorem gX12_fair_X12_power : GoodIn wsX12_fair (wsV RX12 252 RX12 yX12_power wsX12_power) := goodIn_app (goodIn_of _ (by decide +kernel)) ggX12_fair_X12_power
set_option maxRecDepth 20000 in
theorem gw_wsX12_unlikeBy : (wsX12_unlikeBy).all goodWord = true := by decide +kernel
set_option maxRecDepth 20000 in
theorem ggX12_fair_X12_unlikeBy : GoodIn wsX12_fair wsX12_unlikeBy := goodIn_r _ [18, 19, 20, 4, 21, 22, 23, 9, 24, 25, 26, 27, 28, 29, 30, 31, 32, 33, 34, 35, 36, 37, 38, 39, 40, 41, 42, 43, 44, 45, 46, 47, 48, 49, 50, 51, 52, 53, 54, 55, 56, 57, 58, 59, 60, 61, 62, 63, 64, 65, 66, 67, 68, 69, 70, 71, 72, 73, 74, 75, 76, 77, 78, 79] rfl gw_wsX12_unlikeBy
set_option maxRecDepth 20000 in
theorem gX12_fair_X12_unlikeBy : GoodIn wsX12_fair (wsV RX12 303 RX12 yX12_unlikeBy wsX12_unlikeBy) := goodIn_app (goodIn_of _ (by decide +kernel)) ggX12_fair_X12_unlikeBy
theorem kcX12_fair : (cX12_fair).data.toList = cbs 0xac2e640a101c4500b42a0c00a7051508009a1ce1ffa7ff068404366c6700b42a04154f706700b42a041506154500b42a20009b0615063664041bceffa7010684053605150500a707150800a205150715043604150500a706150800a20515071507362f01b61b06152a3200a21d061506360305360f01130436033e88fc00b61b856700b42a2aacfc100600a11b640a101cacfe1006009a6700b42aac0205009a7300b82d0114ec0014851c1300991c1500997300b8c100140a851b 187 := by decide +kernel
theorem dX12_fair_0 : decode cX12_fair 0 = .ok (.iload_n 1, 1) := op_27 kcX12_fair (Nat.le_of_ble_eq_true rfl) rfl
theorem dX12_fair_1 : decode cX12_fair 1 = .ok (.i2l, 1) := op_133 kcX12_fair (Nat.le_of_ble_eq_true rfl) rfl
theorem dX12_fair_2 : decode cX12_fair 2 = .ok (.lconst 1, 1) := op_10 kcX12_fair (Nat.le_of_ble_eq_true rfl) rfl
theorem dX12_fair_3 : decode cX12_fair 3 = .ok (.ldc2_w 193, 3) := op_20 (a := 0) (b := 193) kcX12_fair (Nat.le_of_ble_eq_true rfl) rfl rfl rfl
theorem dX12_fair_6 : decode cX12_fair 6 = .ok (.invokestatic 115, 3) := op_184 (a := 0) (b := 115) kcX12_fair (Nat.le_of_ble_eq_true rfl) rfl rfl rfl
theorem dX12_fair_9 : decode cX12_fair 9 = .ok (.ifCond .eq 21, 3) := op_153 (a := 0) (b := 21) kcX12_fair (Nat.le_of_ble_eq_true rfl) rfl rfl rfl (by decide)
theorem dX12_fair_12 : decode cX12_fair 12 = .ok (.iload_n 2, 1) := op_28 kcX12_fair (Nat.le_of_ble_eq_true rfl) rfl
theorem dX12_fair_13 : decode cX12_fair 13 = .ok (.ifCond .eq 19, 3) := op_153 (a := 0) (b := 19) kcX12_fair (Nat.le_of_ble_eq_true rfl) rfl rfl rfl (by decide)
theorem dX12_fair_16 : decode cX12_fair 16 = .ok (.iload_n 2, 1) := op_28 kcX12_fair (Nat.le_of_ble_eq_true rfl) rfl
theorem dX12_fair_17 : decode cX12_fair 17 = .ok (.i2l, 1) := op_133 kcX12_fair (Nat.le_of_ble_eq_true rfl) rfl
theorem dX12_fair_18 : decode cX12_fair 18 = .ok (.ldc2_w 236, 3) := op_20 (a := 0) (b := 236) kcX12_fair (Nat.le_of_ble_eq_true rfl) rfl rfl rfl
theorem dX12_fair_21 : decode cX12_fair 21 = .ok (.ldc2_w 301, 3) := op_20 (a := 1) (b := 45) kcX12_fair (Nat.le_of_ble_eq_true rfl) rfl rfl rfl
theorem dX12_fair_24 : decode cX12_fair 24 = .ok (.invokestatic 115, 3) := op_184 (a := 0) (b := 115) kcX12_fair (Nat.le_of_ble_eq_true rfl) rfl rfl rfl
theorem dX12_fair_27 : decode cX12_fair 27 = .ok (.ifCond .ne 5, 3) := op_154 (a := 0) (b := 5) kcX12_fair (Nat.le_of_ble_eq_true rfl) rfl rfl rfl (by decide)
theorem dX12_fair_30 : decode cX12_fair 30 = .ok (.iconst (-1), 1) := op_2 kcX12_fair (Nat.le_of_ble_eq_true rfl) rfl
theorem dX12_fair_31 : decode cX12_fair 31 = .ok (.ireturn, 1) := op_172 kcX12_fair (Nat.le_of_ble_eq_true rfl) rfl
theorem dX12_fair_32 : decode cX12_fair 32 = .ok (.aload_n 0, 1) := op_42 kcX12_fair (Nat.le_of_ble_eq_true rfl) rfl
theorem dX12_fair_33 : decode cX12_fair 33 = .ok (.getfield 103, 3) := op_180 (a := 0) (b := 103) kcX12_fair (Nat.le_of_ble_eq_true rfl) rfl rfl rfl
theorem dX12_fair_36 : decode cX12_fair 36 = .ok (.ifCond .ne 6, 3) := op_154 (a := 0) (b := 6) kcX12_fair (Nat.le_of_ble_eq_true rfl) rfl rfl rfl (by decide)
theorem dX12_fair_39 : decode cX12_fair 39 = .ok (.bipush (-2), 2) := op_16 (a := 254) kcX12_fair (Nat.le_of_ble_eq_true rfl) rfl rfl (by decide)
theorem dX12_fair_41 : decode cX12_fair 41 = .ok (.ireturn, 1) := op_172 kcX12_fair (Nat.le_of_ble_eq_true rfl) rfl
theorem dX12_fair_42 : decode cX12_fair 42 = .ok (.iload_n 2, 1) := op_28 kcX12_fair (Nat.le_of_ble_eq_true rfl) rfl
theorem dX12_fair_43 : decode cX12_fair 43 = .ok (.bipush 10, 2) := op_16 (a := 10) kcX12_fair (Nat.le_of_ble_eq_true rfl) rfl rfl (by decide)
theorem dX12_fair_45 : decode cX12_fair 45 = .ok (.isub, 1) := op_100 kcX12_fair (Nat.le_of_ble_eq_true rfl) rfl
theorem dX12_fair_46 : decode cX12_fair 46 = .ok (.iload_n 1, 1) := op_27 kcX12_fair (Nat.le_of_ble_eq_true rfl) rfl
theorem dX12_fair_47 : decode cX12_fair 47 = .ok (.if_icmp .lt 6, 3) := op_161 (a := 0) (b := 6) kcX12_fair (Nat.le_of_ble_eq_true rfl) rfl rfl rfl (by decide)
theorem dX12_fair_50 : decode cX12_fair 50 = .ok (.bipush (-4), 2) := op_16 (a := 252) kcX12_fair (Nat.le_of_ble_eq_true rfl) rfl rfl (by decide)
theorem dX12_fair_52 : decode cX12_fair 52 = .ok (.ireturn, 1) := op_172 kcX12_fair (Nat.le_of_ble_eq_true rfl) rfl
theorem dX12_fair_53 : decode cX12_fair 53 = .ok (.aload_n 0, 1) := op_42 kcX12_fair (Nat.le_of_ble_eq_true rfl) rfl
theorem dX12_fair_54 : decode cX12_fair 54 = .ok (.aload_n 0, 1) := op_42 kcX12_fair (Nat.le_of_ble_eq_true rfl) rfl
theorem dX12_fair_55 : decode cX12_fair 55 = .ok (.getfield 103, 3) := op_180 (a := 0) (b := 103) kcX12_fair (Nat.le_of_ble_eq_true rfl) rfl rfl rfl
theorem dX12_fair_58 : decode cX12_fair 58 = .ok (.i2l, 1) := op_133 kcX12_fair (Nat.le_of_ble_eq_true rfl) rfl
theorem dX12_fair_59 : decode cX12_fair 59 = .ok (.iload_n 1, 1) := op_27 kcX12_fair (Nat.le_of_ble_eq_true rfl) rfl
theorem dX12_fair_60 : decode cX12_fair 60 = .ok (.invokevirtual 252, 3) := op_182 (a := 0) (b := 252) kcX12_fair (Nat.le_of_ble_eq_true rfl) rfl rfl rfl
theorem dX12_fair_63 : decode cX12_fair 63 = .ok (.l2i, 1) := op_136 kcX12_fair (Nat.le_of_ble_eq_true rfl) rfl
theorem dX12_fair_64 : decode cX12_fair 64 = .ok (.istore_n 3, 1) := op_62 kcX12_fair (Nat.le_of_ble_eq_true rfl) rfl
theorem dX12_fair_65 : decode cX12_fair 65 = .ok (.iconst 0, 1) := op_3 kcX12_fair (Nat.le_of_ble_eq_true rfl) rfl
theorem dX12_fair_66 : decode cX12_fair 66 = .ok (.istore 4, 2) := op_54 (a := 4) kcX12_fair (Nat.le_of_ble_eq_true rfl) rfl rfl
theorem dX12_fair_68 : decode cX12_fair 68 = .ok (.ldc_w 271, 3) := op_19 (a := 1) (b := 15) kcX12_fair (Nat.le_of_ble_eq_true rfl) rfl rfl rfl
theorem dX12_fair_71 : decode cX12_fair 71 = .ok (.istore 5, 2) := op_54 (a := 5) kcX12_fair (Nat.le_of_ble_eq_true rfl) rfl rfl
theorem dX12_fair_73 : decode cX12_fair 73 = .ok (.iconst 0, 1) := op_3 kcX12_fair (Nat.le_of_ble_eq_true rfl) rfl
theorem dX12_fair_74 : decode cX12_fair 74 = .ok (.istore 6, 2) := op_54 (a := 6) kcX12_fair (Nat.le_of_ble_eq_true rfl) rfl rfl
theorem dX12_fair_76 : decode cX12_fair 76 = .ok (.iload 6, 2) := op_21 (a := 6) kcX12_fair (Nat.le_of_ble_eq_true rfl) rfl rfl
theorem dX12_fair_78 : decode cX12_fair 78 = .ok (.iload_n 3, 1) := op_29 kcX12_fair (Nat.le_of_ble_eq_true rfl) rfl
theorem dX12_fair_79 : decode cX12_fair 79 = .ok (.if_icmp .ge 50, 3) := op_162 (a := 0) (b := 50) kcX12_fair (Nat.le_of_ble_eq_true rfl) rfl rfl rfl (by decide)
theorem dX12_fair_82 : decode cX12_fair 82 = .ok (.aload_n 0, 1) := op_42 kcX12_fair (Nat.le_of_ble_eq_true rfl) rfl
theorem dX12_fair_83 : decode cX12_fair 83 = .ok (.iload 6, 2) := op_21 (a := 6) kcX12_fair (Nat.le_of_ble_eq_true rfl) rfl rfl
theorem dX12_fair_85 : decode cX12_fair 85 = .ok (.iload_n 1, 1) := op_27 kcX12_fair (Nat.le_of_ble_eq_true rfl) rfl
theorem dX12_fair_86 : decode cX12_fair 86 = .ok (.invokevirtual 303, 3) := op_182 (a := 1) (b := 47) kcX12_fair (Nat.le_of_ble_eq_true rfl) rfl rfl rfl
theorem dX12_fair_89 : decode cX12_fair 89 = .ok (.istore 7, 2) := op_54 (a := 7) kcX12_fair (Nat.le_of_ble_eq_true rfl) rfl rfl
theorem dX12_fair_91 : decode cX12_fair 91 = .ok (.iload 7, 2) := op_21 (a := 7) kcX12_fair (Nat.le_of_ble_eq_true rfl) rfl rfl
theorem dX12_fair_93 : decode cX12_fair 93 = .ok (.iload 5, 2) := op_21 (a := 5) kcX12_fair (Nat.le_of_ble_eq_true rfl) rfl rfl
theorem dX12_fair_95 : decode cX12_fair 95 = .ok (.if_icmp .ge 8, 3) := op_162 (a := 0) (b := 8) kcX12_fair (Nat.le_of_ble_eq_true rfl) rfl rfl rfl (by decide)
theorem dX12_fair_98 : decode cX12_fair 98 = .ok (.iload 6, 2) := op_21 (a := 6) kcX12_fair (Nat.le_of_ble_eq_true rfl) rfl rfl
theorem dX12_fair_100 : decode cX12_fair 100 = .ok (.goto 5, 3) := op_167 (a := 0) (b := 5) kcX12_fair (Nat.le_of_ble_eq_true rfl) rfl rfl rfl (by decide)
theorem dX12_fair_103 : decode cX12_fair 103 = .ok (.iload 4, 2) := op_21 (a := 4) kcX12_fair (Nat.le_of_ble_eq_true rfl) rfl rfl
theorem dX12_fair_105 : decode cX12_fair 105 = .ok (.istore 4, 2) := op_54 (a := 4) kcX12_fair (Nat.le_of_ble_eq_true rfl) rfl rfl
theorem dX12_fair_107 : decode cX12_fair 107 = .ok (.iload 7, 2) := op_21 (a := 7) kcX12_fair (Nat.le_of_ble_eq_true rfl) rfl rfl
theorem dX12_fair_109 : decode cX12_fair 109 = .ok (.iload 5, 2) := op_21 (a := 5) kcX12_fair (Nat.le_of_ble_eq_true rfl) rfl rfl
theorem dX12_fair_111 : decode cX12_fair 111 = .ok (.if_icmp .ge 8, 3) := op_162 (a := 0) (b := 8) kcX12_fair (Nat.le_of_ble_eq_true rfl) rfl rfl rfl (by decide)
theorem dX12_fair_114 : decode cX12_fair 114 = .ok (.iload 7, 2) := op_21 (a := 7) kcX12_fair (Nat.le_of_ble_eq_true rfl) rfl rfl
theorem dX12_fair_116 : decode cX12_fair 116 = .ok (.goto 5, 3) := op_167 (a := 0) (b := 5) kcX12_fair (Nat.le_of_ble_eq_true rfl) rfl rfl rfl (by decide)
theorem dX12_fair_119 : decode cX12_fair 119 = .ok (.iload 5, 2) := op_21 (a := 5) kcX12_fair (Nat.le_of_ble_eq_true rfl) rfl rfl
theorem dX12_fair_121 : decode cX12_fair 121 = .ok (.istore 5, 2) := op_54 (a := 5) kcX12_fair (Nat.le_of_ble_eq_true rfl) rfl rfl
theorem dX12_fair_123 : decode cX12_fair 123 = .ok (.iinc 6 1, 3) := by decide +kernel
theorem dX12_fair_126 : decode cX12_fair 126 = .ok (.goto (-50), 3) := op_167 (a := 255) (b := 206) kcX12_fair (Nat.le_of_ble_eq_true rfl) rfl rfl rfl (by decide)
theorem dX12_fair_129 : decode cX12_fair 129 = .ok (.iload_n 1, 1) := op_27 kcX12_fair (Nat.le_of_ble_eq_true rfl) rfl
theorem dX12_fair_130 : decode cX12_fair 130 = .ok (.iconst 1, 1) := op_4 kcX12_fair (Nat.le_of_ble_eq_true rfl) rfl
theorem dX12_fair_131 : decode cX12_fair 131 = .ok (.isub, 1) := op_100 kcX12_fair (Nat.le_of_ble_eq_true rfl) rfl
theorem dX12_fair_132 : decode cX12_fair 132 = .ok (.istore 6, 2) := op_54 (a := 6) kcX12_fair (Nat.le_of_ble_eq_true rfl) rfl rfl
theorem dX12_fair_134 : decode cX12_fair 134 = .ok (.iload 6, 2) := op_21 (a := 6) kcX12_fair (Nat.le_of_ble_eq_true rfl) rfl rfl
theorem dX12_fair_136 : decode cX12_fair 136 = .ok (.ifCond .lt 32, 3) := op_155 (a := 0) (b := 32) kcX12_fair (Nat.le_of_ble_eq_true rfl) rfl rfl rfl (by decide)
theorem dX12_fair_139 : decode cX12_fair 139 = .ok (.aload_n 0, 1) := op_42 kcX12_fair (Nat.le_of_ble_eq_true rfl) rfl
theorem dX12_fair_140 : decode cX12_fair 140 = .ok (.getfield 69, 3) := op_180 (a := 0) (b := 69) kcX12_fair (Nat.le_of_ble_eq_true rfl) rfl rfl rfl
theorem dX12_fair_143 : decode cX12_fair 143 = .ok (.iload 6, 2) := op_21 (a := 6) kcX12_fair (Nat.le_of_ble_eq_true rfl) rfl rfl
theorem dX12_fair_145 : decode cX12_fair 145 = .ok (.iload 4, 2) := op_21 (a := 4) kcX12_fair (Nat.le_of_ble_eq_true rfl) rfl rfl
theorem dX12_fair_147 : decode cX12_fair 147 = .ok (.aload_n 0, 1) := op_42 kcX12_fair (Nat.le_of_ble_eq_true rfl) rfl
theorem dX12_fair_148 : decode cX12_fair 148 = .ok (.getfield 103, 3) := op_180 (a := 0) (b := 103) kcX12_fair (Nat.le_of_ble_eq_true rfl) rfl rfl rfl
theorem dX12_fair_151 : decode cX12_fair 151 = .ok (.irem, 1) := op_112 kcX12_fair (Nat.le_of_ble_eq_true rfl) rfl
theorem dX12_fair_152 : decode cX12_fair 152 = .ok (.iastore, 1) := op_79 kcX12_fair (Nat.le_of_ble_eq_true rfl) rfl
theorem dX12_fair_153 : decode cX12_fair 153 = .ok (.iload 4, 2) := op_21 (a := 4) kcX12_fair (Nat.le_of_ble_eq_true rfl) rfl rfl
theorem dX12_fair_155 : decode cX12_fair 155 = .ok (.aload_n 0, 1) := op_42 kcX12_fair (Nat.le_of_ble_eq_true rfl) rfl
theorem dX12_fair_156 : decode cX12_fair 156 = .ok (.getfield 103, 3) := op_180 (a := 0) (b := 103) kcX12_fair (Nat.le_of_ble_eq_true rfl) rfl rfl rfl
theorem dX12_fair_159 : decode cX12_fair 159 = .ok (.idiv, 1) := op_108 kcX12_fair (Nat.le_of_ble_eq_true rfl) rfl
theorem dX12_fair_160 : decode cX12_fair 160 = .ok (.istore 4, 2) := op_54 (a := 4) kcX12_fair (Nat.le_of_ble_eq_true rfl) rfl rfl
theorem dX12_fair_162 : decode cX12_fair 162 = .ok (.iinc 6 (-1), 3) := by decide +kernel
theorem dX12_fair_165 : decode cX12_fair 165 = .ok (.goto (-31), 3) := op_167 (a := 255) (b := 225) kcX12_fair (Nat.le_of_ble_eq_true rfl) rfl rfl rfl (by decide)
theorem dX12_fair_168 : decode cX12_fair 168 = .ok (.iload_n 2, 1) := op_28 kcX12_fair (Nat.le_of_ble_eq_true rfl) rfl
theorem dX12_fair_169 : decode cX12_fair 169 = .ok (.ifCond .ne 8, 3) := op_154 (a := 0) (b := 8) kcX12_fair (Nat.le_of_ble_eq_true rfl) rfl rfl rfl (by decide)
theorem dX12_fair_172 : decode cX12_fair 172 = .ok (.iload 5, 2) := op_21 (a := 5) kcX12_fair (Nat.le_of_ble_eq_true rfl) rfl rfl
theorem dX12_fair_174 : decode cX12_fair 174 = .ok (.goto 12, 3) := op_167 (a := 0) (b := 12) kcX12_fair (Nat.le_of_ble_eq_true rfl) rfl rfl rfl (by decide)
theorem dX12_fair_177 : decode cX12_fair 177 = .ok (.aload_n 0, 1) := op_42 kcX12_fair (Nat.le_of_ble_eq_true rfl) rfl
theorem dX12_fair_178 : decode cX12_fair 178 = .ok (.getfield 69, 3) := op_180 (a := 0) (b := 69) kcX12_fair (Nat.le_of_ble_eq_true rfl) rfl rfl rfl
theorem dX12_fair_181 : decode cX12_fair 181 = .ok (.iload_n 2, 1) := op_28 kcX12_fair (Nat.le_of_ble_eq_true rfl) rfl
theorem dX12_fair_182 : decode cX12_fair 182 = .ok (.bipush 10, 2) := op_16 (a := 10) kcX12_fair (Nat.le_of_ble_eq_true rfl) rfl rfl (by decide)
theorem dX12_fair_184 : decode cX12_fair 184 = .ok (.isub, 1) := op_100 kcX12_fair (Nat.le_of_ble_eq_true rfl) rfl
theorem dX12_fair_185 : decode cX12_fair 185 = .ok (.iaload, 1) := op_46 kcX12_fair (Nat.le_of_ble_eq_true rfl) rfl
theorem dX12_fair_186 : decode cX12_fair 186 = .ok (.ireturn, 1) := op_172 kcX12_fair (Nat.le_of_ble_eq_true rfl) rfl
set_option maxRecDepth 20000 in
theorem ggX12_keep_X12_in : GoodIn wsX12_keep wsX12_in := goodIn_r _ [5] rfl gw_wsX12_in
set_option maxRecDepth 20000 in
theorem gX12_keep_X12_in : GoodIn wsX12_keep (va_wsS RX12 115 yX12_in wsX12_in) := goodIn_app (goodIn_of _ (by decide +kernel)) ggX12_keep_X12_in
set_option maxRecDepth 20000 in
theorem ggX12_keep_X12_flag : GoodIn wsX12_keep wsX12_flag := goodIn_r _ [8] rfl gw_wsX12_flag
set_option maxRecDepth 20000 in
theorem gX12_keep_X12_flag : GoodIn wsX12_keep (va_wsS RX12 212 yX12_flag wsX12_flag) := goodIn_app (goodIn_of _ (by decide +kernel)) ggX12_keep_X12_flag
set_option maxRecDepth 20000 in
theorem ggX12_keep_X12_copies : GoodIn wsX12_keep wsX12_copies := goodIn_r _ [12, 13, 14, 15, 16, 17, 18, 19, 20, 21, 22, 23, 24, 25, 26, 27, 28, 29, 30, 31, 32, 33, 34, 35, 36, 37, 38, 39, 40, 41, 42, 43, 44, 45, 46, 47, 48, 49, 50] rfl gw_wsX12_copies
set_option maxRecDepth 20000 in
theorem gX12_keep_X12_copies : GoodIn wsX12_keep (wsV RX12 298 RX12 yX12_copies wsX12_copies) := goodIn_app (goodIn_of _ (by decide +kernel)) ggX12_keep_X12_copies
theorem kcX12_keep : (cX12_keep).data.toList = cbs 0xac1c2a01b6036860041b26102a54041b0d00b42a3dd400b8331b0d00b42aac0205009a7300b80a09851b 42 := by decide +kernel
theorem dX12_keep_0 : decode cX12_keep 0 = .ok (.iload_n 1, 1) := op_27 kcX12_keep (Nat.le_of_ble_eq_true rfl) rfl
theorem dX12_keep_1 : decode cX12_keep 1 = .ok (.i2l, 1) := op_133 kcX12_keep (Nat.le_of_ble_eq_true rfl) rfl
theorem dX12_keep_2 : decode cX12_keep 2 = .ok (.lconst 0, 1) := op_9 kcX12_keep (Nat.le_of_ble_eq_true rfl) rfl
theorem dX12_keep_3 : decode cX12_keep 3 = .ok (.lconst 1, 1) := op_10 kcX12_keep (Nat.le_of_ble_eq_true rfl) rfl
theorem dX12_keep_4 : decode cX12_keep 4 = .ok (.invokestatic 115, 3) := op_184 (a := 0) (b := 115) kcX12_keep (Nat.le_of_ble_eq_true rfl) rfl rfl rfl
theorem dX12_keep_7 : decode cX12_keep 7 = .ok (.ifCond .ne 5, 3) := op_154 (a := 0) (b := 5) kcX12_keep (Nat.le_of_ble_eq_true rfl) rfl rfl rfl (by decide)
theorem dX12_keep_10 : decode cX12_keep 10 = .ok (.iconst (-1), 1) := op_2 kcX12_keep (Nat.le_of_ble_eq_true rfl) rfl
theorem dX12_keep_11 : decode cX12_keep 11 = .ok (.ireturn, 1) := op_172 kcX12_keep (Nat.le_of_ble_eq_true rfl) rfl
theorem dX12_keep_12 : decode cX12_keep 12 = .ok (.aload_n 0, 1) := op_42 kcX12_keep (Nat.le_of_ble_eq_true rfl) rfl
theorem dX12_keep_13 : decode cX12_keep 13 = .ok (.getfield 13, 3) := op_180 (a := 0) (b := 13) kcX12_keep (Nat.le_of_ble_eq_true rfl) rfl rfl rfl
theorem dX12_keep_16 : decode cX12_keep 16 = .ok (.iload_n 1, 1) := op_27 kcX12_keep (Nat.le_of_ble_eq_true rfl) rfl
theorem dX12_keep_17 : decode cX12_keep 17 = .ok (.baload, 1) := op_51 kcX12_keep (Nat.le_of_ble_eq_true rfl) rfl
theorem dX12_keep_18 : decode cX12_keep 18 = .ok (.invokestatic 212, 3) := op_184 (a := 0) (b := 212) kcX12_keep (Nat.le_of_ble_eq_true rfl) rfl rfl rfl
theorem dX12_keep_21 : decode cX12_keep 21 = .ok (.istore_n 2, 1) := op_61 kcX12_keep (Nat.le_of_ble_eq_true rfl) rfl
theorem dX12_keep_22 : decode cX12_keep 22 = .ok (.aload_n 0, 1) := op_42 kcX12_keep (Nat.le_of_ble_eq_true rfl) rfl
theorem dX12_keep_23 : decode cX12_keep 23 = .ok (.getfield 13, 3) := op_180 (a := 0) (b := 13) kcX12_keep (Nat.le_of_ble_eq_true rfl) rfl rfl rfl
theorem dX12_keep_26 : decode cX12_keep 26 = .ok (.iload_n 1, 1) := op_27 kcX12_keep (Nat.le_of_ble_eq_true rfl) rfl
theorem dX12_keep_27 : decode cX12_keep 27 = .ok (.iconst 1, 1) := op_4 kcX12_keep (Nat.le_of_ble_eq_true rfl) rfl
theorem dX12_keep_28 : decode cX12_keep 28 = .ok (.bastore, 1) := op_84 kcX12_keep (Nat.le_of_ble_eq_true rfl) rfl
theorem dX12_keep_29 : decode cX12_keep 29 = .ok (.aload_n 0, 1) := op_42 kcX12_keep (Nat.le_of_ble_eq_true rfl) rfl
theorem dX12_keep_30 : decode cX12_keep 30 = .ok (.bipush 38, 2) := op_16 (a := 38) kcX12_keep (Nat.le_of_ble_eq_true rfl) rfl rfl (by decide)
theorem dX12_keep_32 : decode cX12_keep 32 = .ok (.iload_n 1, 1) := op_27 kcX12_keep (Nat.le_of_ble_eq_true rfl) rfl
theorem dX12_keep_33 : decode cX12_keep 33 = .ok (.iconst 1, 1) := op_4 kcX12_keep (Nat.le_of_ble_eq_true rfl) rfl
theorem dX12_keep_34 : decode cX12_keep 34 = .ok (.iadd, 1) := op_96 kcX12_keep (Nat.le_of_ble_eq_true rfl) rfl
theorem dX12_keep_35 : decode cX12_keep 35 = .ok (.imul, 1) := op_104 kcX12_keep (Nat.le_of_ble_eq_true rfl) rfl
theorem dX12_keep_36 : decode cX12_keep 36 = .ok (.iconst 0, 1) := op_3 kcX12_keep (Nat.le_of_ble_eq_true rfl) rfl
theorem dX12_keep_37 : decode cX12_keep 37 = .ok (.invokevirtual 298, 3) := op_182 (a := 1) (b := 42) kcX12_keep (Nat.le_of_ble_eq_true rfl) rfl rfl rfl
theorem dX12_keep_40 : decode cX12_keep 40 = .ok (.iload_n 2, 1) := op_28 kcX12_keep (Nat.le_of_ble_eq_true rfl) rfl
theorem dX12_keep_41 : decode cX12_keep 41 = .ok (.ireturn, 1) := op_172 kcX12_keep (Nat.le_of_ble_eq_true rfl) rfl
set_option maxRecDepth 20000 in
theorem ggX12_back_X12_in : GoodIn wsX12_back wsX12_in := goodIn_r _ [6] rfl gw_wsX12_in
set_option maxRecDepth 20000 in
theorem gX12_back_X12_in : GoodIn wsX12_back (va_wsS RX12 115 yX12_in wsX12_in) := goodIn_app (goodIn_of _ (by decide +kernel)) ggX12_back_X12_in
set_option maxRecDepth 20000 in
theorem ggX12_back_X12_copies : GoodIn wsX12_back wsX12_copies := goodIn_r _ [10, 2, 11, 12, 13, 14, 15, 16, 17, 18, 19, 20, 21, 22, 23, 24, 25, 26, 27, 28, 29, 30, 31, 32, 33, 34, 35, 36, 37, 38, 39, 40, 41, 42, 43, 44, 45, 46, 47] rfl gw_wsX12_copies
set_option maxRecDepth 20000 in
theorem gX12_back_X12_copies : GoodIn wsX12_back (wsV RX12 298 RX12 yX12_copies wsX12_copies) := goodIn_app (goodIn_of _ (by decide +kernel)) ggX12_back_X12_copies
theorem kcX12_back : (cX12_back).data.toList = cbs 0xac2e08100700b42a2a01b66860041b2610032aacfe1006009a331b0d00b42aac0205009a7300b80a09851b 43 := by decide +kernel
theorem dX12_back_0 : decode cX12_back 0 = .ok (.iload_n 1, 1) := op_27 kcX12_back (Nat.le_of_ble_eq_true rfl) rfl
theorem dX12_back_1 : decode cX12_back 1 = .ok (.i2l, 1) := op_133 kcX12_back (Nat.le_of_ble_eq_true rfl) rfl
theorem dX12_back_2 : decode cX12_back 2 = .ok (.lconst 0, 1) := op_9 kcX12_back (Nat.le_of_ble_eq_true rfl) rfl
theorem dX12_back_3 : decode cX12_back 3 = .ok (.lconst 1, 1) := op_10 kcX12_back (Nat.le_of_ble_eq_true rfl) rfl
theorem dX12_back_4 : decode cX12_back 4 = .ok (.invokestatic 115, 3) := op_184 (a := 0) (b := 115) kcX12_back (Nat.le_of_ble_eq_true rfl) rfl rfl rfl
theorem dX12_back_7 : decode cX12_back 7 = .ok (.ifCond .ne 5, 3) := op_154 (a := 0) (b := 5) kcX12_back (Nat.le_of_ble_eq_true rfl) rfl rfl rfl (by decide)
theorem dX12_back_10 : decode cX12_back 10 = .ok (.iconst (-1), 1) := op_2 kcX12_back (Nat.le_of_ble_eq_true rfl) rfl
theorem dX12_back_11 : decode cX12_back 11 = .ok (.ireturn, 1) := op_172 kcX12_back (Nat.le_of_ble_eq_true rfl) rfl
theorem dX12_back_12 : decode cX12_back 12 = .ok (.aload_n 0, 1) := op_42 kcX12_back (Nat.le_of_ble_eq_true rfl) rfl
theorem dX12_back_13 : decode cX12_back 13 = .ok (.getfield 13, 3) := op_180 (a := 0) (b := 13) kcX12_back (Nat.le_of_ble_eq_true rfl) rfl rfl rfl
theorem dX12_back_16 : decode cX12_back 16 = .ok (.iload_n 1, 1) := op_27 kcX12_back (Nat.le_of_ble_eq_true rfl) rfl
theorem dX12_back_17 : decode cX12_back 17 = .ok (.baload, 1) := op_51 kcX12_back (Nat.le_of_ble_eq_true rfl) rfl
theorem dX12_back_18 : decode cX12_back 18 = .ok (.ifCond .ne 6, 3) := op_154 (a := 0) (b := 6) kcX12_back (Nat.le_of_ble_eq_true rfl) rfl rfl rfl (by decide)
theorem dX12_back_21 : decode cX12_back 21 = .ok (.bipush (-2), 2) := op_16 (a := 254) kcX12_back (Nat.le_of_ble_eq_true rfl) rfl rfl (by decide)
theorem dX12_back_23 : decode cX12_back 23 = .ok (.ireturn, 1) := op_172 kcX12_back (Nat.le_of_ble_eq_true rfl) rfl
theorem dX12_back_24 : decode cX12_back 24 = .ok (.aload_n 0, 1) := op_42 kcX12_back (Nat.le_of_ble_eq_true rfl) rfl
theorem dX12_back_25 : decode cX12_back 25 = .ok (.iconst 0, 1) := op_3 kcX12_back (Nat.le_of_ble_eq_true rfl) rfl
theorem dX12_back_26 : decode cX12_back 26 = .ok (.bipush 38, 2) := op_16 (a := 38) kcX12_back (Nat.le_of_ble_eq_true rfl) rfl rfl (by decide)
theorem dX12_back_28 : decode cX12_back 28 = .ok (.iload_n 1, 1) := op_27 kcX12_back (Nat.le_of_ble_eq_true rfl) rfl
theorem dX12_back_29 : decode cX12_back 29 = .ok (.iconst 1, 1) := op_4 kcX12_back (Nat.le_of_ble_eq_true rfl) rfl
theorem dX12_back_30 : decode cX12_back 30 = .ok (.iadd, 1) := op_96 kcX12_back (Nat.le_of_ble_eq_true rfl) rfl
theorem dX12_back_31 : decode cX12_back 31 = .ok (.imul, 1) := op_104 kcX12_back (Nat.le_of_ble_eq_true rfl) rfl
theorem dX12_back_32 : decode cX12_back 32 = .ok (.invokevirtual 298, 3) := op_182 (a := 1) (b := 42) kcX12_back (Nat.le_of_ble_eq_true rfl) rfl rfl rfl
theorem dX12_back_35 : decode cX12_back 35 = .ok (.aload_n 0, 1) := op_42 kcX12_back (Nat.le_of_ble_eq_true rfl) rfl
theorem dX12_back_36 : decode cX12_back 36 = .ok (.getfield 7, 3) := op_180 (a := 0) (b := 7) kcX12_back (Nat.le_of_ble_eq_true rfl) rfl rfl rfl
theorem dX12_back_39 : decode cX12_back 39 = .ok (.bipush 8, 2) := op_16 (a := 8) kcX12_back (Nat.le_of_ble_eq_true rfl) rfl rfl (by decide)
theorem dX12_back_41 : decode cX12_back 41 = .ok (.iaload, 1) := op_46 kcX12_back (Nat.le_of_ble_eq_true rfl) rfl
theorem dX12_back_42 : decode cX12_back 42 = .ok (.ireturn, 1) := op_172 kcX12_back (Nat.le_of_ble_eq_true rfl) rfl
set_option maxRecDepth 20000 in
theorem ggX12_isSheet_X12_in : GoodIn wsX12_isSheet wsX12_in := goodIn_r _ [6] rfl gw_wsX12_in
set_option maxRecDepth 20000 in
theorem gX12_isSheet_X12_in : GoodIn wsX12_isSheet (va_wsS RX12 115 yX12_in wsX12_in) := goodIn_app (goodIn_of _ (by decide +kernel)) ggX12_isSheet_X12_in
theorem kcX12_isSheet : (cX12_isSheet).data.toList = cbs 0xac030400a7040700997300b834011409851b1300997300b832011409851a 30 := by decide +kernel
theorem dX12_isSheet_0 : decode cX12_isSheet 0 = .ok (.iload_n 0, 1) := op_26 kcX12_isSheet (Nat.le_of_ble_eq_true rfl) rfl
theorem dX12_isSheet_1 : decode cX12_isSheet 1 = .ok (.i2l, 1) := op_133 kcX12_isSheet (Nat.le_of_ble_eq_true rfl) rfl
theorem dX12_isSheet_2 : decode cX12_isSheet 2 = .ok (.lconst 0, 1) := op_9 kcX12_isSheet (Nat.le_of_ble_eq_true rfl) rfl
theorem dX12_isSheet_3 : decode cX12_isSheet 3 = .ok (.ldc2_w 306, 3) := op_20 (a := 1) (b := 50) kcX12_isSheet (Nat.le_of_ble_eq_true rfl) rfl rfl rfl
theorem dX12_isSheet_6 : decode cX12_isSheet 6 = .ok (.invokestatic 115, 3) := op_184 (a := 0) (b := 115) kcX12_isSheet (Nat.le_of_ble_eq_true rfl) rfl rfl rfl
theorem dX12_isSheet_9 : decode cX12_isSheet 9 = .ok (.ifCond .eq 19, 3) := op_153 (a := 0) (b := 19) kcX12_isSheet (Nat.le_of_ble_eq_true rfl) rfl rfl rfl (by decide)
theorem dX12_isSheet_12 : decode cX12_isSheet 12 = .ok (.iload_n 1, 1) := op_27 kcX12_isSheet (Nat.le_of_ble_eq_true rfl) rfl
theorem dX12_isSheet_13 : decode cX12_isSheet 13 = .ok (.i2l, 1) := op_133 kcX12_isSheet (Nat.le_of_ble_eq_true rfl) rfl
theorem dX12_isSheet_14 : decode cX12_isSheet 14 = .ok (.lconst 0, 1) := op_9 kcX12_isSheet (Nat.le_of_ble_eq_true rfl) rfl
theorem dX12_isSheet_15 : decode cX12_isSheet 15 = .ok (.ldc2_w 308, 3) := op_20 (a := 1) (b := 52) kcX12_isSheet (Nat.le_of_ble_eq_true rfl) rfl rfl rfl
theorem dX12_isSheet_18 : decode cX12_isSheet 18 = .ok (.invokestatic 115, 3) := op_184 (a := 0) (b := 115) kcX12_isSheet (Nat.le_of_ble_eq_true rfl) rfl rfl rfl
theorem dX12_isSheet_21 : decode cX12_isSheet 21 = .ok (.ifCond .eq 7, 3) := op_153 (a := 0) (b := 7) kcX12_isSheet (Nat.le_of_ble_eq_true rfl) rfl rfl rfl (by decide)
theorem dX12_isSheet_24 : decode cX12_isSheet 24 = .ok (.iconst 1, 1) := op_4 kcX12_isSheet (Nat.le_of_ble_eq_true rfl) rfl
theorem dX12_isSheet_25 : decode cX12_isSheet 25 = .ok (.goto 4, 3) := op_167 (a := 0) (b := 4) kcX12_isSheet (Nat.le_of_ble_eq_true rfl) rfl rfl rfl (by decide)
theorem dX12_isSheet_28 : decode cX12_isSheet 28 = .ok (.iconst 0, 1) := op_3 kcX12_isSheet (Nat.le_of_ble_eq_true rfl) rfl
theorem dX12_isSheet_29 : decode cX12_isSheet 29 = .ok (.ireturn, 1) := op_172 kcX12_isSheet (Nat.le_of_ble_eq_true rfl) rfl
set_option maxRecDepth 20000 in
theorem gw_wsX12_isSheet : (wsX12_isSheet).all goodWord = true := by decide +kernel
set_option maxRecDepth 20000 in
theorem ggX12_sheet_X12_isSheet : GoodIn wsX12_sheet wsX12_isSheet := goodIn_r _ [7, 8, 9, 10, 11, 6, 12] rfl gw_wsX12_isSheet
set_option maxRecDepth 20000 in
theorem gX12_sheet_X12_isSheet : GoodIn wsX12_sheet (va_wsS RX12 310 yX12_isSheet wsX12_isSheet) := goodIn_app (goodIn_of _ (by decide +kernel)) ggX12_sheet_X12_isSheet
theorem kcX12_sheet : (cX12_sheet).data.toList = cbs 0xac04e9ffa70104844f03600415681b28104e00b42a1600a2281004150436034f1d1b4b00b42a4f1c1b4800b42aacf21006009c1dac020500a428101d0900993601b81c1b 68 := by decide +kernel
theorem dX12_sheet_0 : decode cX12_sheet 0 = .ok (.iload_n 1, 1) := op_27 kcX12_sheet (Nat.le_of_ble_eq_true rfl) rfl
theorem dX12_sheet_1 : decode cX12_sheet 1 = .ok (.iload_n 2, 1) := op_28 kcX12_sheet (Nat.le_of_ble_eq_true rfl) rfl
theorem dX12_sheet_2 : decode cX12_sheet 2 = .ok (.invokestatic 310, 3) := op_184 (a := 1) (b := 54) kcX12_sheet (Nat.le_of_ble_eq_true rfl) rfl rfl rfl
theorem dX12_sheet_5 : decode cX12_sheet 5 = .ok (.ifCond .eq 9, 3) := op_153 (a := 0) (b := 9) kcX12_sheet (Nat.le_of_ble_eq_true rfl) rfl rfl rfl (by decide)
theorem dX12_sheet_8 : decode cX12_sheet 8 = .ok (.iload_n 3, 1) := op_29 kcX12_sheet (Nat.le_of_ble_eq_true rfl) rfl
theorem dX12_sheet_9 : decode cX12_sheet 9 = .ok (.bipush 40, 2) := op_16 (a := 40) kcX12_sheet (Nat.le_of_ble_eq_true rfl) rfl rfl (by decide)
theorem dX12_sheet_11 : decode cX12_sheet 11 = .ok (.if_icmp .le 5, 3) := op_164 (a := 0) (b := 5) kcX12_sheet (Nat.le_of_ble_eq_true rfl) rfl rfl rfl (by decide)
theorem dX12_sheet_14 : decode cX12_sheet 14 = .ok (.iconst (-1), 1) := op_2 kcX12_sheet (Nat.le_of_ble_eq_true rfl) rfl
theorem dX12_sheet_15 : decode cX12_sheet 15 = .ok (.ireturn, 1) := op_172 kcX12_sheet (Nat.le_of_ble_eq_true rfl) rfl
theorem dX12_sheet_16 : decode cX12_sheet 16 = .ok (.iload_n 3, 1) := op_29 kcX12_sheet (Nat.le_of_ble_eq_true rfl) rfl
theorem dX12_sheet_17 : decode cX12_sheet 17 = .ok (.ifCond .ge 6, 3) := op_156 (a := 0) (b := 6) kcX12_sheet (Nat.le_of_ble_eq_true rfl) rfl rfl rfl (by decide)
theorem dX12_sheet_20 : decode cX12_sheet 20 = .ok (.bipush (-14), 2) := op_16 (a := 242) kcX12_sheet (Nat.le_of_ble_eq_true rfl) rfl rfl (by decide)
theorem dX12_sheet_22 : decode cX12_sheet 22 = .ok (.ireturn, 1) := op_172 kcX12_sheet (Nat.le_of_ble_eq_true rfl) rfl
theorem dX12_sheet_23 : decode cX12_sheet 23 = .ok (.aload_n 0, 1) := op_42 kcX12_sheet (Nat.le_of_ble_eq_true rfl) rfl
theorem dX12_sheet_24 : decode cX12_sheet 24 = .ok (.getfield 72, 3) := op_180 (a := 0) (b := 72) kcX12_sheet (Nat.le_of_ble_eq_true rfl) rfl rfl rfl
theorem dX12_sheet_27 : decode cX12_sheet 27 = .ok (.iload_n 1, 1) := op_27 kcX12_sheet (Nat.le_of_ble_eq_true rfl) rfl
theorem dX12_sheet_28 : decode cX12_sheet 28 = .ok (.iload_n 2, 1) := op_28 kcX12_sheet (Nat.le_of_ble_eq_true rfl) rfl
theorem dX12_sheet_29 : decode cX12_sheet 29 = .ok (.iastore, 1) := op_79 kcX12_sheet (Nat.le_of_ble_eq_true rfl) rfl
theorem dX12_sheet_30 : decode cX12_sheet 30 = .ok (.aload_n 0, 1) := op_42 kcX12_sheet (Nat.le_of_ble_eq_true rfl) rfl
theorem dX12_sheet_31 : decode cX12_sheet 31 = .ok (.getfield 75, 3) := op_180 (a := 0) (b := 75) kcX12_sheet (Nat.le_of_ble_eq_true rfl) rfl rfl rfl
theorem dX12_sheet_34 : decode cX12_sheet 34 = .ok (.iload_n 1, 1) := op_27 kcX12_sheet (Nat.le_of_ble_eq_true rfl) rfl
theorem dX12_sheet_35 : decode cX12_sheet 35 = .ok (.iload_n 3, 1) := op_29 kcX12_sheet (Nat.le_of_ble_eq_true rfl) rfl
theorem dX12_sheet_36 : decode cX12_sheet 36 = .ok (.iastore, 1) := op_79 kcX12_sheet (Nat.le_of_ble_eq_true rfl) rfl
theorem dX12_sheet_37 : decode cX12_sheet 37 = .ok (.iconst 0, 1) := op_3 kcX12_sheet (Nat.le_of_ble_eq_true rfl) rfl
theorem dX12_sheet_38 : decode cX12_sheet 38 = .ok (.istore 4, 2) := op_54 (a := 4) kcX12_sheet (Nat.le_of_ble_eq_true rfl) rfl rfl
theorem dX12_sheet_40 : decode cX12_sheet 40 = .ok (.iload 4, 2) := op_21 (a := 4) kcX12_sheet (Nat.le_of_ble_eq_true rfl) rfl rfl
theorem dX12_sheet_42 : decode cX12_sheet 42 = .ok (.bipush 40, 2) := op_16 (a := 40) kcX12_sheet (Nat.le_of_ble_eq_true rfl) rfl rfl (by decide)
theorem dX12_sheet_44 : decode cX12_sheet 44 = .ok (.if_icmp .ge 22, 3) := op_162 (a := 0) (b := 22) kcX12_sheet (Nat.le_of_ble_eq_true rfl) rfl rfl rfl (by decide)
theorem dX12_sheet_47 : decode cX12_sheet 47 = .ok (.aload_n 0, 1) := op_42 kcX12_sheet (Nat.le_of_ble_eq_true rfl) rfl
theorem dX12_sheet_48 : decode cX12_sheet 48 = .ok (.getfield 78, 3) := op_180 (a := 0) (b := 78) kcX12_sheet (Nat.le_of_ble_eq_true rfl) rfl rfl rfl
theorem dX12_sheet_51 : decode cX12_sheet 51 = .ok (.bipush 40, 2) := op_16 (a := 40) kcX12_sheet (Nat.le_of_ble_eq_true rfl) rfl rfl (by decide)
theorem dX12_sheet_53 : decode cX12_sheet 53 = .ok (.iload_n 1, 1) := op_27 kcX12_sheet (Nat.le_of_ble_eq_true rfl) rfl
theorem dX12_sheet_54 : decode cX12_sheet 54 = .ok (.imul, 1) := op_104 kcX12_sheet (Nat.le_of_ble_eq_true rfl) rfl
theorem dX12_sheet_55 : decode cX12_sheet 55 = .ok (.iload 4, 2) := op_21 (a := 4) kcX12_sheet (Nat.le_of_ble_eq_true rfl) rfl rfl
theorem dX12_sheet_57 : decode cX12_sheet 57 = .ok (.iadd, 1) := op_96 kcX12_sheet (Nat.le_of_ble_eq_true rfl) rfl
theorem dX12_sheet_58 : decode cX12_sheet 58 = .ok (.iconst 0, 1) := op_3 kcX12_sheet (Nat.le_of_ble_eq_true rfl) rfl
theorem dX12_sheet_59 : decode cX12_sheet 59 = .ok (.iastore, 1) := op_79 kcX12_sheet (Nat.le_of_ble_eq_true rfl) rfl
theorem dX12_sheet_60 : decode cX12_sheet 60 = .ok (.iinc 4 1, 3) := by decide +kernel
theorem dX12_sheet_63 : decode cX12_sheet 63 = .ok (.goto (-23), 3) := op_167 (a := 255) (b := 233) kcX12_sheet (Nat.le_of_ble_eq_true rfl) rfl rfl rfl (by decide)
theorem dX12_sheet_66 : decode cX12_sheet 66 = .ok (.iconst 1, 1) := op_4 kcX12_sheet (Nat.le_of_ble_eq_true rfl) rfl
theorem dX12_sheet_67 : decode cX12_sheet 67 = .ok (.ireturn, 1) := op_172 kcX12_sheet (Nat.le_of_ble_eq_true rfl) rfl
set_option maxRecDepth 20000 in
theorem ggX12_lay_X12_isSheet : GoodIn wsX12_lay wsX12_isSheet := goodIn_r _ [7, 8, 9, 10, 11, 6, 12] rfl gw_wsX12_isSheet
set_option maxRecDepth 20000 in
theorem gX12_lay_X12_isSheet : GoodIn wsX12_lay (va_wsS RX12 310 yX12_isSheet wsX12_isSheet) := goodIn_app (goodIn_of _ (by decide +kernel)) ggX12_lay_X12_isSheet
set_option maxRecDepth 20000 in
theorem ggX12_lay_X12_in : GoodIn wsX12_lay wsX12_in := goodIn_r _ [12] rfl gw_wsX12_in
set_option maxRecDepth 20000 in
theorem gX12_lay_X12_in : GoodIn wsX12_lay (va_wsS RX12 115 yX12_in wsX12_in) := goodIn_app (goodIn_of _ (by decide +kernel)) ggX12_lay_X12_in
theorem kcX12_lay : (cX12_lay).data.toList = cbs 0xac044f1d0400a7931d0800a0042e1b4800b42a1300a7911d08009a2e1b4800b42a601c681b28104e00b42aacf41006009a7300b88564042e1b4b00b42a09851cacf5100600a0fc102e1b4800b42aac0205009a3601b8031b 88 := by decide +kernel
theorem dX12_lay_0 : decode cX12_lay 0 = .ok (.iload_n 1, 1) := op_27 kcX12_lay (Nat.le_of_ble_eq_true rfl) rfl
theorem dX12_lay_1 : decode cX12_lay 1 = .ok (.iconst 0, 1) := op_3 kcX12_lay (Nat.le_of_ble_eq_true rfl) rfl
theorem dX12_lay_2 : decode cX12_lay 2 = .ok (.invokestatic 310, 3) := op_184 (a := 1) (b := 54) kcX12_lay (Nat.le_of_ble_eq_true rfl) rfl rfl rfl
theorem dX12_lay_5 : decode cX12_lay 5 = .ok (.ifCond .ne 5, 3) := op_154 (a := 0) (b := 5) kcX12_lay (Nat.le_of_ble_eq_true rfl) rfl rfl rfl (by decide)
theorem dX12_lay_8 : decode cX12_lay 8 = .ok (.iconst (-1), 1) := op_2 kcX12_lay (Nat.le_of_ble_eq_true rfl) rfl
theorem dX12_lay_9 : decode cX12_lay 9 = .ok (.ireturn, 1) := op_172 kcX12_lay (Nat.le_of_ble_eq_true rfl) rfl
theorem dX12_lay_10 : decode cX12_lay 10 = .ok (.aload_n 0, 1) := op_42 kcX12_lay (Nat.le_of_ble_eq_true rfl) rfl
theorem dX12_lay_11 : decode cX12_lay 11 = .ok (.getfield 72, 3) := op_180 (a := 0) (b := 72) kcX12_lay (Nat.le_of_ble_eq_true rfl) rfl rfl rfl
theorem dX12_lay_14 : decode cX12_lay 14 = .ok (.iload_n 1, 1) := op_27 kcX12_lay (Nat.le_of_ble_eq_true rfl) rfl
theorem dX12_lay_15 : decode cX12_lay 15 = .ok (.iaload, 1) := op_46 kcX12_lay (Nat.le_of_ble_eq_true rfl) rfl
theorem dX12_lay_16 : decode cX12_lay 16 = .ok (.bipush (-4), 2) := op_16 (a := 252) kcX12_lay (Nat.le_of_ble_eq_true rfl) rfl rfl (by decide)
theorem dX12_lay_18 : decode cX12_lay 18 = .ok (.if_icmp .ne 6, 3) := op_160 (a := 0) (b := 6) kcX12_lay (Nat.le_of_ble_eq_true rfl) rfl rfl rfl (by decide)
theorem dX12_lay_21 : decode cX12_lay 21 = .ok (.bipush (-11), 2) := op_16 (a := 245) kcX12_lay (Nat.le_of_ble_eq_true rfl) rfl rfl (by decide)
theorem dX12_lay_23 : decode cX12_lay 23 = .ok (.ireturn, 1) := op_172 kcX12_lay (Nat.le_of_ble_eq_true rfl) rfl
theorem dX12_lay_24 : decode cX12_lay 24 = .ok (.iload_n 2, 1) := op_28 kcX12_lay (Nat.le_of_ble_eq_true rfl) rfl
theorem dX12_lay_25 : decode cX12_lay 25 = .ok (.i2l, 1) := op_133 kcX12_lay (Nat.le_of_ble_eq_true rfl) rfl
theorem dX12_lay_26 : decode cX12_lay 26 = .ok (.lconst 0, 1) := op_9 kcX12_lay (Nat.le_of_ble_eq_true rfl) rfl
theorem dX12_lay_27 : decode cX12_lay 27 = .ok (.aload_n 0, 1) := op_42 kcX12_lay (Nat.le_of_ble_eq_true rfl) rfl
theorem dX12_lay_28 : decode cX12_lay 28 = .ok (.getfield 75, 3) := op_180 (a := 0) (b := 75) kcX12_lay (Nat.le_of_ble_eq_true rfl) rfl rfl rfl
theorem dX12_lay_31 : decode cX12_lay 31 = .ok (.iload_n 1, 1) := op_27 kcX12_lay (Nat.le_of_ble_eq_true rfl) rfl
theorem dX12_lay_32 : decode cX12_lay 32 = .ok (.iaload, 1) := op_46 kcX12_lay (Nat.le_of_ble_eq_true rfl) rfl
theorem dX12_lay_33 : decode cX12_lay 33 = .ok (.iconst 1, 1) := op_4 kcX12_lay (Nat.le_of_ble_eq_true rfl) rfl
theorem dX12_lay_34 : decode cX12_lay 34 = .ok (.isub, 1) := op_100 kcX12_lay (Nat.le_of_ble_eq_true rfl) rfl
theorem dX12_lay_35 : decode cX12_lay 35 = .ok (.i2l, 1) := op_133 kcX12_lay (Nat.le_of_ble_eq_true rfl) rfl
theorem dX12_lay_36 : decode cX12_lay 36 = .ok (.invokestatic 115, 3) := op_184 (a := 0) (b := 115) kcX12_lay (Nat.le_of_ble_eq_true rfl) rfl rfl rfl
theorem dX12_lay_39 : decode cX12_lay 39 = .ok (.ifCond .ne 6, 3) := op_154 (a := 0) (b := 6) kcX12_lay (Nat.le_of_ble_eq_true rfl) rfl rfl rfl (by decide)
theorem dX12_lay_42 : decode cX12_lay 42 = .ok (.bipush (-12), 2) := op_16 (a := 244) kcX12_lay (Nat.le_of_ble_eq_true rfl) rfl rfl (by decide)
theorem dX12_lay_44 : decode cX12_lay 44 = .ok (.ireturn, 1) := op_172 kcX12_lay (Nat.le_of_ble_eq_true rfl) rfl
theorem dX12_lay_45 : decode cX12_lay 45 = .ok (.aload_n 0, 1) := op_42 kcX12_lay (Nat.le_of_ble_eq_true rfl) rfl
theorem dX12_lay_46 : decode cX12_lay 46 = .ok (.getfield 78, 3) := op_180 (a := 0) (b := 78) kcX12_lay (Nat.le_of_ble_eq_true rfl) rfl rfl rfl
theorem dX12_lay_49 : decode cX12_lay 49 = .ok (.bipush 40, 2) := op_16 (a := 40) kcX12_lay (Nat.le_of_ble_eq_true rfl) rfl rfl (by decide)
theorem dX12_lay_51 : decode cX12_lay 51 = .ok (.iload_n 1, 1) := op_27 kcX12_lay (Nat.le_of_ble_eq_true rfl) rfl
theorem dX12_lay_52 : decode cX12_lay 52 = .ok (.imul, 1) := op_104 kcX12_lay (Nat.le_of_ble_eq_true rfl) rfl
theorem dX12_lay_53 : decode cX12_lay 53 = .ok (.iload_n 2, 1) := op_28 kcX12_lay (Nat.le_of_ble_eq_true rfl) rfl
theorem dX12_lay_54 : decode cX12_lay 54 = .ok (.iadd, 1) := op_96 kcX12_lay (Nat.le_of_ble_eq_true rfl) rfl
theorem dX12_lay_55 : decode cX12_lay 55 = .ok (.aload_n 0, 1) := op_42 kcX12_lay (Nat.le_of_ble_eq_true rfl) rfl
theorem dX12_lay_56 : decode cX12_lay 56 = .ok (.getfield 72, 3) := op_180 (a := 0) (b := 72) kcX12_lay (Nat.le_of_ble_eq_true rfl) rfl rfl rfl
theorem dX12_lay_59 : decode cX12_lay 59 = .ok (.iload_n 1, 1) := op_27 kcX12_lay (Nat.le_of_ble_eq_true rfl) rfl
theorem dX12_lay_60 : decode cX12_lay 60 = .ok (.iaload, 1) := op_46 kcX12_lay (Nat.le_of_ble_eq_true rfl) rfl
theorem dX12_lay_61 : decode cX12_lay 61 = .ok (.ifCond .ne 8, 3) := op_154 (a := 0) (b := 8) kcX12_lay (Nat.le_of_ble_eq_true rfl) rfl rfl rfl (by decide)
theorem dX12_lay_64 : decode cX12_lay 64 = .ok (.iload_n 3, 1) := op_29 kcX12_lay (Nat.le_of_ble_eq_true rfl) rfl
theorem dX12_lay_65 : decode cX12_lay 65 = .ok (.i2b, 1) := op_145 kcX12_lay (Nat.le_of_ble_eq_true rfl) rfl
theorem dX12_lay_66 : decode cX12_lay 66 = .ok (.goto 19, 3) := op_167 (a := 0) (b := 19) kcX12_lay (Nat.le_of_ble_eq_true rfl) rfl rfl rfl (by decide)
theorem dX12_lay_69 : decode cX12_lay 69 = .ok (.aload_n 0, 1) := op_42 kcX12_lay (Nat.le_of_ble_eq_true rfl) rfl
theorem dX12_lay_70 : decode cX12_lay 70 = .ok (.getfield 72, 3) := op_180 (a := 0) (b := 72) kcX12_lay (Nat.le_of_ble_eq_true rfl) rfl rfl rfl
theorem dX12_lay_73 : decode cX12_lay 73 = .ok (.iload_n 1, 1) := op_27 kcX12_lay (Nat.le_of_ble_eq_true rfl) rfl
theorem dX12_lay_74 : decode cX12_lay 74 = .ok (.iaload, 1) := op_46 kcX12_lay (Nat.le_of_ble_eq_true rfl) rfl
theorem dX12_lay_75 : decode cX12_lay 75 = .ok (.iconst 1, 1) := op_4 kcX12_lay (Nat.le_of_ble_eq_true rfl) rfl
theorem dX12_lay_76 : decode cX12_lay 76 = .ok (.if_icmp .ne 8, 3) := op_160 (a := 0) (b := 8) kcX12_lay (Nat.le_of_ble_eq_true rfl) rfl rfl rfl (by decide)
theorem dX12_lay_79 : decode cX12_lay 79 = .ok (.iload_n 3, 1) := op_29 kcX12_lay (Nat.le_of_ble_eq_true rfl) rfl
theorem dX12_lay_80 : decode cX12_lay 80 = .ok (.i2s, 1) := op_147 kcX12_lay (Nat.le_of_ble_eq_true rfl) rfl
theorem dX12_lay_81 : decode cX12_lay 81 = .ok (.goto 4, 3) := op_167 (a := 0) (b := 4) kcX12_lay (Nat.le_of_ble_eq_true rfl) rfl rfl rfl (by decide)
theorem dX12_lay_84 : decode cX12_lay 84 = .ok (.iload_n 3, 1) := op_29 kcX12_lay (Nat.le_of_ble_eq_true rfl) rfl
theorem dX12_lay_85 : decode cX12_lay 85 = .ok (.iastore, 1) := op_79 kcX12_lay (Nat.le_of_ble_eq_true rfl) rfl
theorem dX12_lay_86 : decode cX12_lay 86 = .ok (.iconst 1, 1) := op_4 kcX12_lay (Nat.le_of_ble_eq_true rfl) rfl
theorem dX12_lay_87 : decode cX12_lay 87 = .ok (.ireturn, 1) := op_172 kcX12_lay (Nat.le_of_ble_eq_true rfl) rfl
set_option maxRecDepth 20000 in
theorem ggX12_read_X12_isSheet : GoodIn wsX12_read wsX12_isSheet := goodIn_r _ [9, 10, 11, 12, 13, 8, 14] rfl gw_wsX12_isSheet
set_option maxRecDepth 20000 in
theorem gX12_read_X12_isSheet : GoodIn wsX12_read (va_wsS RX12 310 yX12_isSheet wsX12_isSheet) := goodIn_app (goodIn_of _ (by decide +kernel)) ggX12_read_X12_isSheet
set_option maxRecDepth 20000 in
theorem ggX12_read_X12_in : GoodIn wsX12_read wsX12_in := goodIn_r _ [14] rfl gw_wsX12_in
set_option maxRecDepth 20000 in
theorem gX12_read_X12_in : GoodIn wsX12_read (va_wsS RX12 115 yX12_in wsX12_in) := goodIn_app (goodIn_of _ (by decide +kernel)) ggX12_read_X12_in
set_option maxRecDepth 20000 in
theorem ggX12_read_X12_copies : GoodIn wsX12_read wsX12_copies := goodIn_r _ [18, 19, 48, 49, 50, 51, 52, 53, 54, 55, 56, 57, 58, 59, 60, 61, 62, 63, 64, 65, 66, 67, 68, 69, 70, 71, 72, 73, 74, 75, 76, 77, 78, 79, 80, 81, 82, 83, 84] rfl gw_wsX12_copies
set_option maxRecDepth 20000 in
theorem gX12_read_X12_copies : GoodIn wsX12_read (wsV RX12 298 RX12 yX12_copies wsX12_copies) := goodIn_app (goodIn_of _ (by decide +kernel)) ggX12_read_X12_copies
set_option maxRecDepth 20000 in
theorem gw_wsX12_day : (wsX12_day).all goodWord = true := by decide +kernel
set_option maxRecDepth 20000 in
theorem ggX12_read_X12_day : GoodIn wsX12_read wsX12_day := goodIn_r _ [23, 19, 24, 25, 26, 8, 27, 28, 12, 13, 14, 29, 30, 31, 32, 33, 34, 35, 36, 37, 38, 39, 40, 41, 42, 43, 44, 45, 46, 47, 48, 49, 50, 51, 52, 53, 54, 55, 56, 57, 58, 59, 60, 61, 62, 63, 64, 65, 66, 67, 68, 69, 70, 71, 72, 73, 74, 75, 76, 77, 78, 79, 80, 81, 82, 83, 84] rfl gw_wsX12_day
set_option maxRecDepth 20000 in
theorem gX12_read_X12_day : GoodIn wsX12_read (wsV RX12 316 RX12 yX12_day wsX12_day) := goodIn_app (goodIn_of _ (by decide +kernel)) ggX12_read_X12_day
theorem kcX12_read : (cX12_read).data.toList = cbs 0xac06153f01b505152a87ffa7010784010684ac640715ec102a01b67210032a10009c3c01b62e600715601d681b28104e00b42a2a28009a05150536030400a70507009b94852e1b4b00b42a081610009b940908161c00a70607009f1c2e1b4800b42a2a00a7040700a0fc102e1b4800b42a083761850715851d73009a05157800a2041507150736030636030536032a01b60372102aac0205009a7300b83a0114098504151000993601b81c1b 172 := by decide +kernel
theorem dX12_read_0 : decode cX12_read 0 = .ok (.iload_n 1, 1) := op_27 kcX12_read (Nat.le_of_ble_eq_true rfl) rfl
theorem dX12_read_1 : decode cX12_read 1 = .ok (.iload_n 2, 1) := op_28 kcX12_read (Nat.le_of_ble_eq_true rfl) rfl
theorem dX12_read_2 : decode cX12_read 2 = .ok (.invokestatic 310, 3) := op_184 (a := 1) (b := 54) kcX12_read (Nat.le_of_ble_eq_true rfl) rfl rfl rfl
theorem dX12_read_5 : decode cX12_read 5 = .ok (.ifCond .eq 16, 3) := op_153 (a := 0) (b := 16) kcX12_read (Nat.le_of_ble_eq_true rfl) rfl rfl rfl (by decide)
theorem dX12_read_8 : decode cX12_read 8 = .ok (.iload 4, 2) := op_21 (a := 4) kcX12_read (Nat.le_of_ble_eq_true rfl) rfl rfl
theorem dX12_read_10 : decode cX12_read 10 = .ok (.i2l, 1) := op_133 kcX12_read (Nat.le_of_ble_eq_true rfl) rfl
theorem dX12_read_11 : decode cX12_read 11 = .ok (.lconst 0, 1) := op_9 kcX12_read (Nat.le_of_ble_eq_true rfl) rfl
theorem dX12_read_12 : decode cX12_read 12 = .ok (.ldc2_w 314, 3) := op_20 (a := 1) (b := 58) kcX12_read (Nat.le_of_ble_eq_true rfl) rfl rfl rfl
theorem dX12_read_15 : decode cX12_read 15 = .ok (.invokestatic 115, 3) := op_184 (a := 0) (b := 115) kcX12_read (Nat.le_of_ble_eq_true rfl) rfl rfl rfl
theorem dX12_read_18 : decode cX12_read 18 = .ok (.ifCond .ne 5, 3) := op_154 (a := 0) (b := 5) kcX12_read (Nat.le_of_ble_eq_true rfl) rfl rfl rfl (by decide)
theorem dX12_read_21 : decode cX12_read 21 = .ok (.iconst (-1), 1) := op_2 kcX12_read (Nat.le_of_ble_eq_true rfl) rfl
theorem dX12_read_22 : decode cX12_read 22 = .ok (.ireturn, 1) := op_172 kcX12_read (Nat.le_of_ble_eq_true rfl) rfl
theorem dX12_read_23 : decode cX12_read 23 = .ok (.aload_n 0, 1) := op_42 kcX12_read (Nat.le_of_ble_eq_true rfl) rfl
theorem dX12_read_24 : decode cX12_read 24 = .ok (.bipush 114, 2) := op_16 (a := 114) kcX12_read (Nat.le_of_ble_eq_true rfl) rfl rfl (by decide)
theorem dX12_read_26 : decode cX12_read 26 = .ok (.iconst 0, 1) := op_3 kcX12_read (Nat.le_of_ble_eq_true rfl) rfl
theorem dX12_read_27 : decode cX12_read 27 = .ok (.invokevirtual 298, 3) := op_182 (a := 1) (b := 42) kcX12_read (Nat.le_of_ble_eq_true rfl) rfl rfl rfl
theorem dX12_read_30 : decode cX12_read 30 = .ok (.iconst 0, 1) := op_3 kcX12_read (Nat.le_of_ble_eq_true rfl) rfl
theorem dX12_read_31 : decode cX12_read 31 = .ok (.istore 5, 2) := op_54 (a := 5) kcX12_read (Nat.le_of_ble_eq_true rfl) rfl rfl
theorem dX12_read_33 : decode cX12_read 33 = .ok (.iconst 0, 1) := op_3 kcX12_read (Nat.le_of_ble_eq_true rfl) rfl
theorem dX12_read_34 : decode cX12_read 34 = .ok (.istore 6, 2) := op_54 (a := 6) kcX12_read (Nat.le_of_ble_eq_true rfl) rfl rfl
theorem dX12_read_36 : decode cX12_read 36 = .ok (.iconst 0, 1) := op_3 kcX12_read (Nat.le_of_ble_eq_true rfl) rfl
theorem dX12_read_37 : decode cX12_read 37 = .ok (.istore 7, 2) := op_54 (a := 7) kcX12_read (Nat.le_of_ble_eq_true rfl) rfl rfl
theorem dX12_read_39 : decode cX12_read 39 = .ok (.iload 7, 2) := op_21 (a := 7) kcX12_read (Nat.le_of_ble_eq_true rfl) rfl rfl
theorem dX12_read_41 : decode cX12_read 41 = .ok (.iload 4, 2) := op_21 (a := 4) kcX12_read (Nat.le_of_ble_eq_true rfl) rfl rfl
theorem dX12_read_43 : decode cX12_read 43 = .ok (.if_icmp .ge 120, 3) := op_162 (a := 0) (b := 120) kcX12_read (Nat.le_of_ble_eq_true rfl) rfl rfl rfl (by decide)
theorem dX12_read_46 : decode cX12_read 46 = .ok (.iload 5, 2) := op_21 (a := 5) kcX12_read (Nat.le_of_ble_eq_true rfl) rfl rfl
theorem dX12_read_48 : decode cX12_read 48 = .ok (.ifCond .ne 115, 3) := op_154 (a := 0) (b := 115) kcX12_read (Nat.le_of_ble_eq_true rfl) rfl rfl rfl (by decide)
theorem dX12_read_51 : decode cX12_read 51 = .ok (.iload_n 3, 1) := op_29 kcX12_read (Nat.le_of_ble_eq_true rfl) rfl
theorem dX12_read_52 : decode cX12_read 52 = .ok (.i2l, 1) := op_133 kcX12_read (Nat.le_of_ble_eq_true rfl) rfl
theorem dX12_read_53 : decode cX12_read 53 = .ok (.iload 7, 2) := op_21 (a := 7) kcX12_read (Nat.le_of_ble_eq_true rfl) rfl rfl
theorem dX12_read_55 : decode cX12_read 55 = .ok (.i2l, 1) := op_133 kcX12_read (Nat.le_of_ble_eq_true rfl) rfl
theorem dX12_read_56 : decode cX12_read 56 = .ok (.ladd, 1) := op_97 kcX12_read (Nat.le_of_ble_eq_true rfl) rfl
theorem dX12_read_57 : decode cX12_read 57 = .ok (.lstore 8, 2) := op_55 (a := 8) kcX12_read (Nat.le_of_ble_eq_true rfl) rfl rfl
theorem dX12_read_59 : decode cX12_read 59 = .ok (.aload_n 0, 1) := op_42 kcX12_read (Nat.le_of_ble_eq_true rfl) rfl
theorem dX12_read_60 : decode cX12_read 60 = .ok (.getfield 72, 3) := op_180 (a := 0) (b := 72) kcX12_read (Nat.le_of_ble_eq_true rfl) rfl rfl rfl
theorem dX12_read_63 : decode cX12_read 63 = .ok (.iload_n 1, 1) := op_27 kcX12_read (Nat.le_of_ble_eq_true rfl) rfl
theorem dX12_read_64 : decode cX12_read 64 = .ok (.iaload, 1) := op_46 kcX12_read (Nat.le_of_ble_eq_true rfl) rfl
theorem dX12_read_65 : decode cX12_read 65 = .ok (.bipush (-4), 2) := op_16 (a := 252) kcX12_read (Nat.le_of_ble_eq_true rfl) rfl rfl (by decide)
theorem dX12_read_67 : decode cX12_read 67 = .ok (.if_icmp .ne 7, 3) := op_160 (a := 0) (b := 7) kcX12_read (Nat.le_of_ble_eq_true rfl) rfl rfl rfl (by decide)
theorem dX12_read_70 : decode cX12_read 70 = .ok (.iconst 1, 1) := op_4 kcX12_read (Nat.le_of_ble_eq_true rfl) rfl
theorem dX12_read_71 : decode cX12_read 71 = .ok (.goto 42, 3) := op_167 (a := 0) (b := 42) kcX12_read (Nat.le_of_ble_eq_true rfl) rfl rfl rfl (by decide)
theorem dX12_read_74 : decode cX12_read 74 = .ok (.aload_n 0, 1) := op_42 kcX12_read (Nat.le_of_ble_eq_true rfl) rfl
theorem dX12_read_75 : decode cX12_read 75 = .ok (.getfield 72, 3) := op_180 (a := 0) (b := 72) kcX12_read (Nat.le_of_ble_eq_true rfl) rfl rfl rfl
theorem dX12_read_78 : decode cX12_read 78 = .ok (.iload_n 1, 1) := op_27 kcX12_read (Nat.le_of_ble_eq_true rfl) rfl
theorem dX12_read_79 : decode cX12_read 79 = .ok (.iaload, 1) := op_46 kcX12_read (Nat.le_of_ble_eq_true rfl) rfl
theorem dX12_read_80 : decode cX12_read 80 = .ok (.iload_n 2, 1) := op_28 kcX12_read (Nat.le_of_ble_eq_true rfl) rfl
theorem dX12_read_81 : decode cX12_read 81 = .ok (.if_icmp .eq 7, 3) := op_159 (a := 0) (b := 7) kcX12_read (Nat.le_of_ble_eq_true rfl) rfl rfl rfl (by decide)
theorem dX12_read_84 : decode cX12_read 84 = .ok (.iconst 3, 1) := op_6 kcX12_read (Nat.le_of_ble_eq_true rfl) rfl
theorem dX12_read_85 : decode cX12_read 85 = .ok (.goto 28, 3) := op_167 (a := 0) (b := 28) kcX12_read (Nat.le_of_ble_eq_true rfl) rfl rfl rfl (by decide)
theorem dX12_read_88 : decode cX12_read 88 = .ok (.lload 8, 2) := op_22 (a := 8) kcX12_read (Nat.le_of_ble_eq_true rfl) rfl rfl
theorem dX12_read_90 : decode cX12_read 90 = .ok (.lconst 0, 1) := op_9 kcX12_read (Nat.le_of_ble_eq_true rfl) rfl
theorem dX12_read_91 : decode cX12_read 91 = .ok (.lcmp, 1) := op_148 kcX12_read (Nat.le_of_ble_eq_true rfl) rfl
theorem dX12_read_92 : decode cX12_read 92 = .ok (.ifCond .lt 16, 3) := op_155 (a := 0) (b := 16) kcX12_read (Nat.le_of_ble_eq_true rfl) rfl rfl rfl (by decide)
theorem dX12_read_95 : decode cX12_read 95 = .ok (.lload 8, 2) := op_22 (a := 8) kcX12_read (Nat.le_of_ble_eq_true rfl) rfl rfl
theorem dX12_read_97 : decode cX12_read 97 = .ok (.aload_n 0, 1) := op_42 kcX12_read (Nat.le_of_ble_eq_true rfl) rfl
theorem dX12_read_98 : decode cX12_read 98 = .ok (.getfield 75, 3) := op_180 (a := 0) (b := 75) kcX12_read (Nat.le_of_ble_eq_true rfl) rfl rfl rfl
theorem dX12_read_101 : decode cX12_read 101 = .ok (.iload_n 1, 1) := op_27 kcX12_read (Nat.le_of_ble_eq_true rfl) rfl
theorem dX12_read_102 : decode cX12_read 102 = .ok (.iaload, 1) := op_46 kcX12_read (Nat.le_of_ble_eq_true rfl) rfl
theorem dX12_read_103 : decode cX12_read 103 = .ok (.i2l, 1) := op_133 kcX12_read (Nat.le_of_ble_eq_true rfl) rfl
theorem dX12_read_104 : decode cX12_read 104 = .ok (.lcmp, 1) := op_148 kcX12_read (Nat.le_of_ble_eq_true rfl) rfl
theorem dX12_read_105 : decode cX12_read 105 = .ok (.ifCond .lt 7, 3) := op_155 (a := 0) (b := 7) kcX12_read (Nat.le_of_ble_eq_true rfl) rfl rfl rfl (by decide)
theorem dX12_read_108 : decode cX12_read 108 = .ok (.iconst 2, 1) := op_5 kcX12_read (Nat.le_of_ble_eq_true rfl) rfl
theorem dX12_read_109 : decode cX12_read 109 = .ok (.goto 4, 3) := op_167 (a := 0) (b := 4) kcX12_read (Nat.le_of_ble_eq_true rfl) rfl rfl rfl (by decide)
theorem dX12_read_112 : decode cX12_read 112 = .ok (.iconst 0, 1) := op_3 kcX12_read (Nat.le_of_ble_eq_true rfl) rfl
theorem dX12_read_113 : decode cX12_read 113 = .ok (.istore 5, 2) := op_54 (a := 5) kcX12_read (Nat.le_of_ble_eq_true rfl) rfl rfl
theorem dX12_read_115 : decode cX12_read 115 = .ok (.iload 5, 2) := op_21 (a := 5) kcX12_read (Nat.le_of_ble_eq_true rfl) rfl rfl
theorem dX12_read_117 : decode cX12_read 117 = .ok (.ifCond .ne 40, 3) := op_154 (a := 0) (b := 40) kcX12_read (Nat.le_of_ble_eq_true rfl) rfl rfl rfl (by decide)
theorem dX12_read_120 : decode cX12_read 120 = .ok (.aload_n 0, 1) := op_42 kcX12_read (Nat.le_of_ble_eq_true rfl) rfl
theorem dX12_read_121 : decode cX12_read 121 = .ok (.aload_n 0, 1) := op_42 kcX12_read (Nat.le_of_ble_eq_true rfl) rfl
theorem dX12_read_122 : decode cX12_read 122 = .ok (.getfield 78, 3) := op_180 (a := 0) (b := 78) kcX12_read (Nat.le_of_ble_eq_true rfl) rfl rfl rfl
theorem dX12_read_125 : decode cX12_read 125 = .ok (.bipush 40, 2) := op_16 (a := 40) kcX12_read (Nat.le_of_ble_eq_true rfl) rfl rfl (by decide)
theorem dX12_read_127 : decode cX12_read 127 = .ok (.iload_n 1, 1) := op_27 kcX12_read (Nat.le_of_ble_eq_true rfl) rfl
theorem dX12_read_128 : decode cX12_read 128 = .ok (.imul, 1) := op_104 kcX12_read (Nat.le_of_ble_eq_true rfl) rfl
theorem dX12_read_129 : decode cX12_read 129 = .ok (.iload_n 3, 1) := op_29 kcX12_read (Nat.le_of_ble_eq_true rfl) rfl
theorem dX12_read_130 : decode cX12_read 130 = .ok (.iadd, 1) := op_96 kcX12_read (Nat.le_of_ble_eq_true rfl) rfl
theorem dX12_read_131 : decode cX12_read 131 = .ok (.iload 7, 2) := op_21 (a := 7) kcX12_read (Nat.le_of_ble_eq_true rfl) rfl rfl
theorem dX12_read_133 : decode cX12_read 133 = .ok (.iadd, 1) := op_96 kcX12_read (Nat.le_of_ble_eq_true rfl) rfl
theorem dX12_read_134 : decode cX12_read 134 = .ok (.iaload, 1) := op_46 kcX12_read (Nat.le_of_ble_eq_true rfl) rfl
theorem dX12_read_135 : decode cX12_read 135 = .ok (.invokevirtual 316, 3) := op_182 (a := 1) (b := 60) kcX12_read (Nat.le_of_ble_eq_true rfl) rfl rfl rfl
theorem dX12_read_138 : decode cX12_read 138 = .ok (.ifCond .ge 16, 3) := op_156 (a := 0) (b := 16) kcX12_read (Nat.le_of_ble_eq_true rfl) rfl rfl rfl (by decide)
theorem dX12_read_141 : decode cX12_read 141 = .ok (.aload_n 0, 1) := op_42 kcX12_read (Nat.le_of_ble_eq_true rfl) rfl
theorem dX12_read_142 : decode cX12_read 142 = .ok (.iconst 0, 1) := op_3 kcX12_read (Nat.le_of_ble_eq_true rfl) rfl
theorem dX12_read_143 : decode cX12_read 143 = .ok (.bipush 114, 2) := op_16 (a := 114) kcX12_read (Nat.le_of_ble_eq_true rfl) rfl rfl (by decide)
theorem dX12_read_145 : decode cX12_read 145 = .ok (.invokevirtual 298, 3) := op_182 (a := 1) (b := 42) kcX12_read (Nat.le_of_ble_eq_true rfl) rfl rfl rfl
theorem dX12_read_148 : decode cX12_read 148 = .ok (.bipush (-20), 2) := op_16 (a := 236) kcX12_read (Nat.le_of_ble_eq_true rfl) rfl rfl (by decide)
theorem dX12_read_150 : decode cX12_read 150 = .ok (.iload 7, 2) := op_21 (a := 7) kcX12_read (Nat.le_of_ble_eq_true rfl) rfl rfl
theorem dX12_read_152 : decode cX12_read 152 = .ok (.isub, 1) := op_100 kcX12_read (Nat.le_of_ble_eq_true rfl) rfl
theorem dX12_read_153 : decode cX12_read 153 = .ok (.ireturn, 1) := op_172 kcX12_read (Nat.le_of_ble_eq_true rfl) rfl
theorem dX12_read_154 : decode cX12_read 154 = .ok (.iinc 6 1, 3) := by decide +kernel
theorem dX12_read_157 : decode cX12_read 157 = .ok (.iinc 7 1, 3) := by decide +kernel
theorem dX12_read_160 : decode cX12_read 160 = .ok (.goto (-121), 3) := op_167 (a := 255) (b := 135) kcX12_read (Nat.le_of_ble_eq_true rfl) rfl rfl rfl (by decide)
theorem dX12_read_163 : decode cX12_read 163 = .ok (.aload_n 0, 1) := op_42 kcX12_read (Nat.le_of_ble_eq_true rfl) rfl
theorem dX12_read_164 : decode cX12_read 164 = .ok (.iload 5, 2) := op_21 (a := 5) kcX12_read (Nat.le_of_ble_eq_true rfl) rfl rfl
theorem dX12_read_166 : decode cX12_read 166 = .ok (.putfield 319, 3) := op_181 (a := 1) (b := 63) kcX12_read (Nat.le_of_ble_eq_true rfl) rfl rfl rfl
theorem dX12_read_169 : decode cX12_read 169 = .ok (.iload 6, 2) := op_21 (a := 6) kcX12_read (Nat.le_of_ble_eq_true rfl) rfl rfl
theorem dX12_read_171 : decode cX12_read 171 = .ok (.ireturn, 1) := op_172 kcX12_read (Nat.le_of_ble_eq_true rfl) rfl
theorem kcX12_torn : (cX12_torn).data.toList = cbs 0xac3f01b42a 5 := by decide +kernel
theorem dX12_torn_0 : decode cX12_torn 0 = .ok (.aload_n 0, 1) := op_42 kcX12_torn (Nat.le_of_ble_eq_true rfl) rfl
theorem dX12_torn_1 : decode cX12_torn 1 = .ok (.getfield 319, 3) := op_180 (a := 1) (b := 63) kcX12_torn (Nat.le_of_ble_eq_true rfl) rfl rfl rfl
theorem dX12_torn_4 : decode cX12_torn 4 = .ok (.ireturn, 1) := op_172 kcX12_torn (Nat.le_of_ble_eq_true rfl) rfl
set_option maxRecDepth 20000 in
theorem ggX12_count_X12_flag : GoodIn wsX12_count wsX12_flag := goodIn_r _ [10] rfl gw_wsX12_flag
set_option maxRecDepth 20000 in
theorem gX12_count_X12_flag : GoodIn wsX12_count (va_wsS RX12 212 yX12_flag wsX12_flag) := goodIn_app (goodIn_of _ (by decide +kernel)) ggX12_count_X12_flag
theorem kcX12_count : (cX12_count).data.toList = cbs 0xac02ac1cac2e034b00b42a0900a7fc100800a0fc102e034800b42aac6e00b42aac60d400b833040d00b42ad400b833030d00b42aac2e1f100700b42a5c00000045000000400000002c0000002400000004000000000000005e000000000000aa1becffa70103843d602e1d0700b42a1c1200a26400b42a1d3e033d03 124 := by decide +kernel
theorem dX12_count_0 : decode cX12_count 0 = .ok (.iconst 0, 1) := op_3 kcX12_count (Nat.le_of_ble_eq_true rfl) rfl
theorem dX12_count_1 : decode cX12_count 1 = .ok (.istore_n 2, 1) := op_61 kcX12_count (Nat.le_of_ble_eq_true rfl) rfl
theorem dX12_count_2 : decode cX12_count 2 = .ok (.iconst 0, 1) := op_3 kcX12_count (Nat.le_of_ble_eq_true rfl) rfl
theorem dX12_count_3 : decode cX12_count 3 = .ok (.istore_n 3, 1) := op_62 kcX12_count (Nat.le_of_ble_eq_true rfl) rfl
theorem dX12_count_4 : decode cX12_count 4 = .ok (.iload_n 3, 1) := op_29 kcX12_count (Nat.le_of_ble_eq_true rfl) rfl
theorem dX12_count_5 : decode cX12_count 5 = .ok (.aload_n 0, 1) := op_42 kcX12_count (Nat.le_of_ble_eq_true rfl) rfl
theorem dX12_count_6 : decode cX12_count 6 = .ok (.getfield 100, 3) := op_180 (a := 0) (b := 100) kcX12_count (Nat.le_of_ble_eq_true rfl) rfl rfl rfl
theorem dX12_count_9 : decode cX12_count 9 = .ok (.if_icmp .ge 18, 3) := op_162 (a := 0) (b := 18) kcX12_count (Nat.le_of_ble_eq_true rfl) rfl rfl rfl (by decide)
theorem dX12_count_12 : decode cX12_count 12 = .ok (.iload_n 2, 1) := op_28 kcX12_count (Nat.le_of_ble_eq_true rfl) rfl
theorem dX12_count_13 : decode cX12_count 13 = .ok (.aload_n 0, 1) := op_42 kcX12_count (Nat.le_of_ble_eq_true rfl) rfl
theorem dX12_count_14 : decode cX12_count 14 = .ok (.getfield 7, 3) := op_180 (a := 0) (b := 7) kcX12_count (Nat.le_of_ble_eq_true rfl) rfl rfl rfl
theorem dX12_count_17 : decode cX12_count 17 = .ok (.iload_n 3, 1) := op_29 kcX12_count (Nat.le_of_ble_eq_true rfl) rfl
theorem dX12_count_18 : decode cX12_count 18 = .ok (.iaload, 1) := op_46 kcX12_count (Nat.le_of_ble_eq_true rfl) rfl
theorem dX12_count_19 : decode cX12_count 19 = .ok (.iadd, 1) := op_96 kcX12_count (Nat.le_of_ble_eq_true rfl) rfl
theorem dX12_count_20 : decode cX12_count 20 = .ok (.istore_n 2, 1) := op_61 kcX12_count (Nat.le_of_ble_eq_true rfl) rfl
theorem dX12_count_21 : decode cX12_count 21 = .ok (.iinc 3 1, 3) := by decide +kernel
theorem dX12_count_24 : decode cX12_count 24 = .ok (.goto (-20), 3) := op_167 (a := 255) (b := 236) kcX12_count (Nat.le_of_ble_eq_true rfl) rfl rfl rfl (by decide)
theorem dX12_count_27 : decode cX12_count 27 = .ok (.iload_n 1, 1) := op_27 kcX12_count (Nat.le_of_ble_eq_true rfl) rfl
theorem dX12_count_28 : decode cX12_count 28 = .ok (.tableswitch 94 0 4 #[36, 44, 64, 69, 92], 36) := by decide +kernel
theorem dX12_count_64 : decode cX12_count 64 = .ok (.aload_n 0, 1) := op_42 kcX12_count (Nat.le_of_ble_eq_true rfl) rfl
theorem dX12_count_65 : decode cX12_count 65 = .ok (.getfield 7, 3) := op_180 (a := 0) (b := 7) kcX12_count (Nat.le_of_ble_eq_true rfl) rfl rfl rfl
theorem dX12_count_68 : decode cX12_count 68 = .ok (.bipush 31, 2) := op_16 (a := 31) kcX12_count (Nat.le_of_ble_eq_true rfl) rfl rfl (by decide)
theorem dX12_count_70 : decode cX12_count 70 = .ok (.iaload, 1) := op_46 kcX12_count (Nat.le_of_ble_eq_true rfl) rfl
theorem dX12_count_71 : decode cX12_count 71 = .ok (.ireturn, 1) := op_172 kcX12_count (Nat.le_of_ble_eq_true rfl) rfl
theorem dX12_count_72 : decode cX12_count 72 = .ok (.aload_n 0, 1) := op_42 kcX12_count (Nat.le_of_ble_eq_true rfl) rfl
theorem dX12_count_73 : decode cX12_count 73 = .ok (.getfield 13, 3) := op_180 (a := 0) (b := 13) kcX12_count (Nat.le_of_ble_eq_true rfl) rfl rfl rfl
theorem dX12_count_76 : decode cX12_count 76 = .ok (.iconst 0, 1) := op_3 kcX12_count (Nat.le_of_ble_eq_true rfl) rfl
theorem dX12_count_77 : decode cX12_count 77 = .ok (.baload, 1) := op_51 kcX12_count (Nat.le_of_ble_eq_true rfl) rfl
theorem dX12_count_78 : decode cX12_count 78 = .ok (.invokestatic 212, 3) := op_184 (a := 0) (b := 212) kcX12_count (Nat.le_of_ble_eq_true rfl) rfl rfl rfl
theorem dX12_count_81 : decode cX12_count 81 = .ok (.aload_n 0, 1) := op_42 kcX12_count (Nat.le_of_ble_eq_true rfl) rfl
theorem dX12_count_82 : decode cX12_count 82 = .ok (.getfield 13, 3) := op_180 (a := 0) (b := 13) kcX12_count (Nat.le_of_ble_eq_true rfl) rfl rfl rfl
theorem dX12_count_85 : decode cX12_count 85 = .ok (.iconst 1, 1) := op_4 kcX12_count (Nat.le_of_ble_eq_true rfl) rfl
theorem dX12_count_86 : decode cX12_count 86 = .ok (.baload, 1) := op_51 kcX12_count (Nat.le_of_ble_eq_true rfl) rfl
theorem dX12_count_87 : decode cX12_count 87 = .ok (.invokestatic 212, 3) := op_184 (a := 0) (b := 212) kcX12_count (Nat.le_of_ble_eq_true rfl) rfl rfl rfl
theorem dX12_count_90 : decode cX12_count 90 = .ok (.iadd, 1) := op_96 kcX12_count (Nat.le_of_ble_eq_true rfl) rfl
theorem dX12_count_91 : decode cX12_count 91 = .ok (.ireturn, 1) := op_172 kcX12_count (Nat.le_of_ble_eq_true rfl) rfl
theorem dX12_count_92 : decode cX12_count 92 = .ok (.aload_n 0, 1) := op_42 kcX12_count (Nat.le_of_ble_eq_true rfl) rfl
theorem dX12_count_93 : decode cX12_count 93 = .ok (.getfield 110, 3) := op_180 (a := 0) (b := 110) kcX12_count (Nat.le_of_ble_eq_true rfl) rfl rfl rfl
theorem dX12_count_96 : decode cX12_count 96 = .ok (.ireturn, 1) := op_172 kcX12_count (Nat.le_of_ble_eq_true rfl) rfl
theorem dX12_count_97 : decode cX12_count 97 = .ok (.aload_n 0, 1) := op_42 kcX12_count (Nat.le_of_ble_eq_true rfl) rfl
theorem dX12_count_98 : decode cX12_count 98 = .ok (.getfield 72, 3) := op_180 (a := 0) (b := 72) kcX12_count (Nat.le_of_ble_eq_true rfl) rfl rfl rfl
theorem dX12_count_101 : decode cX12_count 101 = .ok (.iconst 0, 1) := op_3 kcX12_count (Nat.le_of_ble_eq_true rfl) rfl
theorem dX12_count_102 : decode cX12_count 102 = .ok (.iaload, 1) := op_46 kcX12_count (Nat.le_of_ble_eq_true rfl) rfl
theorem dX12_count_103 : decode cX12_count 103 = .ok (.bipush (-4), 2) := op_16 (a := 252) kcX12_count (Nat.le_of_ble_eq_true rfl) rfl rfl (by decide)
theorem dX12_count_105 : decode cX12_count 105 = .ok (.if_icmp .ne 8, 3) := op_160 (a := 0) (b := 8) kcX12_count (Nat.le_of_ble_eq_true rfl) rfl rfl rfl (by decide)
theorem dX12_count_108 : decode cX12_count 108 = .ok (.bipush (-4), 2) := op_16 (a := 252) kcX12_count (Nat.le_of_ble_eq_true rfl) rfl rfl (by decide)
theorem dX12_count_110 : decode cX12_count 110 = .ok (.goto 9, 3) := op_167 (a := 0) (b := 9) kcX12_count (Nat.le_of_ble_eq_true rfl) rfl rfl rfl (by decide)
theorem dX12_count_113 : decode cX12_count 113 = .ok (.aload_n 0, 1) := op_42 kcX12_count (Nat.le_of_ble_eq_true rfl) rfl
theorem dX12_count_114 : decode cX12_count 114 = .ok (.getfield 75, 3) := op_180 (a := 0) (b := 75) kcX12_count (Nat.le_of_ble_eq_true rfl) rfl rfl rfl
theorem dX12_count_117 : decode cX12_count 117 = .ok (.iconst 0, 1) := op_3 kcX12_count (Nat.le_of_ble_eq_true rfl) rfl
theorem dX12_count_118 : decode cX12_count 118 = .ok (.iaload, 1) := op_46 kcX12_count (Nat.le_of_ble_eq_true rfl) rfl
theorem dX12_count_119 : decode cX12_count 119 = .ok (.ireturn, 1) := op_172 kcX12_count (Nat.le_of_ble_eq_true rfl) rfl
theorem dX12_count_120 : decode cX12_count 120 = .ok (.iload_n 2, 1) := op_28 kcX12_count (Nat.le_of_ble_eq_true rfl) rfl
theorem dX12_count_121 : decode cX12_count 121 = .ok (.ireturn, 1) := op_172 kcX12_count (Nat.le_of_ble_eq_true rfl) rfl
theorem dX12_count_122 : decode cX12_count 122 = .ok (.iconst (-1), 1) := op_2 kcX12_count (Nat.le_of_ble_eq_true rfl) rfl
theorem dX12_count_123 : decode cX12_count 123 = .ok (.ireturn, 1) := op_172 kcX12_count (Nat.le_of_ble_eq_true rfl) rfl
theorem kcJ6_bitCount_0f7a4 : (cJ6_bitCount_0f7a4).data.toList = cbs 0xac7e3f101a3b607c10101a1a3b607c08101a1a3b7e0b0113607c071a1a3b607e0a01137c051a7e0a01131a3b647e0901137c041a1a 53 := by decide +kernel
theorem dJ6_bitCount_0f7a4_0 : decode cJ6_bitCount_0f7a4 0 = .ok (.iload_n 0, 1) := op_26 kcJ6_bitCount_0f7a4 (Nat.le_of_ble_eq_true rfl) rfl
theorem dJ6_bitCount_0f7a4_1 : decode cJ6_bitCount_0f7a4 1 = .ok (.iload_n 0, 1) := op_26 kcJ6_bitCount_0f7a4 (Nat.le_of_ble_eq_true rfl) rfl
theorem dJ6_bitCount_0f7a4_2 : decode cJ6_bitCount_0f7a4 2 = .ok (.iconst 1, 1) := op_4 kcJ6_bitCount_0f7a4 (Nat.le_of_ble_eq_true rfl) rfl
theorem dJ6_bitCount_0f7a4_3 : decode cJ6_bitCount_0f7a4 3 = .ok (.iushr, 1) := op_124 kcJ6_bitCount_0f7a4 (Nat.le_of_ble_eq_true rfl) rfl
theorem dJ6_bitCount_0f7a4_4 : decode cJ6_bitCount_0f7a4 4 = .ok (.ldc_w 265, 3) := op_19 (a := 1) (b := 9) kcJ6_bitCount_0f7a4 (Nat.le_of_ble_eq_true rfl) rfl rfl rfl
theorem dJ6_bitCount_0f7a4_7 : decode cJ6_bitCount_0f7a4 7 = .ok (.iand, 1) := op_126 kcJ6_bitCount_0f7a4 (Nat.le_of_ble_eq_true rfl) rfl
theorem dJ6_bitCount_0f7a4_8 : decode cJ6_bitCount_0f7a4 8 = .ok (.isub, 1) := op_100 kcJ6_bitCount_0f7a4 (Nat.le_of_ble_eq_true rfl) rfl
theorem dJ6_bitCount_0f7a4_9 : decode cJ6_bitCount_0f7a4 9 = .ok (.istore_n 0, 1) := op_59 kcJ6_bitCount_0f7a4 (Nat.le_of_ble_eq_true rfl) rfl
theorem dJ6_bitCount_0f7a4_10 : decode cJ6_bitCount_0f7a4 10 = .ok (.iload_n 0, 1) := op_26 kcJ6_bitCount_0f7a4 (Nat.le_of_ble_eq_true rfl) rfl
theorem dJ6_bitCount_0f7a4_11 : decode cJ6_bitCount_0f7a4 11 = .ok (.ldc_w 266, 3) := op_19 (a := 1) (b := 10) kcJ6_bitCount_0f7a4 (Nat.le_of_ble_eq_true rfl) rfl rfl rfl
theorem dJ6_bitCount_0f7a4_14 : decode cJ6_bitCount_0f7a4 14 = .ok (.iand, 1) := op_126 kcJ6_bitCount_0f7a4 (Nat.le_of_ble_eq_true rfl) rfl
theorem dJ6_bitCount_0f7a4_15 : decode cJ6_bitCount_0f7a4 15 = .ok (.iload_n 0, 1) := op_26 kcJ6_bitCount_0f7a4 (Nat.le_of_ble_eq_true rfl) rfl
theorem dJ6_bitCount_0f7a4_16 : decode cJ6_bitCount_0f7a4 16 = .ok (.iconst 2, 1) := op_5 kcJ6_bitCount_0f7a4 (Nat.le_of_ble_eq_true rfl) rfl
theorem dJ6_bitCount_0f7a4_17 : decode cJ6_bitCount_0f7a4 17 = .ok (.iushr, 1) := op_124 kcJ6_bitCount_0f7a4 (Nat.le_of_ble_eq_true rfl) rfl
theorem dJ6_bitCount_0f7a4_18 : decode cJ6_bitCount_0f7a4 18 = .ok (.ldc_w 266, 3) := op_19 (a := 1) (b := 10) kcJ6_bitCount_0f7a4 (Nat.le_of_ble_eq_true rfl) rfl rfl rfl
theorem dJ6_bitCount_0f7a4_21 : decode cJ6_bitCount_0f7a4 21 = .ok (.iand, 1) := op_126 kcJ6_bitCount_0f7a4 (Nat.le_of_ble_eq_true rfl) rfl
theorem dJ6_bitCount_0f7a4_22 : decode cJ6_bitCount_0f7a4 22 = .ok (.iadd, 1) := op_96 kcJ6_bitCount_0f7a4 (Nat.le_of_ble_eq_true rfl) rfl
theorem dJ6_bitCount_0f7a4_23 : decode cJ6_bitCount_0f7a4 23 = .ok (.istore_n 0, 1) := op_59 kcJ6_bitCount_0f7a4 (Nat.le_of_ble_eq_true rfl) rfl
theorem dJ6_bitCount_0f7a4_24 : decode cJ6_bitCount_0f7a4 24 = .ok (.iload_n 0, 1) := op_26 kcJ6_bitCount_0f7a4 (Nat.le_of_ble_eq_true rfl) rfl
theorem dJ6_bitCount_0f7a4_25 : decode cJ6_bitCount_0f7a4 25 = .ok (.iload_n 0, 1) := op_26 kcJ6_bitCount_0f7a4 (Nat.le_of_ble_eq_true rfl) rfl
theorem dJ6_bitCount_0f7a4_26 : decode cJ6_bitCount_0f7a4 26 = .ok (.iconst 4, 1) := op_7 kcJ6_bitCount_0f7a4 (Nat.le_of_ble_eq_true rfl) rfl
theorem dJ6_bitCount_0f7a4_27 : decode cJ6_bitCount_0f7a4 27 = .ok (.iushr, 1) := op_124 kcJ6_bitCount_0f7a4 (Nat.le_of_ble_eq_true rfl) rfl
theorem dJ6_bitCount_0f7a4_28 : decode cJ6_bitCount_0f7a4 28 = .ok (.iadd, 1) := op_96 kcJ6_bitCount_0f7a4 (Nat.le_of_ble_eq_true rfl) rfl
theorem dJ6_bitCount_0f7a4_29 : decode cJ6_bitCount_0f7a4 29 = .ok (.ldc_w 267, 3) := op_19 (a := 1) (b := 11) kcJ6_bitCount_0f7a4 (Nat.le_of_ble_eq_true rfl) rfl rfl rfl
theorem dJ6_bitCount_0f7a4_32 : decode cJ6_bitCount_0f7a4 32 = .ok (.iand, 1) := op_126 kcJ6_bitCount_0f7a4 (Nat.le_of_ble_eq_true rfl) rfl
theorem dJ6_bitCount_0f7a4_33 : decode cJ6_bitCount_0f7a4 33 = .ok (.istore_n 0, 1) := op_59 kcJ6_bitCount_0f7a4 (Nat.le_of_ble_eq_true rfl) rfl
theorem dJ6_bitCount_0f7a4_34 : decode cJ6_bitCount_0f7a4 34 = .ok (.iload_n 0, 1) := op_26 kcJ6_bitCount_0f7a4 (Nat.le_of_ble_eq_true rfl) rfl
theorem dJ6_bitCount_0f7a4_35 : decode cJ6_bitCount_0f7a4 35 = .ok (.iload_n 0, 1) := op_26 kcJ6_bitCount_0f7a4 (Nat.le_of_ble_eq_true rfl) rfl
theorem dJ6_bitCount_0f7a4_36 : decode cJ6_bitCount_0f7a4 36 = .ok (.bipush 8, 2) := op_16 (a := 8) kcJ6_bitCount_0f7a4 (Nat.le_of_ble_eq_true rfl) rfl rfl (by decide)
theorem dJ6_bitCount_0f7a4_38 : decode cJ6_bitCount_0f7a4 38 = .ok (.iushr, 1) := op_124 kcJ6_bitCount_0f7a4 (Nat.le_of_ble_eq_true rfl) rfl
theorem dJ6_bitCount_0f7a4_39 : decode cJ6_bitCount_0f7a4 39 = .ok (.iadd, 1) := op_96 kcJ6_bitCount_0f7a4 (Nat.le_of_ble_eq_true rfl) rfl
theorem dJ6_bitCount_0f7a4_40 : decode cJ6_bitCount_0f7a4 40 = .ok (.istore_n 0, 1) := op_59 kcJ6_bitCount_0f7a4 (Nat.le_of_ble_eq_true rfl) rfl
theorem dJ6_bitCount_0f7a4_41 : decode cJ6_bitCount_0f7a4 41 = .ok (.iload_n 0, 1) := op_26 kcJ6_bitCount_0f7a4 (Nat.le_of_ble_eq_true rfl) rfl
theorem dJ6_bitCount_0f7a4_42 : decode cJ6_bitCount_0f7a4 42 = .ok (.iload_n 0, 1) := op_26 kcJ6_bitCount_0f7a4 (Nat.le_of_ble_eq_true rfl) rfl
theorem dJ6_bitCount_0f7a4_43 : decode cJ6_bitCount_0f7a4 43 = .ok (.bipush 16, 2) := op_16 (a := 16) kcJ6_bitCount_0f7a4 (Nat.le_of_ble_eq_true rfl) rfl rfl (by decide)
theorem dJ6_bitCount_0f7a4_45 : decode cJ6_bitCount_0f7a4 45 = .ok (.iushr, 1) := op_124 kcJ6_bitCount_0f7a4 (Nat.le_of_ble_eq_true rfl) rfl
theorem dJ6_bitCount_0f7a4_46 : decode cJ6_bitCount_0f7a4 46 = .ok (.iadd, 1) := op_96 kcJ6_bitCount_0f7a4 (Nat.le_of_ble_eq_true rfl) rfl
theorem dJ6_bitCount_0f7a4_47 : decode cJ6_bitCount_0f7a4 47 = .ok (.istore_n 0, 1) := op_59 kcJ6_bitCount_0f7a4 (Nat.le_of_ble_eq_true rfl) rfl
theorem dJ6_bitCount_0f7a4_48 : decode cJ6_bitCount_0f7a4 48 = .ok (.iload_n 0, 1) := op_26 kcJ6_bitCount_0f7a4 (Nat.le_of_ble_eq_true rfl) rfl
theorem dJ6_bitCount_0f7a4_49 : decode cJ6_bitCount_0f7a4 49 = .ok (.bipush 63, 2) := op_16 (a := 63) kcJ6_bitCount_0f7a4 (Nat.le_of_ble_eq_true rfl) rfl rfl (by decide)
theorem dJ6_bitCount_0f7a4_51 : decode cJ6_bitCount_0f7a4 51 = .ok (.iand, 1) := op_126 kcJ6_bitCount_0f7a4 (Nat.le_of_ble_eq_true rfl) rfl
theorem dJ6_bitCount_0f7a4_52 : decode cJ6_bitCount_0f7a4 52 = .ok (.ireturn, 1) := op_172 kcJ6_bitCount_0f7a4 (Nat.le_of_ble_eq_true rfl) rfl
theorem kcJ9_max_7cf53 : (cJ9_max_7cf53).data.toList = cbs 0xac1b0400a71a0700a11b1a 11 := by decide +kernel
theorem dJ9_max_7cf53_0 : decode cJ9_max_7cf53 0 = .ok (.iload_n 0, 1) := op_26 kcJ9_max_7cf53 (Nat.le_of_ble_eq_true rfl) rfl
theorem dJ9_max_7cf53_1 : decode cJ9_max_7cf53 1 = .ok (.iload_n 1, 1) := op_27 kcJ9_max_7cf53 (Nat.le_of_ble_eq_true rfl) rfl
theorem dJ9_max_7cf53_2 : decode cJ9_max_7cf53 2 = .ok (.if_icmp .lt 7, 3) := op_161 (a := 0) (b := 7) kcJ9_max_7cf53 (Nat.le_of_ble_eq_true rfl) rfl rfl rfl (by decide)
theorem dJ9_max_7cf53_5 : decode cJ9_max_7cf53 5 = .ok (.iload_n 0, 1) := op_26 kcJ9_max_7cf53 (Nat.le_of_ble_eq_true rfl) rfl
theorem dJ9_max_7cf53_6 : decode cJ9_max_7cf53 6 = .ok (.goto 4, 3) := op_167 (a := 0) (b := 4) kcJ9_max_7cf53 (Nat.le_of_ble_eq_true rfl) rfl rfl rfl (by decide)
theorem dJ9_max_7cf53_9 : decode cJ9_max_7cf53 9 = .ok (.iload_n 1, 1) := op_27 kcJ9_max_7cf53 (Nat.le_of_ble_eq_true rfl) rfl
theorem dJ9_max_7cf53_10 : decode cJ9_max_7cf53 10 = .ok (.ireturn, 1) := op_172 kcJ9_max_7cf53 (Nat.le_of_ble_eq_true rfl) rfl
theorem kcJ9_min_7cf53 : (cJ9_min_7cf53).data.toList = cbs 0xac1b0400a71a0700a31b1a 11 := by decide +kernel
theorem dJ9_min_7cf53_0 : decode cJ9_min_7cf53 0 = .ok (.iload_n 0, 1) := op_26 kcJ9_min_7cf53 (Nat.le_of_ble_eq_true rfl) rfl
theorem dJ9_min_7cf53_1 : decode cJ9_min_7cf53 1 = .ok (.iload_n 1, 1) := op_27 kcJ9_min_7cf53 (Nat.le_of_ble_eq_true rfl) rfl
theorem dJ9_min_7cf53_2 : decode cJ9_min_7cf53 2 = .ok (.if_icmp .gt 7, 3) := op_163 (a := 0) (b := 7) kcJ9_min_7cf53 (Nat.le_of_ble_eq_true rfl) rfl rfl rfl (by decide)
theorem dJ9_min_7cf53_5 : decode cJ9_min_7cf53 5 = .ok (.iload_n 0, 1) := op_26 kcJ9_min_7cf53 (Nat.le_of_ble_eq_true rfl) rfl
theorem dJ9_min_7cf53_6 : decode cJ9_min_7cf53 6 = .ok (.goto 4, 3) := op_167 (a := 0) (b := 4) kcJ9_min_7cf53 (Nat.le_of_ble_eq_true rfl) rfl rfl rfl (by decide)
theorem dJ9_min_7cf53_9 : decode cJ9_min_7cf53 9 = .ok (.iload_n 1, 1) := op_27 kcJ9_min_7cf53 (Nat.le_of_ble_eq_true rfl) rfl
theorem dJ9_min_7cf53_10 : decode cJ9_min_7cf53 10 = .ok (.ireturn, 1) := op_172 kcJ9_min_7cf53 (Nat.le_of_ble_eq_true rfl) rfl
set_option maxRecDepth 20000 in
theorem gw_wsJ0_coder_7d493 : (wsJ0_coder_7d493).all goodWord = true := by decide +kernel
set_option maxRecDepth 20000 in
theorem ggJ0_length_8abf5_J0_coder_7d493 : GoodIn wsJ0_length_8abf5 wsJ0_coder_7d493 := goodIn_r _ [6, 7, 8] rfl gw_wsJ0_coder_7d493
set_option maxRecDepth 20000 in
theorem gJ0_length_8abf5_J0_coder_7d493 : GoodIn wsJ0_length_8abf5 (wsV RJ0 335 RJ0 yJ0_coder_7d493 wsJ0_coder_7d493) := goodIn_app (goodIn_of _ (by decide +kernel)) ggJ0_length_8abf5_J0_coder_7d493
theorem kcJ0_length_8abf5 : (cJ0_length_8abf5).data.toList = cbs 0xac7a4f01b62abe0900b42a 11 := by decide +kernel
theorem dJ0_length_8abf5_0 : decode cJ0_length_8abf5 0 = .ok (.aload_n 0, 1) := op_42 kcJ0_length_8abf5 (Nat.le_of_ble_eq_true rfl) rfl
theorem dJ0_length_8abf5_1 : decode cJ0_length_8abf5 1 = .ok (.getfield 9, 3) := op_180 (a := 0) (b := 9) kcJ0_length_8abf5 (Nat.le_of_ble_eq_true rfl) rfl rfl rfl
theorem dJ0_length_8abf5_4 : decode cJ0_length_8abf5 4 = .ok (.arraylength, 1) := op_190 kcJ0_length_8abf5 (Nat.le_of_ble_eq_true rfl) rfl
theorem dJ0_length_8abf5_5 : decode cJ0_length_8abf5 5 = .ok (.aload_n 0, 1) := op_42 kcJ0_length_8abf5 (Nat.le_of_ble_eq_true rfl) rfl
theorem dJ0_length_8abf5_6 : decode cJ0_length_8abf5 6 = .ok (.invokevirtual 335, 3) := op_182 (a := 1) (b := 79) kcJ0_length_8abf5 (Nat.le_of_ble_eq_true rfl) rfl rfl rfl
theorem dJ0_length_8abf5_9 : decode cJ0_length_8abf5 9 = .ok (.ishr, 1) := op_122 kcJ0_length_8abf5 (Nat.le_of_ble_eq_true rfl) rfl
theorem dJ0_length_8abf5_10 : decode cJ0_length_8abf5 10 = .ok (.ireturn, 1) := op_172 kcJ0_length_8abf5 (Nat.le_of_ble_eq_true rfl) rfl
set_option maxRecDepth 20000 in
theorem gw_wsJ0_isLatin1_aae02 : (wsJ0_isLatin1_aae02).all goodWord = true := by decide +kernel
set_option maxRecDepth 20000 in
theorem ggJ0_charAt_5068e_J0_isLatin1_aae02 : GoodIn wsJ0_charAt_5068e wsJ0_isLatin1_aae02 := goodIn_r _ [6, 7, 8] rfl gw_wsJ0_isLatin1_aae02
set_option maxRecDepth 20000 in
theorem gJ0_charAt_5068e_J0_isLatin1_aae02 : GoodIn wsJ0_charAt_5068e (wsV RJ0 492 RJ0 yJ0_isLatin1_aae02 wsJ0_isLatin1_aae02) := goodIn_app (goodIn_of _ (by decide +kernel)) ggJ0_charAt_5068e_J0_isLatin1_aae02
set_option maxRecDepth 20000 in
theorem gw_wsJ1_charAt_3b067 : (wsJ1_charAt_3b067).all goodWord = true := by decide +kernel
set_option maxRecDepth 20000 in
theorem ggJ0_charAt_5068e_J1_charAt_3b067 : GoodIn wsJ0_charAt_5068e wsJ1_charAt_3b067 := goodIn_r _ [12, 13, 14, 5, 15, 16, 17, 18, 19, 20] rfl gw_wsJ1_charAt_3b067
set_option maxRecDepth 20000 in
theorem gJ0_charAt_5068e_J1_charAt_3b067 : GoodIn wsJ0_charAt_5068e (va_wsS RJ0 495 yJ1_charAt_3b067 wsJ1_charAt_3b067) := goodIn_app (goodIn_of _ (by decide +kernel)) ggJ0_charAt_5068e_J1_charAt_3b067
set_option maxRecDepth 20000 in
theorem gw_wsJ2_charAt_3b067 : (wsJ2_charAt_3b067).all goodWord = true := by decide +kernel
set_option maxRecDepth 20000 in
theorem ggJ0_charAt_5068e_J2_charAt_3b067 : GoodIn wsJ0_charAt_5068e wsJ2_charAt_3b067 := goodIn_r _ [24, 25, 26, 23, 27, 28, 29, 30, 31, 14, 5, 15, 16, 17, 18, 19, 20, 32, 33, 34, 35, 36, 37] rfl gw_wsJ2_charAt_3b067
set_option maxRecDepth 20000 in
theorem gJ0_charAt_5068e_J2_charAt_3b067 : GoodIn wsJ0_charAt_5068e (va_wsS RJ0 498 yJ2_charAt_3b067 wsJ2_charAt_3b067) := goodIn_app (goodIn_of _ (by decide +kernel)) ggJ0_charAt_5068e_J2_charAt_3b067
theorem kcJ0_charAt_5068e : (cJ0_charAt_5068e).data.toList = cbs 0xacf201b81b0900b42aacef01b81b0900b42a0c0099ec01b62a 25 := by decide +kernel
theorem dJ0_charAt_5068e_0 : decode cJ0_charAt_5068e 0 = .ok (.aload_n 0, 1) := op_42 kcJ0_charAt_5068e (Nat.le_of_ble_eq_true rfl) rfl
theorem dJ0_charAt_5068e_1 : decode cJ0_charAt_5068e 1 = .ok (.invokevirtual 492, 3) := op_182 (a := 1) (b := 236) kcJ0_charAt_5068e (Nat.le_of_ble_eq_true rfl) rfl rfl rfl
theorem dJ0_charAt_5068e_4 : decode cJ0_charAt_5068e 4 = .ok (.ifCond .eq 12, 3) := op_153 (a := 0) (b := 12) kcJ0_charAt_5068e (Nat.le_of_ble_eq_true rfl) rfl rfl rfl (by decide)
theorem dJ0_charAt_5068e_7 : decode cJ0_charAt_5068e 7 = .ok (.aload_n 0, 1) := op_42 kcJ0_charAt_5068e (Nat.le_of_ble_eq_true rfl) rfl
theorem dJ0_charAt_5068e_8 : decode cJ0_charAt_5068e 8 = .ok (.getfield 9, 3) := op_180 (a := 0) (b := 9) kcJ0_charAt_5068e (Nat.le_of_ble_eq_true rfl) rfl rfl rfl
theorem dJ0_charAt_5068e_11 : decode cJ0_charAt_5068e 11 = .ok (.iload_n 1, 1) := op_27 kcJ0_charAt_5068e (Nat.le_of_ble_eq_true rfl) rfl
theorem dJ0_charAt_5068e_12 : decode cJ0_charAt_5068e 12 = .ok (.invokestatic 495, 3) := op_184 (a := 1) (b := 239) kcJ0_charAt_5068e (Nat.le_of_ble_eq_true rfl) rfl rfl rfl
theorem dJ0_charAt_5068e_15 : decode cJ0_charAt_5068e 15 = .ok (.ireturn, 1) := op_172 kcJ0_charAt_5068e (Nat.le_of_ble_eq_true rfl) rfl
theorem dJ0_charAt_5068e_16 : decode cJ0_charAt_5068e 16 = .ok (.aload_n 0, 1) := op_42 kcJ0_charAt_5068e (Nat.le_of_ble_eq_true rfl) rfl
theorem dJ0_charAt_5068e_17 : decode cJ0_charAt_5068e 17 = .ok (.getfield 9, 3) := op_180 (a := 0) (b := 9) kcJ0_charAt_5068e (Nat.le_of_ble_eq_true rfl) rfl rfl rfl
theorem dJ0_charAt_5068e_20 : decode cJ0_charAt_5068e 20 = .ok (.iload_n 1, 1) := op_27 kcJ0_charAt_5068e (Nat.le_of_ble_eq_true rfl) rfl
theorem dJ0_charAt_5068e_21 : decode cJ0_charAt_5068e 21 = .ok (.invokestatic 498, 3) := op_184 (a := 1) (b := 242) kcJ0_charAt_5068e (Nat.le_of_ble_eq_true rfl) rfl rfl rfl
theorem dJ0_charAt_5068e_24 : decode cJ0_charAt_5068e 24 = .ok (.ireturn, 1) := op_172 kcJ0_charAt_5068e (Nat.le_of_ble_eq_true rfl) rfl
theorem kcJ0_coder_7d493 : (cJ0_coder_7d493).data.toList = cbs 0xac040400a70f00b42a0a00992600b2 15 := by decide +kernel
theorem dJ0_coder_7d493_0 : decode cJ0_coder_7d493 0 = .ok (.getstatic 38, 3) := op_178 (a := 0) (b := 38) kcJ0_coder_7d493 (Nat.le_of_ble_eq_true rfl) rfl rfl rfl
theorem dJ0_coder_7d493_3 : decode cJ0_coder_7d493 3 = .ok (.ifCond .eq 10, 3) := op_153 (a := 0) (b := 10) kcJ0_coder_7d493 (Nat.le_of_ble_eq_true rfl) rfl rfl rfl (by decide)
theorem dJ0_coder_7d493_6 : decode cJ0_coder_7d493 6 = .ok (.aload_n 0, 1) := op_42 kcJ0_coder_7d493 (Nat.le_of_ble_eq_true rfl) rfl
theorem dJ0_coder_7d493_7 : decode cJ0_coder_7d493 7 = .ok (.getfield 15, 3) := op_180 (a := 0) (b := 15) kcJ0_coder_7d493 (Nat.le_of_ble_eq_true rfl) rfl rfl rfl
theorem dJ0_coder_7d493_10 : decode cJ0_coder_7d493 10 = .ok (.goto 4, 3) := op_167 (a := 0) (b := 4) kcJ0_coder_7d493 (Nat.le_of_ble_eq_true rfl) rfl rfl rfl (by decide)
theorem dJ0_coder_7d493_13 : decode cJ0_coder_7d493 13 = .ok (.iconst 1, 1) := op_4 kcJ0_coder_7d493 (Nat.le_of_ble_eq_true rfl) rfl
theorem dJ0_coder_7d493_14 : decode cJ0_coder_7d493 14 = .ok (.ireturn, 1) := op_172 kcJ0_coder_7d493 (Nat.le_of_ble_eq_true rfl) rfl
theorem kcJ0_isLatin1_aae02 : (cJ0_isLatin1_aae02).data.toList = cbs 0xac030400a70407009a0f00b42a0e00992600b2 19 := by decide +kernel
theorem dJ0_isLatin1_aae02_0 : decode cJ0_isLatin1_aae02 0 = .ok (.getstatic 38, 3) := op_178 (a := 0) (b := 38) kcJ0_isLatin1_aae02 (Nat.le_of_ble_eq_true rfl) rfl rfl rfl
theorem dJ0_isLatin1_aae02_3 : decode cJ0_isLatin1_aae02 3 = .ok (.ifCond .eq 14, 3) := op_153 (a := 0) (b := 14) kcJ0_isLatin1_aae02 (Nat.le_of_ble_eq_true rfl) rfl rfl rfl (by decide)
theorem dJ0_isLatin1_aae02_6 : decode cJ0_isLatin1_aae02 6 = .ok (.aload_n 0, 1) := op_42 kcJ0_isLatin1_aae02 (Nat.le_of_ble_eq_true rfl) rfl
theorem dJ0_isLatin1_aae02_7 : decode cJ0_isLatin1_aae02 7 = .ok (.getfield 15, 3) := op_180 (a := 0) (b := 15) kcJ0_isLatin1_aae02 (Nat.le_of_ble_eq_true rfl) rfl rfl rfl
theorem dJ0_isLatin1_aae02_10 : decode cJ0_isLatin1_aae02 10 = .ok (.ifCond .ne 7, 3) := op_154 (a := 0) (b := 7) kcJ0_isLatin1_aae02 (Nat.le_of_ble_eq_true rfl) rfl rfl rfl (by decide)
theorem dJ0_isLatin1_aae02_13 : decode cJ0_isLatin1_aae02 13 = .ok (.iconst 1, 1) := op_4 kcJ0_isLatin1_aae02 (Nat.le_of_ble_eq_true rfl) rfl
theorem dJ0_isLatin1_aae02_14 : decode cJ0_isLatin1_aae02 14 = .ok (.goto 4, 3) := op_167 (a := 0) (b := 4) kcJ0_isLatin1_aae02 (Nat.le_of_ble_eq_true rfl) rfl rfl rfl (by decide)
theorem dJ0_isLatin1_aae02_17 : decode cJ0_isLatin1_aae02 17 = .ok (.iconst 0, 1) := op_3 kcJ0_isLatin1_aae02 (Nat.le_of_ble_eq_true rfl) rfl
theorem dJ0_isLatin1_aae02_18 : decode cJ0_isLatin1_aae02 18 = .ok (.ireturn, 1) := op_172 kcJ0_isLatin1_aae02 (Nat.le_of_ble_eq_true rfl) rfl
set_option maxRecDepth 20000 in
theorem gw_wsJ3_checkIndex_8e157 : (wsJ3_checkIndex_8e157).all goodWord = true := by decide +kernel
set_option maxRecDepth 20000 in
theorem ggJ0_checkIndex_df160_J3_checkIndex_8e157 : GoodIn wsJ0_checkIndex_df160 wsJ3_checkIndex_8e157 := goodIn_r _ [5] rfl gw_wsJ3_checkIndex_8e157
set_option maxRecDepth 20000 in
theorem gJ0_checkIndex_df160_J3_checkIndex_8e157 : GoodIn wsJ0_checkIndex_df160 (va_wsS RJ0 1059 yJ3_checkIndex_8e157 wsJ3_checkIndex_8e157) := goodIn_app (goodIn_of _ (by decide +kernel)) ggJ0_checkIndex_df160_J3_checkIndex_8e157
theorem kcJ0_checkIndex_df160 : (cJ0_checkIndex_df160).data.toList = cbs 0xb1572304b81d04b21b1a 10 := by decide +kernel
theorem dJ0_checkIndex_df160_0 : decode cJ0_checkIndex_df160 0 = .ok (.iload_n 0, 1) := op_26 kcJ0_checkIndex_df160 (Nat.le_of_ble_eq_true rfl) rfl
theorem dJ0_checkIndex_df160_1 : decode cJ0_checkIndex_df160 1 = .ok (.iload_n 1, 1) := op_27 kcJ0_checkIndex_df160 (Nat.le_of_ble_eq_true rfl) rfl
theorem dJ0_checkIndex_df160_2 : decode cJ0_checkIndex_df160 2 = .ok (.getstatic 1053, 3) := op_178 (a := 4) (b := 29) kcJ0_checkIndex_df160 (Nat.le_of_ble_eq_true rfl) rfl rfl rfl
theorem dJ0_checkIndex_df160_5 : decode cJ0_checkIndex_df160 5 = .ok (.invokestatic 1059, 3) := op_184 (a := 4) (b := 35) kcJ0_checkIndex_df160 (Nat.le_of_ble_eq_true rfl) rfl rfl rfl
theorem dJ0_checkIndex_df160_8 : decode cJ0_checkIndex_df160 8 = .ok (.pop, 1) := op_87 kcJ0_checkIndex_df160 (Nat.le_of_ble_eq_true rfl) rfl
theorem dJ0_checkIndex_df160_9 : decode cJ0_checkIndex_df160 9 = .ok (.return_, 1) := op_177 kcJ0_checkIndex_df160 (Nat.le_of_ble_eq_true rfl) rfl
set_option maxRecDepth 20000 in
theorem gw_wsJ0_checkIndex_df160 : (wsJ0_checkIndex_df160).all goodWord = true := by decide +kernel
set_option maxRecDepth 20000 in
theorem ggJ1_charAt_3b067_J0_checkIndex_df160 : GoodIn wsJ1_charAt_3b067 wsJ0_checkIndex_df160 := goodIn_r _ [4, 5, 6, 7, 8, 9] rfl gw_wsJ0_checkIndex_df160
set_option maxRecDepth 20000 in
theorem gJ1_charAt_3b067_J0_checkIndex_df160 : GoodIn wsJ1_charAt_3b067 (va_wsS RJ1 9 yJ0_checkIndex_df160 wsJ0_checkIndex_df160) := goodIn_app (goodIn_of _ (by decide +kernel)) ggJ1_charAt_3b067_J0_checkIndex_df160
theorem kcJ1_charAt_3b067 : (cJ1_charAt_3b067).data.toList = cbs 0xac927eff0011331b2a0900b8be2a1b 15 := by decide +kernel
theorem dJ1_charAt_3b067_0 : decode cJ1_charAt_3b067 0 = .ok (.iload_n 1, 1) := op_27 kcJ1_charAt_3b067 (Nat.le_of_ble_eq_true rfl) rfl
theorem dJ1_charAt_3b067_1 : decode cJ1_charAt_3b067 1 = .ok (.aload_n 0, 1) := op_42 kcJ1_charAt_3b067 (Nat.le_of_ble_eq_true rfl) rfl
theorem dJ1_charAt_3b067_2 : decode cJ1_charAt_3b067 2 = .ok (.arraylength, 1) := op_190 kcJ1_charAt_3b067 (Nat.le_of_ble_eq_true rfl) rfl
theorem dJ1_charAt_3b067_3 : decode cJ1_charAt_3b067 3 = .ok (.invokestatic 9, 3) := op_184 (a := 0) (b := 9) kcJ1_charAt_3b067 (Nat.le_of_ble_eq_true rfl) rfl rfl rfl
theorem dJ1_charAt_3b067_6 : decode cJ1_charAt_3b067 6 = .ok (.aload_n 0, 1) := op_42 kcJ1_charAt_3b067 (Nat.le_of_ble_eq_true rfl) rfl
theorem dJ1_charAt_3b067_7 : decode cJ1_charAt_3b067 7 = .ok (.iload_n 1, 1) := op_27 kcJ1_charAt_3b067 (Nat.le_of_ble_eq_true rfl) rfl
theorem dJ1_charAt_3b067_8 : decode cJ1_charAt_3b067 8 = .ok (.baload, 1) := op_51 kcJ1_charAt_3b067 (Nat.le_of_ble_eq_true rfl) rfl
theorem dJ1_charAt_3b067_9 : decode cJ1_charAt_3b067 9 = .ok (.sipush 255, 3) := by decide +kernel
theorem dJ1_charAt_3b067_12 : decode cJ1_charAt_3b067 12 = .ok (.iand, 1) := op_126 kcJ1_charAt_3b067 (Nat.le_of_ble_eq_true rfl) rfl
theorem dJ1_charAt_3b067_13 : decode cJ1_charAt_3b067 13 = .ok (.i2c, 1) := op_146 kcJ1_charAt_3b067 (Nat.le_of_ble_eq_true rfl) rfl
theorem dJ1_charAt_3b067_14 : decode cJ1_charAt_3b067 14 = .ok (.ireturn, 1) := op_172 kcJ1_charAt_3b067 (Nat.le_of_ble_eq_true rfl) rfl
set_option maxRecDepth 20000 in
theorem gw_wsJ2_length_9d52b : (wsJ2_length_9d52b).all goodWord = true := by decide +kernel
set_option maxRecDepth 20000 in
theorem ggJ2_getChar_3b067_J2_length_9d52b : GoodIn wsJ2_getChar_3b067 wsJ2_length_9d52b := goodIn_r _ [7] rfl gw_wsJ2_length_9d52b
set_option maxRecDepth 20000 in
theorem gJ2_getChar_3b067_J2_length_9d52b : GoodIn wsJ2_getChar_3b067 (va_wsS RJ2 48 yJ2_length_9d52b wsJ2_length_9d52b) := goodIn_app (goodIn_of _ (by decide +kernel)) ggJ2_getChar_3b067_J2_length_9d52b
theorem kcJ2_getChar_3b067 : (cJ2_getChar_3b067).data.toList = cbs 0xac9280783f00b27eff0011331b2a783b00b27eff0011330101841b2a3c78041bbf3800b73612593400bb0d00a13000b82a1b0b009b1b19009a2c00b2 60 := by decide +kernel
theorem dJ2_getChar_3b067_0 : decode cJ2_getChar_3b067 0 = .ok (.getstatic 44, 3) := op_178 (a := 0) (b := 44) kcJ2_getChar_3b067 (Nat.le_of_ble_eq_true rfl) rfl rfl rfl
theorem dJ2_getChar_3b067_3 : decode cJ2_getChar_3b067 3 = .ok (.ifCond .ne 25, 3) := op_154 (a := 0) (b := 25) kcJ2_getChar_3b067 (Nat.le_of_ble_eq_true rfl) rfl rfl rfl (by decide)
theorem dJ2_getChar_3b067_6 : decode cJ2_getChar_3b067 6 = .ok (.iload_n 1, 1) := op_27 kcJ2_getChar_3b067 (Nat.le_of_ble_eq_true rfl) rfl
theorem dJ2_getChar_3b067_7 : decode cJ2_getChar_3b067 7 = .ok (.ifCond .lt 11, 3) := op_155 (a := 0) (b := 11) kcJ2_getChar_3b067 (Nat.le_of_ble_eq_true rfl) rfl rfl rfl (by decide)
theorem dJ2_getChar_3b067_10 : decode cJ2_getChar_3b067 10 = .ok (.iload_n 1, 1) := op_27 kcJ2_getChar_3b067 (Nat.le_of_ble_eq_true rfl) rfl
theorem dJ2_getChar_3b067_11 : decode cJ2_getChar_3b067 11 = .ok (.aload_n 0, 1) := op_42 kcJ2_getChar_3b067 (Nat.le_of_ble_eq_true rfl) rfl
theorem dJ2_getChar_3b067_12 : decode cJ2_getChar_3b067 12 = .ok (.invokestatic 48, 3) := op_184 (a := 0) (b := 48) kcJ2_getChar_3b067 (Nat.le_of_ble_eq_true rfl) rfl rfl rfl
theorem dJ2_getChar_3b067_15 : decode cJ2_getChar_3b067 15 = .ok (.if_icmp .lt 13, 3) := op_161 (a := 0) (b := 13) kcJ2_getChar_3b067 (Nat.le_of_ble_eq_true rfl) rfl rfl rfl (by decide)
theorem dJ2_getChar_3b067_18 : decode cJ2_getChar_3b067 18 = .ok (.new 52, 3) := op_187 (a := 0) (b := 52) kcJ2_getChar_3b067 (Nat.le_of_ble_eq_true rfl) rfl rfl rfl
theorem dJ2_getChar_3b067_21 : decode cJ2_getChar_3b067 21 = .ok (.dup, 1) := op_89 kcJ2_getChar_3b067 (Nat.le_of_ble_eq_true rfl) rfl
theorem dJ2_getChar_3b067_22 : decode cJ2_getChar_3b067 22 = .ok (.ldc 54, 2) := op_18 (a := 54) kcJ2_getChar_3b067 (Nat.le_of_ble_eq_true rfl) rfl rfl
theorem dJ2_getChar_3b067_24 : decode cJ2_getChar_3b067 24 = .ok (.invokespecial 56, 3) := op_183 (a := 0) (b := 56) kcJ2_getChar_3b067 (Nat.le_of_ble_eq_true rfl) rfl rfl rfl
theorem dJ2_getChar_3b067_27 : decode cJ2_getChar_3b067 27 = .ok (.athrow, 1) := op_191 kcJ2_getChar_3b067 (Nat.le_of_ble_eq_true rfl) rfl
theorem dJ2_getChar_3b067_28 : decode cJ2_getChar_3b067 28 = .ok (.iload_n 1, 1) := op_27 kcJ2_getChar_3b067 (Nat.le_of_ble_eq_true rfl) rfl
theorem dJ2_getChar_3b067_29 : decode cJ2_getChar_3b067 29 = .ok (.iconst 1, 1) := op_4 kcJ2_getChar_3b067 (Nat.le_of_ble_eq_true rfl) rfl
theorem dJ2_getChar_3b067_30 : decode cJ2_getChar_3b067 30 = .ok (.ishl, 1) := op_120 kcJ2_getChar_3b067 (Nat.le_of_ble_eq_true rfl) rfl
theorem dJ2_getChar_3b067_31 : decode cJ2_getChar_3b067 31 = .ok (.istore_n 1, 1) := op_60 kcJ2_getChar_3b067 (Nat.le_of_ble_eq_true rfl) rfl
theorem dJ2_getChar_3b067_32 : decode cJ2_getChar_3b067 32 = .ok (.aload_n 0, 1) := op_42 kcJ2_getChar_3b067 (Nat.le_of_ble_eq_true rfl) rfl
theorem dJ2_getChar_3b067_33 : decode cJ2_getChar_3b067 33 = .ok (.iload_n 1, 1) := op_27 kcJ2_getChar_3b067 (Nat.le_of_ble_eq_true rfl) rfl
theorem dJ2_getChar_3b067_34 : decode cJ2_getChar_3b067 34 = .ok (.iinc 1 1, 3) := by decide +kernel
theorem dJ2_getChar_3b067_37 : decode cJ2_getChar_3b067 37 = .ok (.baload, 1) := op_51 kcJ2_getChar_3b067 (Nat.le_of_ble_eq_true rfl) rfl
theorem dJ2_getChar_3b067_38 : decode cJ2_getChar_3b067 38 = .ok (.sipush 255, 3) := by decide +kernel
theorem dJ2_getChar_3b067_41 : decode cJ2_getChar_3b067 41 = .ok (.iand, 1) := op_126 kcJ2_getChar_3b067 (Nat.le_of_ble_eq_true rfl) rfl
theorem dJ2_getChar_3b067_42 : decode cJ2_getChar_3b067 42 = .ok (.getstatic 59, 3) := op_178 (a := 0) (b := 59) kcJ2_getChar_3b067 (Nat.le_of_ble_eq_true rfl) rfl rfl rfl
theorem dJ2_getChar_3b067_45 : decode cJ2_getChar_3b067 45 = .ok (.ishl, 1) := op_120 kcJ2_getChar_3b067 (Nat.le_of_ble_eq_true rfl) rfl
theorem dJ2_getChar_3b067_46 : decode cJ2_getChar_3b067 46 = .ok (.aload_n 0, 1) := op_42 kcJ2_getChar_3b067 (Nat.le_of_ble_eq_true rfl) rfl
theorem dJ2_getChar_3b067_47 : decode cJ2_getChar_3b067 47 = .ok (.iload_n 1, 1) := op_27 kcJ2_getChar_3b067 (Nat.le_of_ble_eq_true rfl) rfl
theorem dJ2_getChar_3b067_48 : decode cJ2_getChar_3b067 48 = .ok (.baload, 1) := op_51 kcJ2_getChar_3b067 (Nat.le_of_ble_eq_true rfl) rfl
theorem dJ2_getChar_3b067_49 : decode cJ2_getChar_3b067 49 = .ok (.sipush 255, 3) := by decide +kernel
theorem dJ2_getChar_3b067_52 : decode cJ2_getChar_3b067 52 = .ok (.iand, 1) := op_126 kcJ2_getChar_3b067 (Nat.le_of_ble_eq_true rfl) rfl
theorem dJ2_getChar_3b067_53 : decode cJ2_getChar_3b067 53 = .ok (.getstatic 63, 3) := op_178 (a := 0) (b := 63) kcJ2_getChar_3b067 (Nat.le_of_ble_eq_true rfl) rfl rfl rfl
theorem dJ2_getChar_3b067_56 : decode cJ2_getChar_3b067 56 = .ok (.ishl, 1) := op_120 kcJ2_getChar_3b067 (Nat.le_of_ble_eq_true rfl) rfl
theorem dJ2_getChar_3b067_57 : decode cJ2_getChar_3b067 57 = .ok (.ior, 1) := op_128 kcJ2_getChar_3b067 (Nat.le_of_ble_eq_true rfl) rfl
theorem dJ2_getChar_3b067_58 : decode cJ2_getChar_3b067 58 = .ok (.i2c, 1) := op_146 kcJ2_getChar_3b067 (Nat.le_of_ble_eq_true rfl) rfl
theorem dJ2_getChar_3b067_59 : decode cJ2_getChar_3b067 59 = .ok (.ireturn, 1) := op_172 kcJ2_getChar_3b067 (Nat.le_of_ble_eq_true rfl) rfl
theorem kcJ2_length_9d52b : (cJ2_length_9d52b).data.toList = cbs 0xac7a04be2a 5 := by decide +kernel
theorem dJ2_length_9d52b_0 : decode cJ2_length_9d52b 0 = .ok (.aload_n 0, 1) := op_42 kcJ2_length_9d52b (Nat.le_of_ble_eq_true rfl) rfl
theorem dJ2_length_9d52b_1 : decode cJ2_length_9d52b 1 = .ok (.arraylength, 1) := op_190 kcJ2_length_9d52b (Nat.le_of_ble_eq_true rfl) rfl
theorem dJ2_length_9d52b_2 : decode cJ2_length_9d52b 2 = .ok (.iconst 1, 1) := op_4 kcJ2_length_9d52b (Nat.le_of_ble_eq_true rfl) rfl
theorem dJ2_length_9d52b_3 : decode cJ2_length_9d52b 3 = .ok (.ishr, 1) := op_122 kcJ2_length_9d52b (Nat.le_of_ble_eq_true rfl) rfl
theorem dJ2_length_9d52b_4 : decode cJ2_length_9d52b 4 = .ok (.ireturn, 1) := op_172 kcJ2_length_9d52b (Nat.le_of_ble_eq_true rfl) rfl
set_option maxRecDepth 20000 in
theorem gw_wsJ2_checkIndex_2214a : (wsJ2_checkIndex_2214a).all goodWord = true := by decide +kernel
set_option maxRecDepth 20000 in
theorem ggJ2_charAt_3b067_J2_checkIndex_2214a : GoodIn wsJ2_charAt_3b067 wsJ2_checkIndex_2214a := goodIn_r _ [4, 5, 6, 3, 7, 8, 9, 10, 11, 12, 13, 14, 15, 16] rfl gw_wsJ2_checkIndex_2214a
set_option maxRecDepth 20000 in
theorem gJ2_charAt_3b067_J2_checkIndex_2214a : GoodIn wsJ2_charAt_3b067 (va_wsS RJ2 67 yJ2_checkIndex_2214a wsJ2_checkIndex_2214a) := goodIn_app (goodIn_of _ (by decide +kernel)) ggJ2_charAt_3b067_J2_checkIndex_2214a
set_option maxRecDepth 20000 in
theorem gw_wsJ2_getChar_3b067 : (wsJ2_getChar_3b067).all goodWord = true := by decide +kernel
set_option maxRecDepth 20000 in
theorem ggJ2_charAt_3b067_J2_getChar_3b067 : GoodIn wsJ2_charAt_3b067 wsJ2_getChar_3b067 := goodIn_r _ [19, 20, 21, 22, 5, 6, 3, 7] rfl gw_wsJ2_getChar_3b067
set_option maxRecDepth 20000 in
theorem gJ2_charAt_3b067_J2_getChar_3b067 : GoodIn wsJ2_charAt_3b067 (va_wsS RJ2 71 yJ2_getChar_3b067 wsJ2_getChar_3b067) := goodIn_app (goodIn_of _ (by decide +kernel)) ggJ2_charAt_3b067_J2_getChar_3b067
theorem kcJ2_charAt_3b067 : (cJ2_charAt_3b067).data.toList = cbs 0xac4700b81b2a4300b82a1b 11 := by decide +kernel
theorem dJ2_charAt_3b067_0 : decode cJ2_charAt_3b067 0 = .ok (.iload_n 1, 1) := op_27 kcJ2_charAt_3b067 (Nat.le_of_ble_eq_true rfl) rfl
theorem dJ2_charAt_3b067_1 : decode cJ2_charAt_3b067 1 = .ok (.aload_n 0, 1) := op_42 kcJ2_charAt_3b067 (Nat.le_of_ble_eq_true rfl) rfl
theorem dJ2_charAt_3b067_2 : decode cJ2_charAt_3b067 2 = .ok (.invokestatic 67, 3) := op_184 (a := 0) (b := 67) kcJ2_charAt_3b067 (Nat.le_of_ble_eq_true rfl) rfl rfl rfl
theorem dJ2_charAt_3b067_5 : decode cJ2_charAt_3b067 5 = .ok (.aload_n 0, 1) := op_42 kcJ2_charAt_3b067 (Nat.le_of_ble_eq_true rfl) rfl
theorem dJ2_charAt_3b067_6 : decode cJ2_charAt_3b067 6 = .ok (.iload_n 1, 1) := op_27 kcJ2_charAt_3b067 (Nat.le_of_ble_eq_true rfl) rfl
theorem dJ2_charAt_3b067_7 : decode cJ2_charAt_3b067 7 = .ok (.invokestatic 71, 3) := op_184 (a := 0) (b := 71) kcJ2_charAt_3b067 (Nat.le_of_ble_eq_true rfl) rfl rfl rfl
theorem dJ2_charAt_3b067_10 : decode cJ2_charAt_3b067 10 = .ok (.ireturn, 1) := op_172 kcJ2_charAt_3b067 (Nat.le_of_ble_eq_true rfl) rfl
set_option maxRecDepth 20000 in
theorem ggJ2_checkIndex_2214a_J2_length_9d52b : GoodIn wsJ2_checkIndex_2214a wsJ2_length_9d52b := goodIn_r _ [4] rfl gw_wsJ2_length_9d52b
set_option maxRecDepth 20000 in
theorem gJ2_checkIndex_2214a_J2_length_9d52b : GoodIn wsJ2_checkIndex_2214a (va_wsS RJ2 48 yJ2_length_9d52b wsJ2_length_9d52b) := goodIn_app (goodIn_of _ (by decide +kernel)) ggJ2_checkIndex_2214a_J2_length_9d52b
set_option maxRecDepth 20000 in
theorem ggJ2_checkIndex_2214a_J0_checkIndex_df160 : GoodIn wsJ2_checkIndex_2214a wsJ0_checkIndex_df160 := goodIn_r _ [8, 9, 10, 11, 12, 13] rfl gw_wsJ0_checkIndex_df160
set_option maxRecDepth 20000 in
theorem gJ2_checkIndex_2214a_J0_checkIndex_df160 : GoodIn wsJ2_checkIndex_2214a (va_wsS RJ2 414 yJ0_checkIndex_df160 wsJ0_checkIndex_df160) := goodIn_app (goodIn_of _ (by decide +kernel)) ggJ2_checkIndex_2214a_J0_checkIndex_df160
theorem kcJ2_checkIndex_2214a : (cJ2_checkIndex_2214a).data.toList = cbs 0xb19e01b83000b82b1a 9 := by decide +kernel
theorem dJ2_checkIndex_2214a_0 : decode cJ2_checkIndex_2214a 0 = .ok (.iload_n 0, 1) := op_26 kcJ2_checkIndex_2214a (Nat.le_of_ble_eq_true rfl) rfl
theorem dJ2_checkIndex_2214a_1 : decode cJ2_checkIndex_2214a 1 = .ok (.aload_n 1, 1) := op_43 kcJ2_checkIndex_2214a (Nat.le_of_ble_eq_true rfl) rfl
theorem dJ2_checkIndex_2214a_2 : decode cJ2_checkIndex_2214a 2 = .ok (.invokestatic 48, 3) := op_184 (a := 0) (b := 48) kcJ2_checkIndex_2214a (Nat.le_of_ble_eq_true rfl) rfl rfl rfl
theorem dJ2_checkIndex_2214a_5 : decode cJ2_checkIndex_2214a 5 = .ok (.invokestatic 414, 3) := op_184 (a := 1) (b := 158) kcJ2_checkIndex_2214a (Nat.le_of_ble_eq_true rfl) rfl rfl rfl
theorem dJ2_checkIndex_2214a_8 : decode cJ2_checkIndex_2214a 8 = .ok (.return_, 1) := op_177 kcJ2_checkIndex_2214a (Nat.le_of_ble_eq_true rfl) rfl
theorem kcJ7_fill_d0a16 : (cJ7_fill_d0a16).data.toList = cbs 0xb1f3ffa7010384501f1d2a0d00a204151d0436be2a3e03 23 := by decide +kernel
theorem dJ7_fill_d0a16_0 : decode cJ7_fill_d0a16 0 = .ok (.iconst 0, 1) := op_3 kcJ7_fill_d0a16 (Nat.le_of_ble_eq_true rfl) rfl
theorem dJ7_fill_d0a16_1 : decode cJ7_fill_d0a16 1 = .ok (.istore_n 3, 1) := op_62 kcJ7_fill_d0a16 (Nat.le_of_ble_eq_true rfl) rfl
theorem dJ7_fill_d0a16_2 : decode cJ7_fill_d0a16 2 = .ok (.aload_n 0, 1) := op_42 kcJ7_fill_d0a16 (Nat.le_of_ble_eq_true rfl) rfl
theorem dJ7_fill_d0a16_3 : decode cJ7_fill_d0a16 3 = .ok (.arraylength, 1) := op_190 kcJ7_fill_d0a16 (Nat.le_of_ble_eq_true rfl) rfl
theorem dJ7_fill_d0a16_4 : decode cJ7_fill_d0a16 4 = .ok (.istore 4, 2) := op_54 (a := 4) kcJ7_fill_d0a16 (Nat.le_of_ble_eq_true rfl) rfl rfl
theorem dJ7_fill_d0a16_6 : decode cJ7_fill_d0a16 6 = .ok (.iload_n 3, 1) := op_29 kcJ7_fill_d0a16 (Nat.le_of_ble_eq_true rfl) rfl
theorem dJ7_fill_d0a16_7 : decode cJ7_fill_d0a16 7 = .ok (.iload 4, 2) := op_21 (a := 4) kcJ7_fill_d0a16 (Nat.le_of_ble_eq_true rfl) rfl rfl
theorem dJ7_fill_d0a16_9 : decode cJ7_fill_d0a16 9 = .ok (.if_icmp .ge 13, 3) := op_162 (a := 0) (b := 13) kcJ7_fill_d0a16 (Nat.le_of_ble_eq_true rfl) rfl rfl rfl (by decide)
theorem dJ7_fill_d0a16_12 : decode cJ7_fill_d0a16 12 = .ok (.aload_n 0, 1) := op_42 kcJ7_fill_d0a16 (Nat.le_of_ble_eq_true rfl) rfl
theorem dJ7_fill_d0a16_13 : decode cJ7_fill_d0a16 13 = .ok (.iload_n 3, 1) := op_29 kcJ7_fill_d0a16 (Nat.le_of_ble_eq_true rfl) rfl
theorem dJ7_fill_d0a16_14 : decode cJ7_fill_d0a16 14 = .ok (.lload_n 1, 1) := op_31 kcJ7_fill_d0a16 (Nat.le_of_ble_eq_true rfl) rfl
theorem dJ7_fill_d0a16_15 : decode cJ7_fill_d0a16 15 = .ok (.lastore, 1) := op_80 kcJ7_fill_d0a16 (Nat.le_of_ble_eq_true rfl) rfl
theorem dJ7_fill_d0a16_16 : decode cJ7_fill_d0a16 16 = .ok (.iinc 3 1, 3) := by decide +kernel
theorem dJ7_fill_d0a16_19 : decode cJ7_fill_d0a16 19 = .ok (.goto (-13), 3) := op_167 (a := 255) (b := 243) kcJ7_fill_d0a16 (Nat.le_of_ble_eq_true rfl) rfl rfl rfl (by decide)
theorem dJ7_fill_d0a16_22 : decode cJ7_fill_d0a16 22 = .ok (.return_, 1) := op_177 kcJ7_fill_d0a16 (Nat.le_of_ble_eq_true rfl) rfl
theorem kcJ7_fill_53178 : (cJ7_fill_53178).data.toList = cbs 0xb1f4ffa70102844f1b1c2a0d00a21d1c3ebe2a3d03 21 := by decide +kernel
theorem dJ7_fill_53178_0 : decode cJ7_fill_53178 0 = .ok (.iconst 0, 1) := op_3 kcJ7_fill_53178 (Nat.le_of_ble_eq_true rfl) rfl
theorem dJ7_fill_53178_1 : decode cJ7_fill_53178 1 = .ok (.istore_n 2, 1) := op_61 kcJ7_fill_53178 (Nat.le_of_ble_eq_true rfl) rfl
theorem dJ7_fill_53178_2 : decode cJ7_fill_53178 2 = .ok (.aload_n 0, 1) := op_42 kcJ7_fill_53178 (Nat.le_of_ble_eq_true rfl) rfl
theorem dJ7_fill_53178_3 : decode cJ7_fill_53178 3 = .ok (.arraylength, 1) := op_190 kcJ7_fill_53178 (Nat.le_of_ble_eq_true rfl) rfl
theorem dJ7_fill_53178_4 : decode cJ7_fill_53178 4 = .ok (.istore_n 3, 1) := op_62 kcJ7_fill_53178 (Nat.le_of_ble_eq_true rfl) rfl
theorem dJ7_fill_53178_5 : decode cJ7_fill_53178 5 = .ok (.iload_n 2, 1) := op_28 kcJ7_fill_53178 (Nat.le_of_ble_eq_true rfl) rfl
theorem dJ7_fill_53178_6 : decode cJ7_fill_53178 6 = .ok (.iload_n 3, 1) := op_29 kcJ7_fill_53178 (Nat.le_of_ble_eq_true rfl) rfl
theorem dJ7_fill_53178_7 : decode cJ7_fill_53178 7 = .ok (.if_icmp .ge 13, 3) := op_162 (a := 0) (b := 13) kcJ7_fill_53178 (Nat.le_of_ble_eq_true rfl) rfl rfl rfl (by decide)
theorem dJ7_fill_53178_10 : decode cJ7_fill_53178 10 = .ok (.aload_n 0, 1) := op_42 kcJ7_fill_53178 (Nat.le_of_ble_eq_true rfl) rfl
theorem dJ7_fill_53178_11 : decode cJ7_fill_53178 11 = .ok (.iload_n 2, 1) := op_28 kcJ7_fill_53178 (Nat.le_of_ble_eq_true rfl) rfl
theorem dJ7_fill_53178_12 : decode cJ7_fill_53178 12 = .ok (.iload_n 1, 1) := op_27 kcJ7_fill_53178 (Nat.le_of_ble_eq_true rfl) rfl
theorem dJ7_fill_53178_13 : decode cJ7_fill_53178 13 = .ok (.iastore, 1) := op_79 kcJ7_fill_53178 (Nat.le_of_ble_eq_true rfl) rfl
theorem dJ7_fill_53178_14 : decode cJ7_fill_53178 14 = .ok (.iinc 2 1, 3) := by decide +kernel
theorem dJ7_fill_53178_17 : decode cJ7_fill_53178 17 = .ok (.goto (-12), 3) := op_167 (a := 255) (b := 244) kcJ7_fill_53178 (Nat.le_of_ble_eq_true rfl) rfl rfl rfl (by decide)
theorem dJ7_fill_53178_20 : decode cJ7_fill_53178 20 = .ok (.return_, 1) := op_177 kcJ7_fill_53178 (Nat.le_of_ble_eq_true rfl) rfl
theorem kcJ3_checkIndex_8e157 : (cJ3_checkIndex_8e157).data.toList = cbs 0xac1abf5f00b81b1a2c0a00a11b1a08009b1a 18 := by decide +kernel
theorem dJ3_checkIndex_8e157_0 : decode cJ3_checkIndex_8e157 0 = .ok (.iload_n 0, 1) := op_26 kcJ3_checkIndex_8e157 (Nat.le_of_ble_eq_true rfl) rfl
theorem dJ3_checkIndex_8e157_1 : decode cJ3_checkIndex_8e157 1 = .ok (.ifCond .lt 8, 3) := op_155 (a := 0) (b := 8) kcJ3_checkIndex_8e157 (Nat.le_of_ble_eq_true rfl) rfl rfl rfl (by decide)
theorem dJ3_checkIndex_8e157_4 : decode cJ3_checkIndex_8e157 4 = .ok (.iload_n 0, 1) := op_26 kcJ3_checkIndex_8e157 (Nat.le_of_ble_eq_true rfl) rfl
theorem dJ3_checkIndex_8e157_5 : decode cJ3_checkIndex_8e157 5 = .ok (.iload_n 1, 1) := op_27 kcJ3_checkIndex_8e157 (Nat.le_of_ble_eq_true rfl) rfl
theorem dJ3_checkIndex_8e157_6 : decode cJ3_checkIndex_8e157 6 = .ok (.if_icmp .lt 10, 3) := op_161 (a := 0) (b := 10) kcJ3_checkIndex_8e157 (Nat.le_of_ble_eq_true rfl) rfl rfl rfl (by decide)
theorem dJ3_checkIndex_8e157_9 : decode cJ3_checkIndex_8e157 9 = .ok (.aload_n 2, 1) := op_44 kcJ3_checkIndex_8e157 (Nat.le_of_ble_eq_true rfl) rfl
theorem dJ3_checkIndex_8e157_10 : decode cJ3_checkIndex_8e157 10 = .ok (.iload_n 0, 1) := op_26 kcJ3_checkIndex_8e157 (Nat.le_of_ble_eq_true rfl) rfl
theorem dJ3_checkIndex_8e157_11 : decode cJ3_checkIndex_8e157 11 = .ok (.iload_n 1, 1) := op_27 kcJ3_checkIndex_8e157 (Nat.le_of_ble_eq_true rfl) rfl
theorem dJ3_checkIndex_8e157_12 : decode cJ3_checkIndex_8e157 12 = .ok (.invokestatic 95, 3) := op_184 (a := 0) (b := 95) kcJ3_checkIndex_8e157 (Nat.le_of_ble_eq_true rfl) rfl rfl rfl
theorem dJ3_checkIndex_8e157_15 : decode cJ3_checkIndex_8e157 15 = .ok (.athrow, 1) := op_191 kcJ3_checkIndex_8e157 (Nat.le_of_ble_eq_true rfl) rfl
theorem dJ3_checkIndex_8e157_16 : decode cJ3_checkIndex_8e157 16 = .ok (.iload_n 0, 1) := op_26 kcJ3_checkIndex_8e157 (Nat.le_of_ble_eq_true rfl) rfl
theorem dJ3_checkIndex_8e157_17 : decode cJ3_checkIndex_8e157 17 = .ok (.ireturn, 1) := op_172 kcJ3_checkIndex_8e157 (Nat.le_of_ble_eq_true rfl) rfl
abbrev vwCl : List vw_C := [(RX0, TX0, 1), (RX1, TX1, 9), (RX2, TX2, 5), (RX3, TX3, 4), (RX4, TX4, 2), (RX5, TX5, 3), (RX6, TX6, 7), (RX7, TX7, 3), (RX8, TX8, 9), (RX9, TX9, 6), (RX10, TX10, 9), (RX11, TX11, 15), (RX12, TX12, 37)]
