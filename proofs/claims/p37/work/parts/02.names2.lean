theorem dX4_howMany_1 : decode cX4_howMany 1 = .ok (.istore_n 1, 1) := op_60 kcX4_howMany (Nat.le_of_ble_eq_true rfl) rfl
theorem dX4_howMany_2 : decode cX4_howMany 2 = .ok (.aload_n 0, 1) := op_42 kcX4_howMany (Nat.le_of_ble_eq_true rfl) rfl
theorem dX4_howMany_3 : decode cX4_howMany 3 = .ok (.getfield 15, 3) := op_180 (a := 0) (b := 15) kcX4_howMany (Nat.le_of_ble_eq_true rfl) rfl rfl rfl
theorem dX4_howMany_6 : decode cX4_howMany 6 = .ok (.getfield 19, 3) := op_180 (a := 0) (b := 19) kcX4_howMany (Nat.le_of_ble_eq_true rfl) rfl rfl rfl
theorem dX4_howMany_9 : decode cX4_howMany 9 = .ok (.getfield 25, 3) := op_180 (a := 0) (b := 25) kcX4_howMany (Nat.le_of_ble_eq_true rfl) rfl rfl rfl
theorem dX4_howMany_12 : decode cX4_howMany 12 = .ok (.istore_n 2, 1) := op_61 kcX4_howMany (Nat.le_of_ble_eq_true rfl) rfl
theorem dX4_howMany_13 : decode cX4_howMany 13 = .ok (.aload_n 0, 1) := op_42 kcX4_howMany (Nat.le_of_ble_eq_true rfl) rfl
theorem dX4_howMany_14 : decode cX4_howMany 14 = .ok (.getfield 15, 3) := op_180 (a := 0) (b := 15) kcX4_howMany (Nat.le_of_ble_eq_true rfl) rfl rfl rfl
theorem dX4_howMany_17 : decode cX4_howMany 17 = .ok (.getfield 19, 3) := op_180 (a := 0) (b := 19) kcX4_howMany (Nat.le_of_ble_eq_true rfl) rfl rfl rfl
theorem dX4_howMany_20 : decode cX4_howMany 20 = .ok (.getfield 31, 3) := op_180 (a := 0) (b := 31) kcX4_howMany (Nat.le_of_ble_eq_true rfl) rfl rfl rfl
theorem dX4_howMany_23 : decode cX4_howMany 23 = .ok (.istore_n 3, 1) := op_62 kcX4_howMany (Nat.le_of_ble_eq_true rfl) rfl
theorem dX4_howMany_24 : decode cX4_howMany 24 = .ok (.iconst 0, 1) := op_3 kcX4_howMany (Nat.le_of_ble_eq_true rfl) rfl
theorem dX4_howMany_25 : decode cX4_howMany 25 = .ok (.istore 4, 2) := op_54 (a := 4) kcX4_howMany (Nat.le_of_ble_eq_true rfl) rfl rfl
theorem dX4_howMany_27 : decode cX4_howMany 27 = .ok (.iload 4, 2) := op_21 (a := 4) kcX4_howMany (Nat.le_of_ble_eq_true rfl) rfl rfl
theorem dX4_howMany_29 : decode cX4_howMany 29 = .ok (.aload_n 0, 1) := op_42 kcX4_howMany (Nat.le_of_ble_eq_true rfl) rfl
theorem dX4_howMany_30 : decode cX4_howMany 30 = .ok (.getfield 15, 3) := op_180 (a := 0) (b := 15) kcX4_howMany (Nat.le_of_ble_eq_true rfl) rfl rfl rfl
theorem dX4_howMany_33 : decode cX4_howMany 33 = .ok (.getfield 19, 3) := op_180 (a := 0) (b := 19) kcX4_howMany (Nat.le_of_ble_eq_true rfl) rfl rfl rfl
theorem dX4_howMany_36 : decode cX4_howMany 36 = .ok (.getfield 34, 3) := op_180 (a := 0) (b := 34) kcX4_howMany (Nat.le_of_ble_eq_true rfl) rfl rfl rfl
theorem dX4_howMany_39 : decode cX4_howMany 39 = .ok (.if_icmp .ge 77, 3) := op_162 (a := 0) (b := 77) kcX4_howMany (Nat.le_of_ble_eq_true rfl) rfl rfl rfl (by decide)
theorem dX4_howMany_42 : decode cX4_howMany 42 = .ok (.aload_n 0, 1) := op_42 kcX4_howMany (Nat.le_of_ble_eq_true rfl) rfl
theorem dX4_howMany_43 : decode cX4_howMany 43 = .ok (.getfield 15, 3) := op_180 (a := 0) (b := 15) kcX4_howMany (Nat.le_of_ble_eq_true rfl) rfl rfl rfl
theorem dX4_howMany_46 : decode cX4_howMany 46 = .ok (.getfield 19, 3) := op_180 (a := 0) (b := 19) kcX4_howMany (Nat.le_of_ble_eq_true rfl) rfl rfl rfl
theorem dX4_howMany_49 : decode cX4_howMany 49 = .ok (.getfield 37, 3) := op_180 (a := 0) (b := 37) kcX4_howMany (Nat.le_of_ble_eq_true rfl) rfl rfl rfl
theorem dX4_howMany_52 : decode cX4_howMany 52 = .ok (.iload 4, 2) := op_21 (a := 4) kcX4_howMany (Nat.le_of_ble_eq_true rfl) rfl rfl
theorem dX4_howMany_54 : decode cX4_howMany 54 = .ok (.iaload, 1) := op_46 kcX4_howMany (Nat.le_of_ble_eq_true rfl) rfl
theorem dX4_howMany_55 : decode cX4_howMany 55 = .ok (.istore 5, 2) := op_54 (a := 5) kcX4_howMany (Nat.le_of_ble_eq_true rfl) rfl rfl
theorem dX4_howMany_57 : decode cX4_howMany 57 = .ok (.aload_n 0, 1) := op_42 kcX4_howMany (Nat.le_of_ble_eq_true rfl) rfl
theorem dX4_howMany_58 : decode cX4_howMany 58 = .ok (.getfield 15, 3) := op_180 (a := 0) (b := 15) kcX4_howMany (Nat.le_of_ble_eq_true rfl) rfl rfl rfl
theorem dX4_howMany_61 : decode cX4_howMany 61 = .ok (.iload_n 2, 1) := op_28 kcX4_howMany (Nat.le_of_ble_eq_true rfl) rfl
theorem dX4_howMany_62 : decode cX4_howMany 62 = .ok (.invokevirtual 40, 3) := op_182 (a := 0) (b := 40) kcX4_howMany (Nat.le_of_ble_eq_true rfl) rfl rfl rfl
theorem dX4_howMany_65 : decode cX4_howMany 65 = .ok (.aload_n 0, 1) := op_42 kcX4_howMany (Nat.le_of_ble_eq_true rfl) rfl
theorem dX4_howMany_66 : decode cX4_howMany 66 = .ok (.getfield 15, 3) := op_180 (a := 0) (b := 15) kcX4_howMany (Nat.le_of_ble_eq_true rfl) rfl rfl rfl
theorem dX4_howMany_69 : decode cX4_howMany 69 = .ok (.iload_n 2, 1) := op_28 kcX4_howMany (Nat.le_of_ble_eq_true rfl) rfl
theorem dX4_howMany_70 : decode cX4_howMany 70 = .ok (.iload 5, 2) := op_21 (a := 5) kcX4_howMany (Nat.le_of_ble_eq_true rfl) rfl rfl
theorem dX4_howMany_72 : decode cX4_howMany 72 = .ok (.invokevirtual 44, 3) := op_182 (a := 0) (b := 44) kcX4_howMany (Nat.le_of_ble_eq_true rfl) rfl rfl rfl
theorem dX4_howMany_75 : decode cX4_howMany 75 = .ok (.istore 6, 2) := op_54 (a := 6) kcX4_howMany (Nat.le_of_ble_eq_true rfl) rfl rfl
theorem dX4_howMany_77 : decode cX4_howMany 77 = .ok (.aload_n 0, 1) := op_42 kcX4_howMany (Nat.le_of_ble_eq_true rfl) rfl
theorem dX4_howMany_78 : decode cX4_howMany 78 = .ok (.getfield 9, 3) := op_180 (a := 0) (b := 9) kcX4_howMany (Nat.le_of_ble_eq_true rfl) rfl rfl rfl
theorem dX4_howMany_81 : decode cX4_howMany 81 = .ok (.iload 4, 2) := op_21 (a := 4) kcX4_howMany (Nat.le_of_ble_eq_true rfl) rfl rfl
theorem dX4_howMany_83 : decode cX4_howMany 83 = .ok (.aload_n 0, 1) := op_42 kcX4_howMany (Nat.le_of_ble_eq_true rfl) rfl
theorem dX4_howMany_84 : decode cX4_howMany 84 = .ok (.iload_n 3, 1) := op_29 kcX4_howMany (Nat.le_of_ble_eq_true rfl) rfl
theorem dX4_howMany_85 : decode cX4_howMany 85 = .ok (.iload 6, 2) := op_21 (a := 6) kcX4_howMany (Nat.le_of_ble_eq_true rfl) rfl rfl
theorem dX4_howMany_87 : decode cX4_howMany 87 = .ok (.invokevirtual 48, 3) := op_182 (a := 0) (b := 48) kcX4_howMany (Nat.le_of_ble_eq_true rfl) rfl rfl rfl
theorem dX4_howMany_90 : decode cX4_howMany 90 = .ok (.iastore, 1) := op_79 kcX4_howMany (Nat.le_of_ble_eq_true rfl) rfl
theorem dX4_howMany_91 : decode cX4_howMany 91 = .ok (.iload_n 1, 1) := op_27 kcX4_howMany (Nat.le_of_ble_eq_true rfl) rfl
theorem dX4_howMany_92 : decode cX4_howMany 92 = .ok (.aload_n 0, 1) := op_42 kcX4_howMany (Nat.le_of_ble_eq_true rfl) rfl
theorem dX4_howMany_93 : decode cX4_howMany 93 = .ok (.getfield 9, 3) := op_180 (a := 0) (b := 9) kcX4_howMany (Nat.le_of_ble_eq_true rfl) rfl rfl rfl
theorem dX4_howMany_96 : decode cX4_howMany 96 = .ok (.iload 4, 2) := op_21 (a := 4) kcX4_howMany (Nat.le_of_ble_eq_true rfl) rfl rfl
theorem dX4_howMany_98 : decode cX4_howMany 98 = .ok (.iaload, 1) := op_46 kcX4_howMany (Nat.le_of_ble_eq_true rfl) rfl
theorem dX4_howMany_99 : decode cX4_howMany 99 = .ok (.invokestatic 51, 3) := op_184 (a := 0) (b := 51) kcX4_howMany (Nat.le_of_ble_eq_true rfl) rfl rfl rfl
theorem dX4_howMany_102 : decode cX4_howMany 102 = .ok (.imul, 1) := op_104 kcX4_howMany (Nat.le_of_ble_eq_true rfl) rfl
theorem dX4_howMany_103 : decode cX4_howMany 103 = .ok (.istore_n 1, 1) := op_60 kcX4_howMany (Nat.le_of_ble_eq_true rfl) rfl
theorem dX4_howMany_104 : decode cX4_howMany 104 = .ok (.iload 5, 2) := op_21 (a := 5) kcX4_howMany (Nat.le_of_ble_eq_true rfl) rfl rfl
theorem dX4_howMany_106 : decode cX4_howMany 106 = .ok (.istore_n 2, 1) := op_61 kcX4_howMany (Nat.le_of_ble_eq_true rfl) rfl
theorem dX4_howMany_107 : decode cX4_howMany 107 = .ok (.iload 6, 2) := op_21 (a := 6) kcX4_howMany (Nat.le_of_ble_eq_true rfl) rfl rfl
theorem dX4_howMany_109 : decode cX4_howMany 109 = .ok (.istore_n 3, 1) := op_62 kcX4_howMany (Nat.le_of_ble_eq_true rfl) rfl
theorem dX4_howMany_110 : decode cX4_howMany 110 = .ok (.iinc 4 1, 3) := by decide +kernel
theorem dX4_howMany_113 : decode cX4_howMany 113 = .ok (.goto (-86), 3) := op_167 (a := 255) (b := 170) kcX4_howMany (Nat.le_of_ble_eq_true rfl) rfl rfl rfl (by decide)
theorem dX4_howMany_116 : decode cX4_howMany 116 = .ok (.iload_n 1, 1) := op_27 kcX4_howMany (Nat.le_of_ble_eq_true rfl) rfl
theorem dX4_howMany_117 : decode cX4_howMany 117 = .ok (.ireturn, 1) := op_172 kcX4_howMany (Nat.le_of_ble_eq_true rfl) rfl
set_option maxRecDepth 20000 in
theorem ggX4_stirsBringing_X6_placeAfter : GoodIn wsX4_stirsBringing wsX6_placeAfter := goodIn_r _ [8, 9, 17, 18, 19, 20, 21, 22, 23] rfl gw_wsX6_placeAfter
set_option maxRecDepth 20000 in
theorem gX4_stirsBringing_X6_placeAfter : GoodIn wsX4_stirsBringing (wsV RX4 66 RX6 yX6_placeAfter wsX6_placeAfter) := goodIn_app (goodIn_of _ (by decide +kernel)) ggX4_stirsBringing_X6_placeAfter
theorem kcX4_stirsBringing : (cX4_stirsBringing).data.toList = cbs 0xac1dd6ffa70104843e80780415041d0a00a01c4200b61b04153900b40f00b42a2100a23d00b43900b40f00b42a04150436033e03 52 := by decide +kernel
theorem dX4_stirsBringing_0 : decode cX4_stirsBringing 0 = .ok (.iconst 0, 1) := op_3 kcX4_stirsBringing (Nat.le_of_ble_eq_true rfl) rfl
theorem dX4_stirsBringing_1 : decode cX4_stirsBringing 1 = .ok (.istore_n 3, 1) := op_62 kcX4_stirsBringing (Nat.le_of_ble_eq_true rfl) rfl
theorem dX4_stirsBringing_2 : decode cX4_stirsBringing 2 = .ok (.iconst 0, 1) := op_3 kcX4_stirsBringing (Nat.le_of_ble_eq_true rfl) rfl
theorem dX4_stirsBringing_3 : decode cX4_stirsBringing 3 = .ok (.istore 4, 2) := op_54 (a := 4) kcX4_stirsBringing (Nat.le_of_ble_eq_true rfl) rfl rfl
theorem dX4_stirsBringing_5 : decode cX4_stirsBringing 5 = .ok (.iload 4, 2) := op_21 (a := 4) kcX4_stirsBringing (Nat.le_of_ble_eq_true rfl) rfl rfl
theorem dX4_stirsBringing_7 : decode cX4_stirsBringing 7 = .ok (.aload_n 0, 1) := op_42 kcX4_stirsBringing (Nat.le_of_ble_eq_true rfl) rfl
theorem dX4_stirsBringing_8 : decode cX4_stirsBringing 8 = .ok (.getfield 15, 3) := op_180 (a := 0) (b := 15) kcX4_stirsBringing (Nat.le_of_ble_eq_true rfl) rfl rfl rfl
theorem dX4_stirsBringing_11 : decode cX4_stirsBringing 11 = .ok (.getfield 57, 3) := op_180 (a := 0) (b := 57) kcX4_stirsBringing (Nat.le_of_ble_eq_true rfl) rfl rfl rfl
theorem dX4_stirsBringing_14 : decode cX4_stirsBringing 14 = .ok (.getfield 61, 3) := op_180 (a := 0) (b := 61) kcX4_stirsBringing (Nat.le_of_ble_eq_true rfl) rfl rfl rfl
theorem dX4_stirsBringing_17 : decode cX4_stirsBringing 17 = .ok (.if_icmp .ge 33, 3) := op_162 (a := 0) (b := 33) kcX4_stirsBringing (Nat.le_of_ble_eq_true rfl) rfl rfl rfl (by decide)
theorem dX4_stirsBringing_20 : decode cX4_stirsBringing 20 = .ok (.aload_n 0, 1) := op_42 kcX4_stirsBringing (Nat.le_of_ble_eq_true rfl) rfl
theorem dX4_stirsBringing_21 : decode cX4_stirsBringing 21 = .ok (.getfield 15, 3) := op_180 (a := 0) (b := 15) kcX4_stirsBringing (Nat.le_of_ble_eq_true rfl) rfl rfl rfl
theorem dX4_stirsBringing_24 : decode cX4_stirsBringing 24 = .ok (.getfield 57, 3) := op_180 (a := 0) (b := 57) kcX4_stirsBringing (Nat.le_of_ble_eq_true rfl) rfl rfl rfl
theorem dX4_stirsBringing_27 : decode cX4_stirsBringing 27 = .ok (.iload 4, 2) := op_21 (a := 4) kcX4_stirsBringing (Nat.le_of_ble_eq_true rfl) rfl rfl
theorem dX4_stirsBringing_29 : decode cX4_stirsBringing 29 = .ok (.iload_n 1, 1) := op_27 kcX4_stirsBringing (Nat.le_of_ble_eq_true rfl) rfl
theorem dX4_stirsBringing_30 : decode cX4_stirsBringing 30 = .ok (.invokevirtual 66, 3) := op_182 (a := 0) (b := 66) kcX4_stirsBringing (Nat.le_of_ble_eq_true rfl) rfl rfl rfl
theorem dX4_stirsBringing_33 : decode cX4_stirsBringing 33 = .ok (.iload_n 2, 1) := op_28 kcX4_stirsBringing (Nat.le_of_ble_eq_true rfl) rfl
theorem dX4_stirsBringing_34 : decode cX4_stirsBringing 34 = .ok (.if_icmp .ne 10, 3) := op_160 (a := 0) (b := 10) kcX4_stirsBringing (Nat.le_of_ble_eq_true rfl) rfl rfl rfl (by decide)
theorem dX4_stirsBringing_37 : decode cX4_stirsBringing 37 = .ok (.iload_n 3, 1) := op_29 kcX4_stirsBringing (Nat.le_of_ble_eq_true rfl) rfl
theorem dX4_stirsBringing_38 : decode cX4_stirsBringing 38 = .ok (.iconst 1, 1) := op_4 kcX4_stirsBringing (Nat.le_of_ble_eq_true rfl) rfl
theorem dX4_stirsBringing_39 : decode cX4_stirsBringing 39 = .ok (.iload 4, 2) := op_21 (a := 4) kcX4_stirsBringing (Nat.le_of_ble_eq_true rfl) rfl rfl
theorem dX4_stirsBringing_41 : decode cX4_stirsBringing 41 = .ok (.ishl, 1) := op_120 kcX4_stirsBringing (Nat.le_of_ble_eq_true rfl) rfl
theorem dX4_stirsBringing_42 : decode cX4_stirsBringing 42 = .ok (.ior, 1) := op_128 kcX4_stirsBringing (Nat.le_of_ble_eq_true rfl) rfl
theorem dX4_stirsBringing_43 : decode cX4_stirsBringing 43 = .ok (.istore_n 3, 1) := op_62 kcX4_stirsBringing (Nat.le_of_ble_eq_true rfl) rfl
theorem dX4_stirsBringing_44 : decode cX4_stirsBringing 44 = .ok (.iinc 4 1, 3) := by decide +kernel
theorem dX4_stirsBringing_47 : decode cX4_stirsBringing 47 = .ok (.goto (-42), 3) := op_167 (a := 255) (b := 214) kcX4_stirsBringing (Nat.le_of_ble_eq_true rfl) rfl rfl rfl (by decide)
theorem dX4_stirsBringing_50 : decode cX4_stirsBringing 50 = .ok (.iload_n 3, 1) := op_29 kcX4_stirsBringing (Nat.le_of_ble_eq_true rfl) rfl
theorem dX4_stirsBringing_51 : decode cX4_stirsBringing 51 = .ok (.ireturn, 1) := op_172 kcX4_stirsBringing (Nat.le_of_ble_eq_true rfl) rfl
set_option maxRecDepth 20000 in
theorem gw_wsX4_howMany : (wsX4_howMany).all goodWord = true := by decide +kernel
set_option maxRecDepth 20000 in
theorem ggX4_stirsOfDay_X4_howMany : GoodIn wsX4_stirsOfDay wsX4_howMany := goodIn_r _ [9, 1, 2, 10, 11, 3, 12, 4, 13, 14, 15, 16, 17, 18, 19, 20, 21, 22, 23, 24, 25, 26, 27, 28, 29, 30, 31, 32, 33, 34, 35, 36, 37, 38, 39, 40, 41, 8, 42, 43, 44, 45, 46, 47, 48, 49, 50, 51, 52, 53, 54, 55, 56, 57, 58, 59, 60, 61, 62, 63, 64, 65, 66, 67, 68, 69, 70, 71, 72, 73, 74, 75, 76, 77, 78, 79] rfl gw_wsX4_howMany
set_option maxRecDepth 20000 in
theorem gX4_stirsOfDay_X4_howMany : GoodIn wsX4_stirsOfDay (wsV RX4 69 RX4 yX4_howMany wsX4_howMany) := goodIn_app (goodIn_of _ (by decide +kernel)) ggX4_stirsOfDay_X4_howMany
theorem kcX4_stirsOfDay : (cX4_stirsOfDay).data.toList = cbs 0xac030400a72e1b0900b42a0c009e4500b62a1300991c3d030400a7040700a22200b41300b40f00b42a1b15009b1b 46 := by decide +kernel
theorem dX4_stirsOfDay_0 : decode cX4_stirsOfDay 0 = .ok (.iload_n 1, 1) := op_27 kcX4_stirsOfDay (Nat.le_of_ble_eq_true rfl) rfl
theorem dX4_stirsOfDay_1 : decode cX4_stirsOfDay 1 = .ok (.ifCond .lt 21, 3) := op_155 (a := 0) (b := 21) kcX4_stirsOfDay (Nat.le_of_ble_eq_true rfl) rfl rfl rfl (by decide)
theorem dX4_stirsOfDay_4 : decode cX4_stirsOfDay 4 = .ok (.iload_n 1, 1) := op_27 kcX4_stirsOfDay (Nat.le_of_ble_eq_true rfl) rfl
theorem dX4_stirsOfDay_5 : decode cX4_stirsOfDay 5 = .ok (.aload_n 0, 1) := op_42 kcX4_stirsOfDay (Nat.le_of_ble_eq_true rfl) rfl
theorem dX4_stirsOfDay_6 : decode cX4_stirsOfDay 6 = .ok (.getfield 15, 3) := op_180 (a := 0) (b := 15) kcX4_stirsOfDay (Nat.le_of_ble_eq_true rfl) rfl rfl rfl
theorem dX4_stirsOfDay_9 : decode cX4_stirsOfDay 9 = .ok (.getfield 19, 3) := op_180 (a := 0) (b := 19) kcX4_stirsOfDay (Nat.le_of_ble_eq_true rfl) rfl rfl rfl
theorem dX4_stirsOfDay_12 : decode cX4_stirsOfDay 12 = .ok (.getfield 34, 3) := op_180 (a := 0) (b := 34) kcX4_stirsOfDay (Nat.le_of_ble_eq_true rfl) rfl rfl rfl
theorem dX4_stirsOfDay_15 : decode cX4_stirsOfDay 15 = .ok (.if_icmp .ge 7, 3) := op_162 (a := 0) (b := 7) kcX4_stirsOfDay (Nat.le_of_ble_eq_true rfl) rfl rfl rfl (by decide)
theorem dX4_stirsOfDay_18 : decode cX4_stirsOfDay 18 = .ok (.iconst 1, 1) := op_4 kcX4_stirsOfDay (Nat.le_of_ble_eq_true rfl) rfl
theorem dX4_stirsOfDay_19 : decode cX4_stirsOfDay 19 = .ok (.goto 4, 3) := op_167 (a := 0) (b := 4) kcX4_stirsOfDay (Nat.le_of_ble_eq_true rfl) rfl rfl rfl (by decide)
theorem dX4_stirsOfDay_22 : decode cX4_stirsOfDay 22 = .ok (.iconst 0, 1) := op_3 kcX4_stirsOfDay (Nat.le_of_ble_eq_true rfl) rfl
theorem dX4_stirsOfDay_23 : decode cX4_stirsOfDay 23 = .ok (.istore_n 2, 1) := op_61 kcX4_stirsOfDay (Nat.le_of_ble_eq_true rfl) rfl
theorem dX4_stirsOfDay_24 : decode cX4_stirsOfDay 24 = .ok (.iload_n 2, 1) := op_28 kcX4_stirsOfDay (Nat.le_of_ble_eq_true rfl) rfl
theorem dX4_stirsOfDay_25 : decode cX4_stirsOfDay 25 = .ok (.ifCond .eq 19, 3) := op_153 (a := 0) (b := 19) kcX4_stirsOfDay (Nat.le_of_ble_eq_true rfl) rfl rfl rfl (by decide)
theorem dX4_stirsOfDay_28 : decode cX4_stirsOfDay 28 = .ok (.aload_n 0, 1) := op_42 kcX4_stirsOfDay (Nat.le_of_ble_eq_true rfl) rfl
theorem dX4_stirsOfDay_29 : decode cX4_stirsOfDay 29 = .ok (.invokevirtual 69, 3) := op_182 (a := 0) (b := 69) kcX4_stirsOfDay (Nat.le_of_ble_eq_true rfl) rfl rfl rfl
theorem dX4_stirsOfDay_32 : decode cX4_stirsOfDay 32 = .ok (.ifCond .le 12, 3) := op_158 (a := 0) (b := 12) kcX4_stirsOfDay (Nat.le_of_ble_eq_true rfl) rfl rfl rfl (by decide)
theorem dX4_stirsOfDay_35 : decode cX4_stirsOfDay 35 = .ok (.aload_n 0, 1) := op_42 kcX4_stirsOfDay (Nat.le_of_ble_eq_true rfl) rfl
theorem dX4_stirsOfDay_36 : decode cX4_stirsOfDay 36 = .ok (.getfield 9, 3) := op_180 (a := 0) (b := 9) kcX4_stirsOfDay (Nat.le_of_ble_eq_true rfl) rfl rfl rfl
theorem dX4_stirsOfDay_39 : decode cX4_stirsOfDay 39 = .ok (.iload_n 1, 1) := op_27 kcX4_stirsOfDay (Nat.le_of_ble_eq_true rfl) rfl
theorem dX4_stirsOfDay_40 : decode cX4_stirsOfDay 40 = .ok (.iaload, 1) := op_46 kcX4_stirsOfDay (Nat.le_of_ble_eq_true rfl) rfl
theorem dX4_stirsOfDay_41 : decode cX4_stirsOfDay 41 = .ok (.goto 4, 3) := op_167 (a := 0) (b := 4) kcX4_stirsOfDay (Nat.le_of_ble_eq_true rfl) rfl rfl rfl (by decide)
theorem dX4_stirsOfDay_44 : decode cX4_stirsOfDay 44 = .ok (.iconst 0, 1) := op_3 kcX4_stirsOfDay (Nat.le_of_ble_eq_true rfl) rfl
theorem dX4_stirsOfDay_45 : decode cX4_stirsOfDay 45 = .ok (.ireturn, 1) := op_172 kcX4_stirsOfDay (Nat.le_of_ble_eq_true rfl) rfl
set_option maxRecDepth 20000 in
theorem gw_wsX4_stirsOfDay : (wsX4_stirsOfDay).all goodWord = true := by decide +kernel
set_option maxRecDepth 20000 in
theorem ggX4_firstStirOfDay_X4_stirsOfDay : GoodIn wsX4_firstStirOfDay wsX4_stirsOfDay := goodIn_r _ [8, 1, 9, 10, 11, 12, 13, 14, 7, 15, 16, 17, 18, 19, 20, 21, 22, 23, 24, 25, 26, 27, 28, 29, 30, 31, 32, 33, 34, 35, 36, 37, 38, 39, 40, 41, 42, 43, 44, 45, 46, 47, 48, 2, 3, 49, 50, 51, 52, 53, 54, 55, 56, 57, 58, 59, 60, 61, 62, 63, 64, 65, 66, 67, 75, 76, 77, 78, 79, 80, 81, 82, 83, 68, 69, 70, 71, 72, 73, 74] rfl gw_wsX4_stirsOfDay
set_option maxRecDepth 20000 in
theorem gX4_firstStirOfDay_X4_stirsOfDay : GoodIn wsX4_firstStirOfDay (wsV RX4 73 RX4 yX4_stirsOfDay wsX4_stirsOfDay) := goodIn_app (goodIn_of _ (by decide +kernel)) ggX4_firstStirOfDay_X4_stirsOfDay
theorem kcX4_firstStirOfDay : (cX4_firstStirOfDay).data.toList = cbs 0xacfc10e5ffa7010384ac1d0500997e047a1d1c1300a23d00b43900b40f00b42a1d3e033d4900b61b2a 41 := by decide +kernel
theorem dX4_firstStirOfDay_0 : decode cX4_firstStirOfDay 0 = .ok (.aload_n 0, 1) := op_42 kcX4_firstStirOfDay (Nat.le_of_ble_eq_true rfl) rfl
theorem dX4_firstStirOfDay_1 : decode cX4_firstStirOfDay 1 = .ok (.iload_n 1, 1) := op_27 kcX4_firstStirOfDay (Nat.le_of_ble_eq_true rfl) rfl
theorem dX4_firstStirOfDay_2 : decode cX4_firstStirOfDay 2 = .ok (.invokevirtual 73, 3) := op_182 (a := 0) (b := 73) kcX4_firstStirOfDay (Nat.le_of_ble_eq_true rfl) rfl rfl rfl
theorem dX4_firstStirOfDay_5 : decode cX4_firstStirOfDay 5 = .ok (.istore_n 2, 1) := op_61 kcX4_firstStirOfDay (Nat.le_of_ble_eq_true rfl) rfl
theorem dX4_firstStirOfDay_6 : decode cX4_firstStirOfDay 6 = .ok (.iconst 0, 1) := op_3 kcX4_firstStirOfDay (Nat.le_of_ble_eq_true rfl) rfl
theorem dX4_firstStirOfDay_7 : decode cX4_firstStirOfDay 7 = .ok (.istore_n 3, 1) := op_62 kcX4_firstStirOfDay (Nat.le_of_ble_eq_true rfl) rfl
theorem dX4_firstStirOfDay_8 : decode cX4_firstStirOfDay 8 = .ok (.iload_n 3, 1) := op_29 kcX4_firstStirOfDay (Nat.le_of_ble_eq_true rfl) rfl
theorem dX4_firstStirOfDay_9 : decode cX4_firstStirOfDay 9 = .ok (.aload_n 0, 1) := op_42 kcX4_firstStirOfDay (Nat.le_of_ble_eq_true rfl) rfl
theorem dX4_firstStirOfDay_10 : decode cX4_firstStirOfDay 10 = .ok (.getfield 15, 3) := op_180 (a := 0) (b := 15) kcX4_firstStirOfDay (Nat.le_of_ble_eq_true rfl) rfl rfl rfl
theorem dX4_firstStirOfDay_13 : decode cX4_firstStirOfDay 13 = .ok (.getfield 57, 3) := op_180 (a := 0) (b := 57) kcX4_firstStirOfDay (Nat.le_of_ble_eq_true rfl) rfl rfl rfl
theorem dX4_firstStirOfDay_16 : decode cX4_firstStirOfDay 16 = .ok (.getfield 61, 3) := op_180 (a := 0) (b := 61) kcX4_firstStirOfDay (Nat.le_of_ble_eq_true rfl) rfl rfl rfl
theorem dX4_firstStirOfDay_19 : decode cX4_firstStirOfDay 19 = .ok (.if_icmp .ge 19, 3) := op_162 (a := 0) (b := 19) kcX4_firstStirOfDay (Nat.le_of_ble_eq_true rfl) rfl rfl rfl (by decide)
theorem dX4_firstStirOfDay_22 : decode cX4_firstStirOfDay 22 = .ok (.iload_n 2, 1) := op_28 kcX4_firstStirOfDay (Nat.le_of_ble_eq_true rfl) rfl
theorem dX4_firstStirOfDay_23 : decode cX4_firstStirOfDay 23 = .ok (.iload_n 3, 1) := op_29 kcX4_firstStirOfDay (Nat.le_of_ble_eq_true rfl) rfl
theorem dX4_firstStirOfDay_24 : decode cX4_firstStirOfDay 24 = .ok (.ishr, 1) := op_122 kcX4_firstStirOfDay (Nat.le_of_ble_eq_true rfl) rfl
theorem dX4_firstStirOfDay_25 : decode cX4_firstStirOfDay 25 = .ok (.iconst 1, 1) := op_4 kcX4_firstStirOfDay (Nat.le_of_ble_eq_true rfl) rfl
theorem dX4_firstStirOfDay_26 : decode cX4_firstStirOfDay 26 = .ok (.iand, 1) := op_126 kcX4_firstStirOfDay (Nat.le_of_ble_eq_true rfl) rfl
theorem dX4_firstStirOfDay_27 : decode cX4_firstStirOfDay 27 = .ok (.ifCond .eq 5, 3) := op_153 (a := 0) (b := 5) kcX4_firstStirOfDay (Nat.le_of_ble_eq_true rfl) rfl rfl rfl (by decide)
theorem dX4_firstStirOfDay_30 : decode cX4_firstStirOfDay 30 = .ok (.iload_n 3, 1) := op_29 kcX4_firstStirOfDay (Nat.le_of_ble_eq_true rfl) rfl
theorem dX4_firstStirOfDay_31 : decode cX4_firstStirOfDay 31 = .ok (.ireturn, 1) := op_172 kcX4_firstStirOfDay (Nat.le_of_ble_eq_true rfl) rfl
theorem dX4_firstStirOfDay_32 : decode cX4_firstStirOfDay 32 = .ok (.iinc 3 1, 3) := by decide +kernel
theorem dX4_firstStirOfDay_35 : decode cX4_firstStirOfDay 35 = .ok (.goto (-27), 3) := op_167 (a := 255) (b := 229) kcX4_firstStirOfDay (Nat.le_of_ble_eq_true rfl) rfl rfl rfl (by decide)
theorem dX4_firstStirOfDay_38 : decode cX4_firstStirOfDay 38 = .ok (.bipush (-4), 2) := op_16 (a := 252) kcX4_firstStirOfDay (Nat.le_of_ble_eq_true rfl) rfl rfl (by decide)
theorem dX4_firstStirOfDay_40 : decode cX4_firstStirOfDay 40 = .ok (.ireturn, 1) := op_172 kcX4_firstStirOfDay (Nat.le_of_ble_eq_true rfl) rfl
theorem kcX5_init : (cX5_init).data.toList = cbs 0xb11300b52b2a0f00b50abc0a102a0900b50bbc0b102a0300b72a 26 := by decide +kernel
theorem dX5_init_0 : decode cX5_init 0 = .ok (.aload_n 0, 1) := op_42 kcX5_init (Nat.le_of_ble_eq_true rfl) rfl
theorem dX5_init_1 : decode cX5_init 1 = .ok (.invokespecial 3, 3) := op_183 (a := 0) (b := 3) kcX5_init (Nat.le_of_ble_eq_true rfl) rfl rfl rfl
theorem dX5_init_4 : decode cX5_init 4 = .ok (.aload_n 0, 1) := op_42 kcX5_init (Nat.le_of_ble_eq_true rfl) rfl
theorem dX5_init_5 : decode cX5_init 5 = .ok (.bipush 11, 2) := op_16 (a := 11) kcX5_init (Nat.le_of_ble_eq_true rfl) rfl rfl (by decide)
theorem dX5_init_7 : decode cX5_init 7 = .ok (.newarray .long, 2) := by decide +kernel
theorem dX5_init_9 : decode cX5_init 9 = .ok (.putfield 9, 3) := op_181 (a := 0) (b := 9) kcX5_init (Nat.le_of_ble_eq_true rfl) rfl rfl rfl
theorem dX5_init_12 : decode cX5_init 12 = .ok (.aload_n 0, 1) := op_42 kcX5_init (Nat.le_of_ble_eq_true rfl) rfl
theorem dX5_init_13 : decode cX5_init 13 = .ok (.bipush 10, 2) := op_16 (a := 10) kcX5_init (Nat.le_of_ble_eq_true rfl) rfl rfl (by decide)
theorem dX5_init_15 : decode cX5_init 15 = .ok (.newarray .int, 2) := by decide +kernel
theorem dX5_init_17 : decode cX5_init 17 = .ok (.putfield 15, 3) := op_181 (a := 0) (b := 15) kcX5_init (Nat.le_of_ble_eq_true rfl) rfl rfl rfl
theorem dX5_init_20 : decode cX5_init 20 = .ok (.aload_n 0, 1) := op_42 kcX5_init (Nat.le_of_ble_eq_true rfl) rfl
theorem dX5_init_21 : decode cX5_init 21 = .ok (.aload_n 1, 1) := op_43 kcX5_init (Nat.le_of_ble_eq_true rfl) rfl
theorem dX5_init_22 : decode cX5_init 22 = .ok (.putfield 19, 3) := op_181 (a := 0) (b := 19) kcX5_init (Nat.le_of_ble_eq_true rfl) rfl rfl rfl
theorem dX5_init_25 : decode cX5_init 25 = .ok (.return_, 1) := op_177 kcX5_init (Nat.le_of_ble_eq_true rfl) rfl
set_option maxRecDepth 20000 in
theorem ggX5_planReign_X2_serveAllKings : GoodIn wsX5_planReign wsX2_serveAllKings := goodIn_r _ [7, 8, 9, 10, 11, 12, 6, 13, 14, 15, 16, 17, 18, 19, 20, 21, 22, 23, 24, 25, 26, 27, 28, 81, 82, 83, 84, 85, 86, 87, 88, 89, 90, 91, 92, 93, 94, 95, 96, 97, 98, 99, 100, 101] rfl gw_wsX2_serveAllKings
set_option maxRecDepth 20000 in
theorem gX5_planReign_X2_serveAllKings : GoodIn wsX5_planReign (wsV RX5 23 RX2 yX2_serveAllKings wsX2_serveAllKings) := goodIn_app (goodIn_of _ (by decide +kernel)) ggX5_planReign_X2_serveAllKings
set_option maxRecDepth 20000 in
theorem gw_wsX5_allPairs : (wsX5_allPairs).all goodWord = true := by decide +kernel
set_option maxRecDepth 20000 in
theorem ggX5_planReign_X5_allPairs : GoodIn wsX5_planReign wsX5_allPairs := goodIn_r _ [33, 1, 34, 35, 36, 37, 38, 32, 39, 40, 41, 42, 78, 79, 80, 81, 82, 83, 84, 85, 86, 87, 88, 89, 90, 91, 92] rfl gw_wsX5_allPairs
set_option maxRecDepth 20000 in
theorem gX5_planReign_X5_allPairs : GoodIn wsX5_planReign (wsV RX5 28 RX5 yX5_allPairs wsX5_allPairs) := goodIn_app (goodIn_of _ (by decide +kernel)) ggX5_planReign_X5_allPairs
set_option maxRecDepth 20000 in
theorem gw_wsX5_pairsBefore : (wsX5_pairsBefore).all goodWord = true := by decide +kernel
set_option maxRecDepth 20000 in
theorem ggX5_planReign_X5_pairsBefore : GoodIn wsX5_planReign wsX5_pairsBefore := goodIn_r _ [46, 1, 34, 35, 47, 48, 49, 32, 50, 51, 52, 53, 54, 20, 55, 56, 57, 58, 59, 6, 60, 16, 40, 41, 42, 78, 79, 80, 81, 82, 83, 84, 85, 86, 87, 88, 89, 90, 91, 92] rfl gw_wsX5_pairsBefore
set_option maxRecDepth 20000 in
theorem gX5_planReign_X5_pairsBefore : GoodIn wsX5_planReign (wsV RX5 32 RX5 yX5_pairsBefore wsX5_pairsBefore) := goodIn_app (goodIn_of _ (by decide +kernel)) ggX5_planReign_X5_pairsBefore
set_option maxRecDepth 20000 in
theorem gw_wsX5_isGoodNow : (wsX5_isGoodNow).all goodWord = true := by decide +kernel
set_option maxRecDepth 20000 in
theorem ggX5_planReign_X5_isGoodNow : GoodIn wsX5_planReign wsX5_isGoodNow := goodIn_r _ [64, 2, 1, 65, 66, 67, 40, 41, 32, 42, 78, 79, 80, 81, 82, 83, 84, 85, 93, 94, 95, 96, 97, 98, 99, 100, 101] rfl gw_wsX5_isGoodNow
set_option maxRecDepth 20000 in
theorem gX5_planReign_X5_isGoodNow : GoodIn wsX5_planReign (wsV RX5 36 RX5 yX5_isGoodNow wsX5_isGoodNow) := goodIn_app (goodIn_of _ (by decide +kernel)) ggX5_planReign_X5_isGoodNow
set_option maxRecDepth 20000 in
theorem gw_wsX5_tellRow : (wsX5_tellRow).all goodWord = true := by decide +kernel
set_option maxRecDepth 20000 in
theorem ggX5_planReign_X5_tellRow : GoodIn wsX5_planReign wsX5_tellRow := goodIn_r _ [71, 1, 65, 66, 67, 2, 34, 72, 47, 48, 49, 32, 50, 51, 52, 53, 54, 20, 55, 56, 57, 58, 59, 6, 60, 16, 40, 41, 42, 73, 74, 75, 76, 77, 78, 79, 80, 81, 82, 83, 84, 85, 93, 94, 95, 96, 97, 98, 99, 100, 101, 86, 87, 88, 89, 90, 91, 92] rfl gw_wsX5_tellRow
set_option maxRecDepth 20000 in
theorem gX5_planReign_X5_tellRow : GoodIn wsX5_planReign (wsV RX5 40 RX5 yX5_tellRow wsX5_tellRow) := goodIn_app (goodIn_of _ (by decide +kernel)) ggX5_planReign_X5_tellRow
theorem kcX5_planReign : (cX5_planReign).data.toList = cbs 0xac1c2800b6041c2adbffa70103843d1d0500992400b61d2a502000b6042f64041d0900b42a2a1d0900b42a2600a31b1d3e043d03501c00b62a030900b42a1700b61300b42a 69 := by decide +kernel
theorem dX5_planReign_0 : decode cX5_planReign 0 = .ok (.aload_n 0, 1) := op_42 kcX5_planReign (Nat.le_of_ble_eq_true rfl) rfl
theorem dX5_planReign_1 : decode cX5_planReign 1 = .ok (.getfield 19, 3) := op_180 (a := 0) (b := 19) kcX5_planReign (Nat.le_of_ble_eq_true rfl) rfl rfl rfl
theorem dX5_planReign_4 : decode cX5_planReign 4 = .ok (.invokevirtual 23, 3) := op_182 (a := 0) (b := 23) kcX5_planReign (Nat.le_of_ble_eq_true rfl) rfl rfl rfl
theorem dX5_planReign_7 : decode cX5_planReign 7 = .ok (.aload_n 0, 1) := op_42 kcX5_planReign (Nat.le_of_ble_eq_true rfl) rfl
theorem dX5_planReign_8 : decode cX5_planReign 8 = .ok (.getfield 9, 3) := op_180 (a := 0) (b := 9) kcX5_planReign (Nat.le_of_ble_eq_true rfl) rfl rfl rfl
theorem dX5_planReign_11 : decode cX5_planReign 11 = .ok (.iconst 0, 1) := op_3 kcX5_planReign (Nat.le_of_ble_eq_true rfl) rfl
theorem dX5_planReign_12 : decode cX5_planReign 12 = .ok (.aload_n 0, 1) := op_42 kcX5_planReign (Nat.le_of_ble_eq_true rfl) rfl
theorem dX5_planReign_13 : decode cX5_planReign 13 = .ok (.invokevirtual 28, 3) := op_182 (a := 0) (b := 28) kcX5_planReign (Nat.le_of_ble_eq_true rfl) rfl rfl rfl
theorem dX5_planReign_16 : decode cX5_planReign 16 = .ok (.lastore, 1) := op_80 kcX5_planReign (Nat.le_of_ble_eq_true rfl) rfl
theorem dX5_planReign_17 : decode cX5_planReign 17 = .ok (.iconst 0, 1) := op_3 kcX5_planReign (Nat.le_of_ble_eq_true rfl) rfl
theorem dX5_planReign_18 : decode cX5_planReign 18 = .ok (.istore_n 2, 1) := op_61 kcX5_planReign (Nat.le_of_ble_eq_true rfl) rfl
theorem dX5_planReign_19 : decode cX5_planReign 19 = .ok (.iconst 1, 1) := op_4 kcX5_planReign (Nat.le_of_ble_eq_true rfl) rfl
theorem dX5_planReign_20 : decode cX5_planReign 20 = .ok (.istore_n 3, 1) := op_62 kcX5_planReign (Nat.le_of_ble_eq_true rfl) rfl
theorem dX5_planReign_21 : decode cX5_planReign 21 = .ok (.iload_n 3, 1) := op_29 kcX5_planReign (Nat.le_of_ble_eq_true rfl) rfl
theorem dX5_planReign_22 : decode cX5_planReign 22 = .ok (.iload_n 1, 1) := op_27 kcX5_planReign (Nat.le_of_ble_eq_true rfl) rfl
theorem dX5_planReign_23 : decode cX5_planReign 23 = .ok (.if_icmp .gt 38, 3) := op_163 (a := 0) (b := 38) kcX5_planReign (Nat.le_of_ble_eq_true rfl) rfl rfl rfl (by decide)
theorem dX5_planReign_26 : decode cX5_planReign 26 = .ok (.aload_n 0, 1) := op_42 kcX5_planReign (Nat.le_of_ble_eq_true rfl) rfl
theorem dX5_planReign_27 : decode cX5_planReign 27 = .ok (.getfield 9, 3) := op_180 (a := 0) (b := 9) kcX5_planReign (Nat.le_of_ble_eq_true rfl) rfl rfl rfl
theorem dX5_planReign_30 : decode cX5_planReign 30 = .ok (.iload_n 3, 1) := op_29 kcX5_planReign (Nat.le_of_ble_eq_true rfl) rfl
theorem dX5_planReign_31 : decode cX5_planReign 31 = .ok (.aload_n 0, 1) := op_42 kcX5_planReign (Nat.le_of_ble_eq_true rfl) rfl
theorem dX5_planReign_32 : decode cX5_planReign 32 = .ok (.aload_n 0, 1) := op_42 kcX5_planReign (Nat.le_of_ble_eq_true rfl) rfl
theorem dX5_planReign_33 : decode cX5_planReign 33 = .ok (.getfield 9, 3) := op_180 (a := 0) (b := 9) kcX5_planReign (Nat.le_of_ble_eq_true rfl) rfl rfl rfl
theorem dX5_planReign_36 : decode cX5_planReign 36 = .ok (.iload_n 3, 1) := op_29 kcX5_planReign (Nat.le_of_ble_eq_true rfl) rfl
theorem dX5_planReign_37 : decode cX5_planReign 37 = .ok (.iconst 1, 1) := op_4 kcX5_planReign (Nat.le_of_ble_eq_true rfl) rfl
theorem dX5_planReign_38 : decode cX5_planReign 38 = .ok (.isub, 1) := op_100 kcX5_planReign (Nat.le_of_ble_eq_true rfl) rfl
theorem dX5_planReign_39 : decode cX5_planReign 39 = .ok (.laload, 1) := op_47 kcX5_planReign (Nat.le_of_ble_eq_true rfl) rfl
theorem dX5_planReign_40 : decode cX5_planReign 40 = .ok (.iconst 1, 1) := op_4 kcX5_planReign (Nat.le_of_ble_eq_true rfl) rfl
theorem dX5_planReign_41 : decode cX5_planReign 41 = .ok (.invokevirtual 32, 3) := op_182 (a := 0) (b := 32) kcX5_planReign (Nat.le_of_ble_eq_true rfl) rfl rfl rfl
theorem dX5_planReign_44 : decode cX5_planReign 44 = .ok (.lastore, 1) := op_80 kcX5_planReign (Nat.le_of_ble_eq_true rfl) rfl
theorem dX5_planReign_45 : decode cX5_planReign 45 = .ok (.aload_n 0, 1) := op_42 kcX5_planReign (Nat.le_of_ble_eq_true rfl) rfl
theorem dX5_planReign_46 : decode cX5_planReign 46 = .ok (.iload_n 3, 1) := op_29 kcX5_planReign (Nat.le_of_ble_eq_true rfl) rfl
theorem dX5_planReign_47 : decode cX5_planReign 47 = .ok (.invokevirtual 36, 3) := op_182 (a := 0) (b := 36) kcX5_planReign (Nat.le_of_ble_eq_true rfl) rfl rfl rfl
theorem dX5_planReign_50 : decode cX5_planReign 50 = .ok (.ifCond .eq 5, 3) := op_153 (a := 0) (b := 5) kcX5_planReign (Nat.le_of_ble_eq_true rfl) rfl rfl rfl (by decide)
theorem dX5_planReign_53 : decode cX5_planReign 53 = .ok (.iload_n 3, 1) := op_29 kcX5_planReign (Nat.le_of_ble_eq_true rfl) rfl
theorem dX5_planReign_54 : decode cX5_planReign 54 = .ok (.istore_n 2, 1) := op_61 kcX5_planReign (Nat.le_of_ble_eq_true rfl) rfl
theorem dX5_planReign_55 : decode cX5_planReign 55 = .ok (.iinc 3 1, 3) := by decide +kernel
theorem dX5_planReign_58 : decode cX5_planReign 58 = .ok (.goto (-37), 3) := op_167 (a := 255) (b := 219) kcX5_planReign (Nat.le_of_ble_eq_true rfl) rfl rfl rfl (by decide)
theorem dX5_planReign_61 : decode cX5_planReign 61 = .ok (.aload_n 0, 1) := op_42 kcX5_planReign (Nat.le_of_ble_eq_true rfl) rfl
theorem dX5_planReign_62 : decode cX5_planReign 62 = .ok (.iload_n 2, 1) := op_28 kcX5_planReign (Nat.le_of_ble_eq_true rfl) rfl
theorem dX5_planReign_63 : decode cX5_planReign 63 = .ok (.iconst 1, 1) := op_4 kcX5_planReign (Nat.le_of_ble_eq_true rfl) rfl
theorem dX5_planReign_64 : decode cX5_planReign 64 = .ok (.invokevirtual 40, 3) := op_182 (a := 0) (b := 40) kcX5_planReign (Nat.le_of_ble_eq_true rfl) rfl rfl rfl
theorem dX5_planReign_67 : decode cX5_planReign 67 = .ok (.iload_n 2, 1) := op_28 kcX5_planReign (Nat.le_of_ble_eq_true rfl) rfl
theorem dX5_planReign_68 : decode cX5_planReign 68 = .ok (.ireturn, 1) := op_172 kcX5_planReign (Nat.le_of_ble_eq_true rfl) rfl
set_option maxRecDepth 20000 in
theorem ggX5_planRaise_X2_serveAllKings : GoodIn wsX5_planRaise wsX2_serveAllKings := goodIn_r _ [7, 8, 9, 10, 11, 12, 6, 13, 14, 15, 16, 17, 18, 19, 20, 21, 22, 23, 24, 25, 26, 27, 28, 77, 78, 79, 80, 81, 82, 83, 84, 85, 86, 87, 88, 89, 90, 91, 92, 93, 94, 95, 96, 97] rfl gw_wsX2_serveAllKings
set_option maxRecDepth 20000 in
theorem gX5_planRaise_X2_serveAllKings : GoodIn wsX5_planRaise (wsV RX5 23 RX2 yX2_serveAllKings wsX2_serveAllKings) := goodIn_app (goodIn_of _ (by decide +kernel)) ggX5_planRaise_X2_serveAllKings
set_option maxRecDepth 20000 in
theorem gw_wsX5_pairsOfKing : (wsX5_pairsOfKing).all goodWord = true := by decide +kernel
set_option maxRecDepth 20000 in
theorem ggX5_planRaise_X5_pairsOfKing : GoodIn wsX5_planRaise wsX5_pairsOfKing := goodIn_r _ [33, 1, 34, 35, 36, 37, 32, 38, 74, 75, 76, 77, 78, 79, 80, 81, 82, 83, 84, 85, 86, 87, 88] rfl gw_wsX5_pairsOfKing
set_option maxRecDepth 20000 in
theorem gX5_planRaise_X5_pairsOfKing : GoodIn wsX5_planRaise (wsV RX5 44 RX5 yX5_pairsOfKing wsX5_pairsOfKing) := goodIn_app (goodIn_of _ (by decide +kernel)) ggX5_planRaise_X5_pairsOfKing
set_option maxRecDepth 20000 in
theorem ggX5_planRaise_X5_pairsBefore : GoodIn wsX5_planRaise wsX5_pairsBefore := goodIn_r _ [42, 1, 34, 35, 43, 44, 45, 32, 46, 47, 48, 49, 50, 20, 51, 52, 53, 54, 55, 6, 56, 16, 36, 37, 38, 74, 75, 76, 77, 78, 79, 80, 81, 82, 83, 84, 85, 86, 87, 88] rfl gw_wsX5_pairsBefore
set_option maxRecDepth 20000 in
theorem gX5_planRaise_X5_pairsBefore : GoodIn wsX5_planRaise (wsV RX5 32 RX5 yX5_pairsBefore wsX5_pairsBefore) := goodIn_app (goodIn_of _ (by decide +kernel)) ggX5_planRaise_X5_pairsBefore
set_option maxRecDepth 20000 in
theorem ggX5_planRaise_X5_isGoodNow : GoodIn wsX5_planRaise wsX5_isGoodNow := goodIn_r _ [60, 2, 1, 61, 62, 63, 36, 37, 32, 38, 74, 75, 76, 77, 78, 79, 80, 81, 89, 90, 91, 92, 93, 94, 95, 96, 97] rfl gw_wsX5_isGoodNow
set_option maxRecDepth 20000 in
theorem gX5_planRaise_X5_isGoodNow : GoodIn wsX5_planRaise (wsV RX5 36 RX5 yX5_isGoodNow wsX5_isGoodNow) := goodIn_app (goodIn_of _ (by decide +kernel)) ggX5_planRaise_X5_isGoodNow
set_option maxRecDepth 20000 in
theorem ggX5_planRaise_X5_tellRow : GoodIn wsX5_planRaise wsX5_tellRow := goodIn_r _ [67, 1, 61, 62, 63, 2, 34, 68, 43, 44, 45, 32, 46, 47, 48, 49, 50, 20, 51, 52, 53, 54, 55, 6, 56, 16, 36, 37, 38, 69, 70, 71, 72, 73, 74, 75, 76, 77, 78, 79, 80, 81, 89, 90, 91, 92, 93, 94, 95, 96, 97, 82, 83, 84, 85, 86, 87, 88] rfl gw_wsX5_tellRow
set_option maxRecDepth 20000 in
theorem gX5_planRaise_X5_tellRow : GoodIn wsX5_planRaise (wsV RX5 40 RX5 yX5_tellRow wsX5_tellRow) := goodIn_app (goodIn_of _ (by decide +kernel)) ggX5_planRaise_X5_tellRow
theorem kcX5_planRaise : (cX5_planRaise).data.toList = cbs 0xacfc10d0ffa7010284ac1c2800b6031c2a0b00992400b61c2a502000b6032f64041c0900b42a2a1c0900b42a16009e1c3000a30a101c3d03502c00b61b2a030900b42a1700b61300b42a 74 := by decide +kernel
theorem dX5_planRaise_0 : decode cX5_planRaise 0 = .ok (.aload_n 0, 1) := op_42 kcX5_planRaise (Nat.le_of_ble_eq_true rfl) rfl
theorem dX5_planRaise_1 : decode cX5_planRaise 1 = .ok (.getfield 19, 3) := op_180 (a := 0) (b := 19) kcX5_planRaise (Nat.le_of_ble_eq_true rfl) rfl rfl rfl
theorem dX5_planRaise_4 : decode cX5_planRaise 4 = .ok (.invokevirtual 23, 3) := op_182 (a := 0) (b := 23) kcX5_planRaise (Nat.le_of_ble_eq_true rfl) rfl rfl rfl
theorem dX5_planRaise_7 : decode cX5_planRaise 7 = .ok (.aload_n 0, 1) := op_42 kcX5_planRaise (Nat.le_of_ble_eq_true rfl) rfl
theorem dX5_planRaise_8 : decode cX5_planRaise 8 = .ok (.getfield 9, 3) := op_180 (a := 0) (b := 9) kcX5_planRaise (Nat.le_of_ble_eq_true rfl) rfl rfl rfl
theorem dX5_planRaise_11 : decode cX5_planRaise 11 = .ok (.iconst 0, 1) := op_3 kcX5_planRaise (Nat.le_of_ble_eq_true rfl) rfl
theorem dX5_planRaise_12 : decode cX5_planRaise 12 = .ok (.aload_n 0, 1) := op_42 kcX5_planRaise (Nat.le_of_ble_eq_true rfl) rfl
theorem dX5_planRaise_13 : decode cX5_planRaise 13 = .ok (.iload_n 1, 1) := op_27 kcX5_planRaise (Nat.le_of_ble_eq_true rfl) rfl
theorem dX5_planRaise_14 : decode cX5_planRaise 14 = .ok (.invokevirtual 44, 3) := op_182 (a := 0) (b := 44) kcX5_planRaise (Nat.le_of_ble_eq_true rfl) rfl rfl rfl
theorem dX5_planRaise_17 : decode cX5_planRaise 17 = .ok (.lastore, 1) := op_80 kcX5_planRaise (Nat.le_of_ble_eq_true rfl) rfl
theorem dX5_planRaise_18 : decode cX5_planRaise 18 = .ok (.iconst 0, 1) := op_3 kcX5_planRaise (Nat.le_of_ble_eq_true rfl) rfl
theorem dX5_planRaise_19 : decode cX5_planRaise 19 = .ok (.istore_n 2, 1) := op_61 kcX5_planRaise (Nat.le_of_ble_eq_true rfl) rfl
theorem dX5_planRaise_20 : decode cX5_planRaise 20 = .ok (.iload_n 2, 1) := op_28 kcX5_planRaise (Nat.le_of_ble_eq_true rfl) rfl
theorem dX5_planRaise_21 : decode cX5_planRaise 21 = .ok (.bipush 10, 2) := op_16 (a := 10) kcX5_planRaise (Nat.le_of_ble_eq_true rfl) rfl rfl (by decide)
theorem dX5_planRaise_23 : decode cX5_planRaise 23 = .ok (.if_icmp .gt 48, 3) := op_163 (a := 0) (b := 48) kcX5_planRaise (Nat.le_of_ble_eq_true rfl) rfl rfl rfl (by decide)
theorem dX5_planRaise_26 : decode cX5_planRaise 26 = .ok (.iload_n 2, 1) := op_28 kcX5_planRaise (Nat.le_of_ble_eq_true rfl) rfl
theorem dX5_planRaise_27 : decode cX5_planRaise 27 = .ok (.ifCond .le 22, 3) := op_158 (a := 0) (b := 22) kcX5_planRaise (Nat.le_of_ble_eq_true rfl) rfl rfl rfl (by decide)
theorem dX5_planRaise_30 : decode cX5_planRaise 30 = .ok (.aload_n 0, 1) := op_42 kcX5_planRaise (Nat.le_of_ble_eq_true rfl) rfl
theorem dX5_planRaise_31 : decode cX5_planRaise 31 = .ok (.getfield 9, 3) := op_180 (a := 0) (b := 9) kcX5_planRaise (Nat.le_of_ble_eq_true rfl) rfl rfl rfl
theorem dX5_planRaise_34 : decode cX5_planRaise 34 = .ok (.iload_n 2, 1) := op_28 kcX5_planRaise (Nat.le_of_ble_eq_true rfl) rfl
theorem dX5_planRaise_35 : decode cX5_planRaise 35 = .ok (.aload_n 0, 1) := op_42 kcX5_planRaise (Nat.le_of_ble_eq_true rfl) rfl
theorem dX5_planRaise_36 : decode cX5_planRaise 36 = .ok (.aload_n 0, 1) := op_42 kcX5_planRaise (Nat.le_of_ble_eq_true rfl) rfl
theorem dX5_planRaise_37 : decode cX5_planRaise 37 = .ok (.getfield 9, 3) := op_180 (a := 0) (b := 9) kcX5_planRaise (Nat.le_of_ble_eq_true rfl) rfl rfl rfl
theorem dX5_planRaise_40 : decode cX5_planRaise 40 = .ok (.iload_n 2, 1) := op_28 kcX5_planRaise (Nat.le_of_ble_eq_true rfl) rfl
theorem dX5_planRaise_41 : decode cX5_planRaise 41 = .ok (.iconst 1, 1) := op_4 kcX5_planRaise (Nat.le_of_ble_eq_true rfl) rfl
theorem dX5_planRaise_42 : decode cX5_planRaise 42 = .ok (.isub, 1) := op_100 kcX5_planRaise (Nat.le_of_ble_eq_true rfl) rfl
theorem dX5_planRaise_43 : decode cX5_planRaise 43 = .ok (.laload, 1) := op_47 kcX5_planRaise (Nat.le_of_ble_eq_true rfl) rfl
theorem dX5_planRaise_44 : decode cX5_planRaise 44 = .ok (.iconst 0, 1) := op_3 kcX5_planRaise (Nat.le_of_ble_eq_true rfl) rfl
theorem dX5_planRaise_45 : decode cX5_planRaise 45 = .ok (.invokevirtual 32, 3) := op_182 (a := 0) (b := 32) kcX5_planRaise (Nat.le_of_ble_eq_true rfl) rfl rfl rfl
theorem dX5_planRaise_48 : decode cX5_planRaise 48 = .ok (.lastore, 1) := op_80 kcX5_planRaise (Nat.le_of_ble_eq_true rfl) rfl
theorem dX5_planRaise_49 : decode cX5_planRaise 49 = .ok (.aload_n 0, 1) := op_42 kcX5_planRaise (Nat.le_of_ble_eq_true rfl) rfl
theorem dX5_planRaise_50 : decode cX5_planRaise 50 = .ok (.iload_n 2, 1) := op_28 kcX5_planRaise (Nat.le_of_ble_eq_true rfl) rfl
theorem dX5_planRaise_51 : decode cX5_planRaise 51 = .ok (.invokevirtual 36, 3) := op_182 (a := 0) (b := 36) kcX5_planRaise (Nat.le_of_ble_eq_true rfl) rfl rfl rfl
theorem dX5_planRaise_54 : decode cX5_planRaise 54 = .ok (.ifCond .eq 11, 3) := op_153 (a := 0) (b := 11) kcX5_planRaise (Nat.le_of_ble_eq_true rfl) rfl rfl rfl (by decide)
theorem dX5_planRaise_57 : decode cX5_planRaise 57 = .ok (.aload_n 0, 1) := op_42 kcX5_planRaise (Nat.le_of_ble_eq_true rfl) rfl
theorem dX5_planRaise_58 : decode cX5_planRaise 58 = .ok (.iload_n 2, 1) := op_28 kcX5_planRaise (Nat.le_of_ble_eq_true rfl) rfl
theorem dX5_planRaise_59 : decode cX5_planRaise 59 = .ok (.iconst 0, 1) := op_3 kcX5_planRaise (Nat.le_of_ble_eq_true rfl) rfl
theorem dX5_planRaise_60 : decode cX5_planRaise 60 = .ok (.invokevirtual 40, 3) := op_182 (a := 0) (b := 40) kcX5_planRaise (Nat.le_of_ble_eq_true rfl) rfl rfl rfl
theorem dX5_planRaise_63 : decode cX5_planRaise 63 = .ok (.iload_n 2, 1) := op_28 kcX5_planRaise (Nat.le_of_ble_eq_true rfl) rfl
theorem dX5_planRaise_64 : decode cX5_planRaise 64 = .ok (.ireturn, 1) := op_172 kcX5_planRaise (Nat.le_of_ble_eq_true rfl) rfl
theorem dX5_planRaise_65 : decode cX5_planRaise 65 = .ok (.iinc 2 1, 3) := by decide +kernel
theorem dX5_planRaise_68 : decode cX5_planRaise 68 = .ok (.goto (-48), 3) := op_167 (a := 255) (b := 208) kcX5_planRaise (Nat.le_of_ble_eq_true rfl) rfl rfl rfl (by decide)
theorem dX5_planRaise_71 : decode cX5_planRaise 71 = .ok (.bipush (-4), 2) := op_16 (a := 252) kcX5_planRaise (Nat.le_of_ble_eq_true rfl) rfl rfl (by decide)
theorem dX5_planRaise_73 : decode cX5_planRaise 73 = .ok (.ireturn, 1) := op_172 kcX5_planRaise (Nat.le_of_ble_eq_true rfl) rfl
theorem kcX5_bitOf : (cX5_bitOf).data.toList = cbs 0xad79601b6807101a0a 9 := by decide +kernel
theorem dX5_bitOf_0 : decode cX5_bitOf 0 = .ok (.lconst 1, 1) := op_10 kcX5_bitOf (Nat.le_of_ble_eq_true rfl) rfl
theorem dX5_bitOf_1 : decode cX5_bitOf 1 = .ok (.iload_n 0, 1) := op_26 kcX5_bitOf (Nat.le_of_ble_eq_true rfl) rfl
theorem dX5_bitOf_2 : decode cX5_bitOf 2 = .ok (.bipush 7, 2) := op_16 (a := 7) kcX5_bitOf (Nat.le_of_ble_eq_true rfl) rfl rfl (by decide)
theorem dX5_bitOf_4 : decode cX5_bitOf 4 = .ok (.imul, 1) := op_104 kcX5_bitOf (Nat.le_of_ble_eq_true rfl) rfl
theorem dX5_bitOf_5 : decode cX5_bitOf 5 = .ok (.iload_n 1, 1) := op_27 kcX5_bitOf (Nat.le_of_ble_eq_true rfl) rfl
theorem dX5_bitOf_6 : decode cX5_bitOf 6 = .ok (.iadd, 1) := op_96 kcX5_bitOf (Nat.le_of_ble_eq_true rfl) rfl
theorem dX5_bitOf_7 : decode cX5_bitOf 7 = .ok (.lshl, 1) := op_121 kcX5_bitOf (Nat.le_of_ble_eq_true rfl) rfl
theorem dX5_bitOf_8 : decode cX5_bitOf 8 = .ok (.lreturn, 1) := op_173 kcX5_bitOf (Nat.le_of_ble_eq_true rfl) rfl
set_option maxRecDepth 20000 in
theorem gw_wsX5_bitOf : (wsX5_bitOf).all goodWord = true := by decide +kernel
set_option maxRecDepth 20000 in
theorem ggX5_pairsOfKing_X5_bitOf : GoodIn wsX5_pairsOfKing wsX5_bitOf := goodIn_r _ [7] rfl gw_wsX5_bitOf
set_option maxRecDepth 20000 in
theorem gX5_pairsOfKing_X5_bitOf : GoodIn wsX5_pairsOfKing (va_wsS RX5 58 yX5_bitOf wsX5_bitOf) := goodIn_app (goodIn_of _ (by decide +kernel)) ggX5_pairsOfKing_X5_bitOf
theorem kcX5_pairsOfKing : (cX5_pairsOfKing).data.toList = cbs 0xad20e5ffa701048441813a00b804151b201200a23400b43000b41300b42a04150436034109 37 := by decide +kernel
theorem dX5_pairsOfKing_0 : decode cX5_pairsOfKing 0 = .ok (.lconst 0, 1) := op_9 kcX5_pairsOfKing (Nat.le_of_ble_eq_true rfl) rfl
theorem dX5_pairsOfKing_1 : decode cX5_pairsOfKing 1 = .ok (.lstore_n 2, 1) := op_65 kcX5_pairsOfKing (Nat.le_of_ble_eq_true rfl) rfl
theorem dX5_pairsOfKing_2 : decode cX5_pairsOfKing 2 = .ok (.iconst 0, 1) := op_3 kcX5_pairsOfKing (Nat.le_of_ble_eq_true rfl) rfl
theorem dX5_pairsOfKing_3 : decode cX5_pairsOfKing 3 = .ok (.istore 4, 2) := op_54 (a := 4) kcX5_pairsOfKing (Nat.le_of_ble_eq_true rfl) rfl rfl
theorem dX5_pairsOfKing_5 : decode cX5_pairsOfKing 5 = .ok (.iload 4, 2) := op_21 (a := 4) kcX5_pairsOfKing (Nat.le_of_ble_eq_true rfl) rfl rfl
theorem dX5_pairsOfKing_7 : decode cX5_pairsOfKing 7 = .ok (.aload_n 0, 1) := op_42 kcX5_pairsOfKing (Nat.le_of_ble_eq_true rfl) rfl
theorem dX5_pairsOfKing_8 : decode cX5_pairsOfKing 8 = .ok (.getfield 19, 3) := op_180 (a := 0) (b := 19) kcX5_pairsOfKing (Nat.le_of_ble_eq_true rfl) rfl rfl rfl
theorem dX5_pairsOfKing_11 : decode cX5_pairsOfKing 11 = .ok (.getfield 48, 3) := op_180 (a := 0) (b := 48) kcX5_pairsOfKing (Nat.le_of_ble_eq_true rfl) rfl rfl rfl
theorem dX5_pairsOfKing_14 : decode cX5_pairsOfKing 14 = .ok (.getfield 52, 3) := op_180 (a := 0) (b := 52) kcX5_pairsOfKing (Nat.le_of_ble_eq_true rfl) rfl rfl rfl
theorem dX5_pairsOfKing_17 : decode cX5_pairsOfKing 17 = .ok (.if_icmp .ge 18, 3) := op_162 (a := 0) (b := 18) kcX5_pairsOfKing (Nat.le_of_ble_eq_true rfl) rfl rfl rfl (by decide)
theorem dX5_pairsOfKing_20 : decode cX5_pairsOfKing 20 = .ok (.lload_n 2, 1) := op_32 kcX5_pairsOfKing (Nat.le_of_ble_eq_true rfl) rfl
theorem dX5_pairsOfKing_21 : decode cX5_pairsOfKing 21 = .ok (.iload_n 1, 1) := op_27 kcX5_pairsOfKing (Nat.le_of_ble_eq_true rfl) rfl
theorem dX5_pairsOfKing_22 : decode cX5_pairsOfKing 22 = .ok (.iload 4, 2) := op_21 (a := 4) kcX5_pairsOfKing (Nat.le_of_ble_eq_true rfl) rfl rfl
theorem dX5_pairsOfKing_24 : decode cX5_pairsOfKing 24 = .ok (.invokestatic 58, 3) := op_184 (a := 0) (b := 58) kcX5_pairsOfKing (Nat.le_of_ble_eq_true rfl) rfl rfl rfl
theorem dX5_pairsOfKing_27 : decode cX5_pairsOfKing 27 = .ok (.lor, 1) := op_129 kcX5_pairsOfKing (Nat.le_of_ble_eq_true rfl) rfl
theorem dX5_pairsOfKing_28 : decode cX5_pairsOfKing 28 = .ok (.lstore_n 2, 1) := op_65 kcX5_pairsOfKing (Nat.le_of_ble_eq_true rfl) rfl
theorem dX5_pairsOfKing_29 : decode cX5_pairsOfKing 29 = .ok (.iinc 4 1, 3) := by decide +kernel
theorem dX5_pairsOfKing_32 : decode cX5_pairsOfKing 32 = .ok (.goto (-27), 3) := op_167 (a := 255) (b := 229) kcX5_pairsOfKing (Nat.le_of_ble_eq_true rfl) rfl rfl rfl (by decide)
theorem dX5_pairsOfKing_35 : decode cX5_pairsOfKing 35 = .ok (.lload_n 2, 1) := op_32 kcX5_pairsOfKing (Nat.le_of_ble_eq_true rfl) rfl
theorem dX5_pairsOfKing_36 : decode cX5_pairsOfKing 36 = .ok (.lreturn, 1) := op_173 kcX5_pairsOfKing (Nat.le_of_ble_eq_true rfl) rfl
set_option maxRecDepth 20000 in
theorem ggX5_allPairs_X5_pairsOfKing : GoodIn wsX5_allPairs wsX5_pairsOfKing := goodIn_r _ [8, 1, 2, 3, 9, 10, 7, 11, 12, 13, 14, 15, 16, 17, 18, 19, 20, 21, 22, 23, 24, 25, 26] rfl gw_wsX5_pairsOfKing
set_option maxRecDepth 20000 in
theorem gX5_allPairs_X5_pairsOfKing : GoodIn wsX5_allPairs (wsV RX5 44 RX5 yX5_pairsOfKing wsX5_pairsOfKing) := goodIn_app (goodIn_of _ (by decide +kernel)) ggX5_allPairs_X5_pairsOfKing
theorem kcX5_allPairs : (cX5_allPairs).data.toList = cbs 0xad1fe7ffa701038440812c00b61d2a1f1100a23400b43000b41300b42a1d3e034009 34 := by decide +kernel
theorem dX5_allPairs_0 : decode cX5_allPairs 0 = .ok (.lconst 0, 1) := op_9 kcX5_allPairs (Nat.le_of_ble_eq_true rfl) rfl
theorem dX5_allPairs_1 : decode cX5_allPairs 1 = .ok (.lstore_n 1, 1) := op_64 kcX5_allPairs (Nat.le_of_ble_eq_true rfl) rfl
theorem dX5_allPairs_2 : decode cX5_allPairs 2 = .ok (.iconst 0, 1) := op_3 kcX5_allPairs (Nat.le_of_ble_eq_true rfl) rfl
theorem dX5_allPairs_3 : decode cX5_allPairs 3 = .ok (.istore_n 3, 1) := op_62 kcX5_allPairs (Nat.le_of_ble_eq_true rfl) rfl
theorem dX5_allPairs_4 : decode cX5_allPairs 4 = .ok (.iload_n 3, 1) := op_29 kcX5_allPairs (Nat.le_of_ble_eq_true rfl) rfl
theorem dX5_allPairs_5 : decode cX5_allPairs 5 = .ok (.aload_n 0, 1) := op_42 kcX5_allPairs (Nat.le_of_ble_eq_true rfl) rfl
theorem dX5_allPairs_6 : decode cX5_allPairs 6 = .ok (.getfield 19, 3) := op_180 (a := 0) (b := 19) kcX5_allPairs (Nat.le_of_ble_eq_true rfl) rfl rfl rfl
theorem dX5_allPairs_9 : decode cX5_allPairs 9 = .ok (.getfield 48, 3) := op_180 (a := 0) (b := 48) kcX5_allPairs (Nat.le_of_ble_eq_true rfl) rfl rfl rfl
theorem dX5_allPairs_12 : decode cX5_allPairs 12 = .ok (.getfield 52, 3) := op_180 (a := 0) (b := 52) kcX5_allPairs (Nat.le_of_ble_eq_true rfl) rfl rfl rfl
theorem dX5_allPairs_15 : decode cX5_allPairs 15 = .ok (.if_icmp .ge 17, 3) := op_162 (a := 0) (b := 17) kcX5_allPairs (Nat.le_of_ble_eq_true rfl) rfl rfl rfl (by decide)
theorem dX5_allPairs_18 : decode cX5_allPairs 18 = .ok (.lload_n 1, 1) := op_31 kcX5_allPairs (Nat.le_of_ble_eq_true rfl) rfl
theorem dX5_allPairs_19 : decode cX5_allPairs 19 = .ok (.aload_n 0, 1) := op_42 kcX5_allPairs (Nat.le_of_ble_eq_true rfl) rfl
theorem dX5_allPairs_20 : decode cX5_allPairs 20 = .ok (.iload_n 3, 1) := op_29 kcX5_allPairs (Nat.le_of_ble_eq_true rfl) rfl
theorem dX5_allPairs_21 : decode cX5_allPairs 21 = .ok (.invokevirtual 44, 3) := op_182 (a := 0) (b := 44) kcX5_allPairs (Nat.le_of_ble_eq_true rfl) rfl rfl rfl
theorem dX5_allPairs_24 : decode cX5_allPairs 24 = .ok (.lor, 1) := op_129 kcX5_allPairs (Nat.le_of_ble_eq_true rfl) rfl
theorem dX5_allPairs_25 : decode cX5_allPairs 25 = .ok (.lstore_n 1, 1) := op_64 kcX5_allPairs (Nat.le_of_ble_eq_true rfl) rfl
theorem dX5_allPairs_26 : decode cX5_allPairs 26 = .ok (.iinc 3 1, 3) := by decide +kernel
theorem dX5_allPairs_29 : decode cX5_allPairs 29 = .ok (.goto (-25), 3) := op_167 (a := 255) (b := 231) kcX5_allPairs (Nat.le_of_ble_eq_true rfl) rfl rfl rfl (by decide)
theorem dX5_allPairs_32 : decode cX5_allPairs 32 = .ok (.lload_n 1, 1) := op_31 kcX5_allPairs (Nat.le_of_ble_eq_true rfl) rfl
theorem dX5_allPairs_33 : decode cX5_allPairs 33 = .ok (.lreturn, 1) := op_173 kcX5_allPairs (Nat.le_of_ble_eq_true rfl) rfl
set_option maxRecDepth 20000 in
theorem ggX5_isGoodNow_X5_bitOf : GoodIn wsX5_isGoodNow wsX5_bitOf := goodIn_r _ [9] rfl gw_wsX5_bitOf
set_option maxRecDepth 20000 in
theorem gX5_isGoodNow_X5_bitOf : GoodIn wsX5_isGoodNow (va_wsS RX5 58 yX5_bitOf wsX5_bitOf) := goodIn_app (goodIn_of _ (by decide +kernel)) ggX5_isGoodNow_X5_bitOf
theorem kcX5_isGoodNow : (cX5_isGoodNow).data.toList = cbs 0xac030400a70407009994097f3a00b84700b43e00b41300b42a4200b43e00b41300b42a2f1b0900b42a 41 := by decide +kernel
theorem dX5_isGoodNow_0 : decode cX5_isGoodNow 0 = .ok (.aload_n 0, 1) := op_42 kcX5_isGoodNow (Nat.le_of_ble_eq_true rfl) rfl
theorem dX5_isGoodNow_1 : decode cX5_isGoodNow 1 = .ok (.getfield 9, 3) := op_180 (a := 0) (b := 9) kcX5_isGoodNow (Nat.le_of_ble_eq_true rfl) rfl rfl rfl
theorem dX5_isGoodNow_4 : decode cX5_isGoodNow 4 = .ok (.iload_n 1, 1) := op_27 kcX5_isGoodNow (Nat.le_of_ble_eq_true rfl) rfl
theorem dX5_isGoodNow_5 : decode cX5_isGoodNow 5 = .ok (.laload, 1) := op_47 kcX5_isGoodNow (Nat.le_of_ble_eq_true rfl) rfl
theorem dX5_isGoodNow_6 : decode cX5_isGoodNow 6 = .ok (.aload_n 0, 1) := op_42 kcX5_isGoodNow (Nat.le_of_ble_eq_true rfl) rfl
theorem dX5_isGoodNow_7 : decode cX5_isGoodNow 7 = .ok (.getfield 19, 3) := op_180 (a := 0) (b := 19) kcX5_isGoodNow (Nat.le_of_ble_eq_true rfl) rfl rfl rfl
theorem dX5_isGoodNow_10 : decode cX5_isGoodNow 10 = .ok (.getfield 62, 3) := op_180 (a := 0) (b := 62) kcX5_isGoodNow (Nat.le_of_ble_eq_true rfl) rfl rfl rfl
theorem dX5_isGoodNow_13 : decode cX5_isGoodNow 13 = .ok (.getfield 66, 3) := op_180 (a := 0) (b := 66) kcX5_isGoodNow (Nat.le_of_ble_eq_true rfl) rfl rfl rfl
theorem dX5_isGoodNow_16 : decode cX5_isGoodNow 16 = .ok (.aload_n 0, 1) := op_42 kcX5_isGoodNow (Nat.le_of_ble_eq_true rfl) rfl
theorem dX5_isGoodNow_17 : decode cX5_isGoodNow 17 = .ok (.getfield 19, 3) := op_180 (a := 0) (b := 19) kcX5_isGoodNow (Nat.le_of_ble_eq_true rfl) rfl rfl rfl
theorem dX5_isGoodNow_20 : decode cX5_isGoodNow 20 = .ok (.getfield 62, 3) := op_180 (a := 0) (b := 62) kcX5_isGoodNow (Nat.le_of_ble_eq_true rfl) rfl rfl rfl
theorem dX5_isGoodNow_23 : decode cX5_isGoodNow 23 = .ok (.getfield 71, 3) := op_180 (a := 0) (b := 71) kcX5_isGoodNow (Nat.le_of_ble_eq_true rfl) rfl rfl rfl
theorem dX5_isGoodNow_26 : decode cX5_isGoodNow 26 = .ok (.invokestatic 58, 3) := op_184 (a := 0) (b := 58) kcX5_isGoodNow (Nat.le_of_ble_eq_true rfl) rfl rfl rfl
theorem dX5_isGoodNow_29 : decode cX5_isGoodNow 29 = .ok (.land, 1) := op_127 kcX5_isGoodNow (Nat.le_of_ble_eq_true rfl) rfl
theorem dX5_isGoodNow_30 : decode cX5_isGoodNow 30 = .ok (.lconst 0, 1) := op_9 kcX5_isGoodNow (Nat.le_of_ble_eq_true rfl) rfl
theorem dX5_isGoodNow_31 : decode cX5_isGoodNow 31 = .ok (.lcmp, 1) := op_148 kcX5_isGoodNow (Nat.le_of_ble_eq_true rfl) rfl
theorem dX5_isGoodNow_32 : decode cX5_isGoodNow 32 = .ok (.ifCond .eq 7, 3) := op_153 (a := 0) (b := 7) kcX5_isGoodNow (Nat.le_of_ble_eq_true rfl) rfl rfl rfl (by decide)
theorem dX5_isGoodNow_35 : decode cX5_isGoodNow 35 = .ok (.iconst 1, 1) := op_4 kcX5_isGoodNow (Nat.le_of_ble_eq_true rfl) rfl
theorem dX5_isGoodNow_36 : decode cX5_isGoodNow 36 = .ok (.goto 4, 3) := op_167 (a := 0) (b := 4) kcX5_isGoodNow (Nat.le_of_ble_eq_true rfl) rfl rfl rfl (by decide)
theorem dX5_isGoodNow_39 : decode cX5_isGoodNow 39 = .ok (.iconst 0, 1) := op_3 kcX5_isGoodNow (Nat.le_of_ble_eq_true rfl) rfl
theorem dX5_isGoodNow_40 : decode cX5_isGoodNow 40 = .ok (.ireturn, 1) := op_172 kcX5_isGoodNow (Nat.le_of_ble_eq_true rfl) rfl
set_option maxRecDepth 20000 in
theorem gw_wsX5_firstStirInto : (wsX5_firstStirInto).all goodWord = true := by decide +kernel
set_option maxRecDepth 20000 in
theorem ggX5_pairsBefore_X5_firstStirInto : GoodIn wsX5_pairsBefore wsX5_firstStirInto := goodIn_r _ [8, 1, 2, 9, 10, 11, 12, 13, 14, 15, 16, 17, 18, 19, 20, 21, 22, 23, 7, 24, 25, 26, 27, 28, 29, 30, 31, 32, 33, 34, 35, 36, 37, 38, 39] rfl gw_wsX5_firstStirInto
set_option maxRecDepth 20000 in
theorem gX5_pairsBefore_X5_firstStirInto : GoodIn wsX5_pairsBefore (wsV RX5 74 RX5 yX5_firstStirInto wsX5_firstStirInto) := goodIn_app (goodIn_of _ (by decide +kernel)) ggX5_pairsBefore_X5_firstStirInto
set_option maxRecDepth 20000 in
theorem ggX5_pairsBefore_X5_bitOf : GoodIn wsX5_pairsBefore wsX5_bitOf := goodIn_r _ [24] rfl gw_wsX5_bitOf
set_option maxRecDepth 20000 in
theorem gX5_pairsBefore_X5_bitOf : GoodIn wsX5_pairsBefore (va_wsS RX5 58 yX5_bitOf wsX5_bitOf) := goodIn_app (goodIn_of _ (by decide +kernel)) ggX5_pairsBefore_X5_bitOf
theorem kcX5_pairsBefore : (cX5_pairsBefore).data.toList = cbs 0xad0416bbffa7010684d3ffa70107840437813a00b80715061504160f009ffc104a00b61d071506151f2a2400a23400b43000b41300b42a07150736033c00a23400b43000b41300b42a0615063603043709 81 := by decide +kernel
theorem dX5_pairsBefore_0 : decode cX5_pairsBefore 0 = .ok (.lconst 0, 1) := op_9 kcX5_pairsBefore (Nat.le_of_ble_eq_true rfl) rfl
theorem dX5_pairsBefore_1 : decode cX5_pairsBefore 1 = .ok (.lstore 4, 2) := op_55 (a := 4) kcX5_pairsBefore (Nat.le_of_ble_eq_true rfl) rfl rfl
theorem dX5_pairsBefore_3 : decode cX5_pairsBefore 3 = .ok (.iconst 0, 1) := op_3 kcX5_pairsBefore (Nat.le_of_ble_eq_true rfl) rfl
theorem dX5_pairsBefore_4 : decode cX5_pairsBefore 4 = .ok (.istore 6, 2) := op_54 (a := 6) kcX5_pairsBefore (Nat.le_of_ble_eq_true rfl) rfl rfl
theorem dX5_pairsBefore_6 : decode cX5_pairsBefore 6 = .ok (.iload 6, 2) := op_21 (a := 6) kcX5_pairsBefore (Nat.le_of_ble_eq_true rfl) rfl rfl
theorem dX5_pairsBefore_8 : decode cX5_pairsBefore 8 = .ok (.aload_n 0, 1) := op_42 kcX5_pairsBefore (Nat.le_of_ble_eq_true rfl) rfl
theorem dX5_pairsBefore_9 : decode cX5_pairsBefore 9 = .ok (.getfield 19, 3) := op_180 (a := 0) (b := 19) kcX5_pairsBefore (Nat.le_of_ble_eq_true rfl) rfl rfl rfl
theorem dX5_pairsBefore_12 : decode cX5_pairsBefore 12 = .ok (.getfield 48, 3) := op_180 (a := 0) (b := 48) kcX5_pairsBefore (Nat.le_of_ble_eq_true rfl) rfl rfl rfl
theorem dX5_pairsBefore_15 : decode cX5_pairsBefore 15 = .ok (.getfield 52, 3) := op_180 (a := 0) (b := 52) kcX5_pairsBefore (Nat.le_of_ble_eq_true rfl) rfl rfl rfl
theorem dX5_pairsBefore_18 : decode cX5_pairsBefore 18 = .ok (.if_icmp .ge 60, 3) := op_162 (a := 0) (b := 60) kcX5_pairsBefore (Nat.le_of_ble_eq_true rfl) rfl rfl rfl (by decide)
theorem dX5_pairsBefore_21 : decode cX5_pairsBefore 21 = .ok (.iconst 0, 1) := op_3 kcX5_pairsBefore (Nat.le_of_ble_eq_true rfl) rfl
theorem dX5_pairsBefore_22 : decode cX5_pairsBefore 22 = .ok (.istore 7, 2) := op_54 (a := 7) kcX5_pairsBefore (Nat.le_of_ble_eq_true rfl) rfl rfl
theorem dX5_pairsBefore_24 : decode cX5_pairsBefore 24 = .ok (.iload 7, 2) := op_21 (a := 7) kcX5_pairsBefore (Nat.le_of_ble_eq_true rfl) rfl rfl
theorem dX5_pairsBefore_26 : decode cX5_pairsBefore 26 = .ok (.aload_n 0, 1) := op_42 kcX5_pairsBefore (Nat.le_of_ble_eq_true rfl) rfl
theorem dX5_pairsBefore_27 : decode cX5_pairsBefore 27 = .ok (.getfield 19, 3) := op_180 (a := 0) (b := 19) kcX5_pairsBefore (Nat.le_of_ble_eq_true rfl) rfl rfl rfl
theorem dX5_pairsBefore_30 : decode cX5_pairsBefore 30 = .ok (.getfield 48, 3) := op_180 (a := 0) (b := 48) kcX5_pairsBefore (Nat.le_of_ble_eq_true rfl) rfl rfl rfl
theorem dX5_pairsBefore_33 : decode cX5_pairsBefore 33 = .ok (.getfield 52, 3) := op_180 (a := 0) (b := 52) kcX5_pairsBefore (Nat.le_of_ble_eq_true rfl) rfl rfl rfl
theorem dX5_pairsBefore_36 : decode cX5_pairsBefore 36 = .ok (.if_icmp .ge 36, 3) := op_162 (a := 0) (b := 36) kcX5_pairsBefore (Nat.le_of_ble_eq_true rfl) rfl rfl rfl (by decide)
theorem dX5_pairsBefore_39 : decode cX5_pairsBefore 39 = .ok (.aload_n 0, 1) := op_42 kcX5_pairsBefore (Nat.le_of_ble_eq_true rfl) rfl
theorem dX5_pairsBefore_40 : decode cX5_pairsBefore 40 = .ok (.lload_n 1, 1) := op_31 kcX5_pairsBefore (Nat.le_of_ble_eq_true rfl) rfl
theorem dX5_pairsBefore_41 : decode cX5_pairsBefore 41 = .ok (.iload 6, 2) := op_21 (a := 6) kcX5_pairsBefore (Nat.le_of_ble_eq_true rfl) rfl rfl
theorem dX5_pairsBefore_43 : decode cX5_pairsBefore 43 = .ok (.iload 7, 2) := op_21 (a := 7) kcX5_pairsBefore (Nat.le_of_ble_eq_true rfl) rfl rfl
theorem dX5_pairsBefore_45 : decode cX5_pairsBefore 45 = .ok (.iload_n 3, 1) := op_29 kcX5_pairsBefore (Nat.le_of_ble_eq_true rfl) rfl
theorem dX5_pairsBefore_46 : decode cX5_pairsBefore 46 = .ok (.invokevirtual 74, 3) := op_182 (a := 0) (b := 74) kcX5_pairsBefore (Nat.le_of_ble_eq_true rfl) rfl rfl rfl
theorem dX5_pairsBefore_49 : decode cX5_pairsBefore 49 = .ok (.bipush (-4), 2) := op_16 (a := 252) kcX5_pairsBefore (Nat.le_of_ble_eq_true rfl) rfl rfl (by decide)
theorem dX5_pairsBefore_51 : decode cX5_pairsBefore 51 = .ok (.if_icmp .eq 15, 3) := op_159 (a := 0) (b := 15) kcX5_pairsBefore (Nat.le_of_ble_eq_true rfl) rfl rfl rfl (by decide)
theorem dX5_pairsBefore_54 : decode cX5_pairsBefore 54 = .ok (.lload 4, 2) := op_22 (a := 4) kcX5_pairsBefore (Nat.le_of_ble_eq_true rfl) rfl rfl
theorem dX5_pairsBefore_56 : decode cX5_pairsBefore 56 = .ok (.iload 6, 2) := op_21 (a := 6) kcX5_pairsBefore (Nat.le_of_ble_eq_true rfl) rfl rfl
theorem dX5_pairsBefore_58 : decode cX5_pairsBefore 58 = .ok (.iload 7, 2) := op_21 (a := 7) kcX5_pairsBefore (Nat.le_of_ble_eq_true rfl) rfl rfl
theorem dX5_pairsBefore_60 : decode cX5_pairsBefore 60 = .ok (.invokestatic 58, 3) := op_184 (a := 0) (b := 58) kcX5_pairsBefore (Nat.le_of_ble_eq_true rfl) rfl rfl rfl
theorem dX5_pairsBefore_63 : decode cX5_pairsBefore 63 = .ok (.lor, 1) := op_129 kcX5_pairsBefore (Nat.le_of_ble_eq_true rfl) rfl
theorem dX5_pairsBefore_64 : decode cX5_pairsBefore 64 = .ok (.lstore 4, 2) := op_55 (a := 4) kcX5_pairsBefore (Nat.le_of_ble_eq_true rfl) rfl rfl
theorem dX5_pairsBefore_66 : decode cX5_pairsBefore 66 = .ok (.iinc 7 1, 3) := by decide +kernel
theorem dX5_pairsBefore_69 : decode cX5_pairsBefore 69 = .ok (.goto (-45), 3) := op_167 (a := 255) (b := 211) kcX5_pairsBefore (Nat.le_of_ble_eq_true rfl) rfl rfl rfl (by decide)
theorem dX5_pairsBefore_72 : decode cX5_pairsBefore 72 = .ok (.iinc 6 1, 3) := by decide +kernel
theorem dX5_pairsBefore_75 : decode cX5_pairsBefore 75 = .ok (.goto (-69), 3) := op_167 (a := 255) (b := 187) kcX5_pairsBefore (Nat.le_of_ble_eq_true rfl) rfl rfl rfl (by decide)
theorem dX5_pairsBefore_78 : decode cX5_pairsBefore 78 = .ok (.lload 4, 2) := op_22 (a := 4) kcX5_pairsBefore (Nat.le_of_ble_eq_true rfl) rfl rfl
theorem dX5_pairsBefore_80 : decode cX5_pairsBefore 80 = .ok (.lreturn, 1) := op_173 kcX5_pairsBefore (Nat.le_of_ble_eq_true rfl) rfl
set_option maxRecDepth 20000 in
theorem ggX5_firstStirInto_X6_placeAfter : GoodIn wsX5_firstStirInto wsX6_placeAfter := goodIn_r _ [8, 9, 28, 29, 30, 31, 32, 33, 34] rfl gw_wsX6_placeAfter
set_option maxRecDepth 20000 in
theorem gX5_firstStirInto_X6_placeAfter : GoodIn wsX5_firstStirInto (wsV RX5 81 RX6 yX6_placeAfter wsX6_placeAfter) := goodIn_app (goodIn_of _ (by decide +kernel)) ggX5_firstStirInto_X6_placeAfter
set_option maxRecDepth 20000 in
theorem ggX5_firstStirInto_X2_holderOf : GoodIn wsX5_firstStirInto wsX2_holderOf := goodIn_r _ [14, 15, 23, 24, 25, 26, 27] rfl gw_wsX2_holderOf
set_option maxRecDepth 20000 in
theorem gX5_firstStirInto_X2_holderOf : GoodIn wsX5_firstStirInto (wsV RX5 85 RX2 yX2_holderOf wsX2_holderOf) := goodIn_app (goodIn_of _ (by decide +kernel)) ggX5_firstStirInto_X2_holderOf
set_option maxRecDepth 20000 in
theorem ggX5_firstStirInto_X5_bitOf : GoodIn wsX5_firstStirInto wsX5_bitOf := goodIn_r _ [19] rfl gw_wsX5_bitOf
set_option maxRecDepth 20000 in
theorem gX5_firstStirInto_X5_bitOf : GoodIn wsX5_firstStirInto (va_wsS RX5 58 yX5_bitOf wsX5_bitOf) := goodIn_app (goodIn_of _ (by decide +kernel)) ggX5_firstStirInto_X5_bitOf
theorem kcX5_firstStirInto : (cX5_firstStirInto).data.toList = cbs 0xacfc10b6ffa7010684ac061506009994097f3a00b8071508151f14009a051508009f1d081508365500b607151d1300b42a07365100b6041506153000b41300b42a4100a24e00b43000b41300b42a0615063603 83 := by decide +kernel
theorem dX5_firstStirInto_0 : decode cX5_firstStirInto 0 = .ok (.iconst 0, 1) := op_3 kcX5_firstStirInto (Nat.le_of_ble_eq_true rfl) rfl
theorem dX5_firstStirInto_1 : decode cX5_firstStirInto 1 = .ok (.istore 6, 2) := op_54 (a := 6) kcX5_firstStirInto (Nat.le_of_ble_eq_true rfl) rfl rfl
theorem dX5_firstStirInto_3 : decode cX5_firstStirInto 3 = .ok (.iload 6, 2) := op_21 (a := 6) kcX5_firstStirInto (Nat.le_of_ble_eq_true rfl) rfl rfl
theorem dX5_firstStirInto_5 : decode cX5_firstStirInto 5 = .ok (.aload_n 0, 1) := op_42 kcX5_firstStirInto (Nat.le_of_ble_eq_true rfl) rfl
theorem dX5_firstStirInto_6 : decode cX5_firstStirInto 6 = .ok (.getfield 19, 3) := op_180 (a := 0) (b := 19) kcX5_firstStirInto (Nat.le_of_ble_eq_true rfl) rfl rfl rfl
theorem dX5_firstStirInto_9 : decode cX5_firstStirInto 9 = .ok (.getfield 48, 3) := op_180 (a := 0) (b := 48) kcX5_firstStirInto (Nat.le_of_ble_eq_true rfl) rfl rfl rfl
theorem dX5_firstStirInto_12 : decode cX5_firstStirInto 12 = .ok (.getfield 78, 3) := op_180 (a := 0) (b := 78) kcX5_firstStirInto (Nat.le_of_ble_eq_true rfl) rfl rfl rfl
theorem dX5_firstStirInto_15 : decode cX5_firstStirInto 15 = .ok (.if_icmp .ge 65, 3) := op_162 (a := 0) (b := 65) kcX5_firstStirInto (Nat.le_of_ble_eq_true rfl) rfl rfl rfl (by decide)
theorem dX5_firstStirInto_18 : decode cX5_firstStirInto 18 = .ok (.aload_n 0, 1) := op_42 kcX5_firstStirInto (Nat.le_of_ble_eq_true rfl) rfl
theorem dX5_firstStirInto_19 : decode cX5_firstStirInto 19 = .ok (.getfield 19, 3) := op_180 (a := 0) (b := 19) kcX5_firstStirInto (Nat.le_of_ble_eq_true rfl) rfl rfl rfl
theorem dX5_firstStirInto_22 : decode cX5_firstStirInto 22 = .ok (.getfield 48, 3) := op_180 (a := 0) (b := 48) kcX5_firstStirInto (Nat.le_of_ble_eq_true rfl) rfl rfl rfl
theorem dX5_firstStirInto_25 : decode cX5_firstStirInto 25 = .ok (.iload 6, 2) := op_21 (a := 6) kcX5_firstStirInto (Nat.le_of_ble_eq_true rfl) rfl rfl
theorem dX5_firstStirInto_27 : decode cX5_firstStirInto 27 = .ok (.iload 4, 2) := op_21 (a := 4) kcX5_firstStirInto (Nat.le_of_ble_eq_true rfl) rfl rfl
theorem dX5_firstStirInto_29 : decode cX5_firstStirInto 29 = .ok (.invokevirtual 81, 3) := op_182 (a := 0) (b := 81) kcX5_firstStirInto (Nat.le_of_ble_eq_true rfl) rfl rfl rfl
theorem dX5_firstStirInto_32 : decode cX5_firstStirInto 32 = .ok (.istore 7, 2) := op_54 (a := 7) kcX5_firstStirInto (Nat.le_of_ble_eq_true rfl) rfl rfl
theorem dX5_firstStirInto_34 : decode cX5_firstStirInto 34 = .ok (.aload_n 0, 1) := op_42 kcX5_firstStirInto (Nat.le_of_ble_eq_true rfl) rfl
theorem dX5_firstStirInto_35 : decode cX5_firstStirInto 35 = .ok (.getfield 19, 3) := op_180 (a := 0) (b := 19) kcX5_firstStirInto (Nat.le_of_ble_eq_true rfl) rfl rfl rfl
theorem dX5_firstStirInto_38 : decode cX5_firstStirInto 38 = .ok (.iload_n 3, 1) := op_29 kcX5_firstStirInto (Nat.le_of_ble_eq_true rfl) rfl
theorem dX5_firstStirInto_39 : decode cX5_firstStirInto 39 = .ok (.iload 7, 2) := op_21 (a := 7) kcX5_firstStirInto (Nat.le_of_ble_eq_true rfl) rfl rfl
theorem dX5_firstStirInto_41 : decode cX5_firstStirInto 41 = .ok (.invokevirtual 85, 3) := op_182 (a := 0) (b := 85) kcX5_firstStirInto (Nat.le_of_ble_eq_true rfl) rfl rfl rfl
theorem dX5_firstStirInto_44 : decode cX5_firstStirInto 44 = .ok (.istore 8, 2) := op_54 (a := 8) kcX5_firstStirInto (Nat.le_of_ble_eq_true rfl) rfl rfl
theorem dX5_firstStirInto_46 : decode cX5_firstStirInto 46 = .ok (.iload 8, 2) := op_21 (a := 8) kcX5_firstStirInto (Nat.le_of_ble_eq_true rfl) rfl rfl
theorem dX5_firstStirInto_48 : decode cX5_firstStirInto 48 = .ok (.iload_n 3, 1) := op_29 kcX5_firstStirInto (Nat.le_of_ble_eq_true rfl) rfl
theorem dX5_firstStirInto_49 : decode cX5_firstStirInto 49 = .ok (.if_icmp .eq 8, 3) := op_159 (a := 0) (b := 8) kcX5_firstStirInto (Nat.le_of_ble_eq_true rfl) rfl rfl rfl (by decide)
theorem dX5_firstStirInto_52 : decode cX5_firstStirInto 52 = .ok (.iload 5, 2) := op_21 (a := 5) kcX5_firstStirInto (Nat.le_of_ble_eq_true rfl) rfl rfl
theorem dX5_firstStirInto_54 : decode cX5_firstStirInto 54 = .ok (.ifCond .ne 20, 3) := op_154 (a := 0) (b := 20) kcX5_firstStirInto (Nat.le_of_ble_eq_true rfl) rfl rfl rfl (by decide)
theorem dX5_firstStirInto_57 : decode cX5_firstStirInto 57 = .ok (.lload_n 1, 1) := op_31 kcX5_firstStirInto (Nat.le_of_ble_eq_true rfl) rfl
theorem dX5_firstStirInto_58 : decode cX5_firstStirInto 58 = .ok (.iload 8, 2) := op_21 (a := 8) kcX5_firstStirInto (Nat.le_of_ble_eq_true rfl) rfl rfl
theorem dX5_firstStirInto_60 : decode cX5_firstStirInto 60 = .ok (.iload 7, 2) := op_21 (a := 7) kcX5_firstStirInto (Nat.le_of_ble_eq_true rfl) rfl rfl
theorem dX5_firstStirInto_62 : decode cX5_firstStirInto 62 = .ok (.invokestatic 58, 3) := op_184 (a := 0) (b := 58) kcX5_firstStirInto (Nat.le_of_ble_eq_true rfl) rfl rfl rfl
theorem dX5_firstStirInto_65 : decode cX5_firstStirInto 65 = .ok (.land, 1) := op_127 kcX5_firstStirInto (Nat.le_of_ble_eq_true rfl) rfl
theorem dX5_firstStirInto_66 : decode cX5_firstStirInto 66 = .ok (.lconst 0, 1) := op_9 kcX5_firstStirInto (Nat.le_of_ble_eq_true rfl) rfl
theorem dX5_firstStirInto_67 : decode cX5_firstStirInto 67 = .ok (.lcmp, 1) := op_148 kcX5_firstStirInto (Nat.le_of_ble_eq_true rfl) rfl
theorem dX5_firstStirInto_68 : decode cX5_firstStirInto 68 = .ok (.ifCond .eq 6, 3) := op_153 (a := 0) (b := 6) kcX5_firstStirInto (Nat.le_of_ble_eq_true rfl) rfl rfl rfl (by decide)
theorem dX5_firstStirInto_71 : decode cX5_firstStirInto 71 = .ok (.iload 6, 2) := op_21 (a := 6) kcX5_firstStirInto (Nat.le_of_ble_eq_true rfl) rfl rfl
theorem dX5_firstStirInto_73 : decode cX5_firstStirInto 73 = .ok (.ireturn, 1) := op_172 kcX5_firstStirInto (Nat.le_of_ble_eq_true rfl) rfl
theorem dX5_firstStirInto_74 : decode cX5_firstStirInto 74 = .ok (.iinc 6 1, 3) := by decide +kernel
theorem dX5_firstStirInto_77 : decode cX5_firstStirInto 77 = .ok (.goto (-74), 3) := op_167 (a := 255) (b := 182) kcX5_firstStirInto (Nat.le_of_ble_eq_true rfl) rfl rfl rfl (by decide)
theorem dX5_firstStirInto_80 : decode cX5_firstStirInto 80 = .ok (.bipush (-4), 2) := op_16 (a := 252) kcX5_firstStirInto (Nat.le_of_ble_eq_true rfl) rfl rfl (by decide)
theorem dX5_firstStirInto_82 : decode cX5_firstStirInto 82 = .ok (.ireturn, 1) := op_172 kcX5_firstStirInto (Nat.le_of_ble_eq_true rfl) rfl
set_option maxRecDepth 20000 in
theorem ggX5_tellRow_X5_firstStirInto : GoodIn wsX5_tellRow wsX5_firstStirInto := goodIn_r _ [12, 1, 6, 13, 14, 15, 16, 17, 18, 19, 20, 21, 22, 23, 24, 25, 26, 27, 11, 28, 34, 35, 36, 37, 38, 39, 40, 41, 51, 52, 53, 54, 55, 56, 57] rfl gw_wsX5_firstStirInto
set_option maxRecDepth 20000 in
theorem gX5_tellRow_X5_firstStirInto : GoodIn wsX5_tellRow (wsV RX5 74 RX5 yX5_firstStirInto wsX5_firstStirInto) := goodIn_app (goodIn_of _ (by decide +kernel)) ggX5_tellRow_X5_firstStirInto
set_option maxRecDepth 20000 in
theorem gw_wsX6_hasStir : (wsX6_hasStir).all goodWord = true := by decide +kernel
set_option maxRecDepth 20000 in
theorem ggX5_tellRow_X6_hasStir : GoodIn wsX5_tellRow wsX6_hasStir := goodIn_r _ [32, 33, 51, 52, 53, 54, 55, 56, 57] rfl gw_wsX6_hasStir
set_option maxRecDepth 20000 in
theorem gX5_tellRow_X6_hasStir : GoodIn wsX5_tellRow (wsV RX5 88 RX6 yX6_hasStir wsX6_hasStir) := goodIn_app (goodIn_of _ (by decide +kernel)) ggX5_tellRow_X6_hasStir
set_option maxRecDepth 20000 in
theorem ggX5_tellRow_X6_placeAfter : GoodIn wsX5_tellRow wsX6_placeAfter := goodIn_r _ [18, 19, 51, 52, 53, 54, 55, 56, 57] rfl gw_wsX6_placeAfter
set_option maxRecDepth 20000 in
theorem gX5_tellRow_X6_placeAfter : GoodIn wsX5_tellRow (wsV RX5 81 RX6 yX6_placeAfter wsX6_placeAfter) := goodIn_app (goodIn_of _ (by decide +kernel)) ggX5_tellRow_X6_placeAfter
set_option maxRecDepth 20000 in
theorem ggX5_tellRow_X2_holderOf : GoodIn wsX5_tellRow wsX2_holderOf := goodIn_r _ [24, 25, 37, 38, 39, 40, 41] rfl gw_wsX2_holderOf
set_option maxRecDepth 20000 in
theorem gX5_tellRow_X2_holderOf : GoodIn wsX5_tellRow (wsV RX5 85 RX2 yX2_holderOf wsX2_holderOf) := goodIn_app (goodIn_of _ (by decide +kernel)) ggX5_tellRow_X2_holderOf
theorem kcX5_tellRow : (cX5_tellRow).data.toList = cbs 0xb1aeffa70105843e5500b604151d1300b42a04365100b6041506153000b41300b42a4f061505150f00b42ab104009a5800b606153000b41300b42a06364a00b61c04151d2f64051564041b0900b42a2a5200a21b051505360304364700b43e00b41300b42a3e4200b43e00b41300b42a 112 := by decide +kernel
theorem dX5_tellRow_0 : decode cX5_tellRow 0 = .ok (.aload_n 0, 1) := op_42 kcX5_tellRow (Nat.le_of_ble_eq_true rfl) rfl
theorem dX5_tellRow_1 : decode cX5_tellRow 1 = .ok (.getfield 19, 3) := op_180 (a := 0) (b := 19) kcX5_tellRow (Nat.le_of_ble_eq_true rfl) rfl rfl rfl
theorem dX5_tellRow_4 : decode cX5_tellRow 4 = .ok (.getfield 62, 3) := op_180 (a := 0) (b := 62) kcX5_tellRow (Nat.le_of_ble_eq_true rfl) rfl rfl rfl
theorem dX5_tellRow_7 : decode cX5_tellRow 7 = .ok (.getfield 66, 3) := op_180 (a := 0) (b := 66) kcX5_tellRow (Nat.le_of_ble_eq_true rfl) rfl rfl rfl
theorem dX5_tellRow_10 : decode cX5_tellRow 10 = .ok (.istore_n 3, 1) := op_62 kcX5_tellRow (Nat.le_of_ble_eq_true rfl) rfl
theorem dX5_tellRow_11 : decode cX5_tellRow 11 = .ok (.aload_n 0, 1) := op_42 kcX5_tellRow (Nat.le_of_ble_eq_true rfl) rfl
theorem dX5_tellRow_12 : decode cX5_tellRow 12 = .ok (.getfield 19, 3) := op_180 (a := 0) (b := 19) kcX5_tellRow (Nat.le_of_ble_eq_true rfl) rfl rfl rfl
theorem dX5_tellRow_15 : decode cX5_tellRow 15 = .ok (.getfield 62, 3) := op_180 (a := 0) (b := 62) kcX5_tellRow (Nat.le_of_ble_eq_true rfl) rfl rfl rfl
theorem dX5_tellRow_18 : decode cX5_tellRow 18 = .ok (.getfield 71, 3) := op_180 (a := 0) (b := 71) kcX5_tellRow (Nat.le_of_ble_eq_true rfl) rfl rfl rfl
theorem dX5_tellRow_21 : decode cX5_tellRow 21 = .ok (.istore 4, 2) := op_54 (a := 4) kcX5_tellRow (Nat.le_of_ble_eq_true rfl) rfl rfl
theorem dX5_tellRow_23 : decode cX5_tellRow 23 = .ok (.iconst 0, 1) := op_3 kcX5_tellRow (Nat.le_of_ble_eq_true rfl) rfl
theorem dX5_tellRow_24 : decode cX5_tellRow 24 = .ok (.istore 5, 2) := op_54 (a := 5) kcX5_tellRow (Nat.le_of_ble_eq_true rfl) rfl rfl
theorem dX5_tellRow_26 : decode cX5_tellRow 26 = .ok (.iload 5, 2) := op_21 (a := 5) kcX5_tellRow (Nat.le_of_ble_eq_true rfl) rfl rfl
theorem dX5_tellRow_28 : decode cX5_tellRow 28 = .ok (.iload_n 1, 1) := op_27 kcX5_tellRow (Nat.le_of_ble_eq_true rfl) rfl
theorem dX5_tellRow_29 : decode cX5_tellRow 29 = .ok (.if_icmp .ge 82, 3) := op_162 (a := 0) (b := 82) kcX5_tellRow (Nat.le_of_ble_eq_true rfl) rfl rfl rfl (by decide)
theorem dX5_tellRow_32 : decode cX5_tellRow 32 = .ok (.aload_n 0, 1) := op_42 kcX5_tellRow (Nat.le_of_ble_eq_true rfl) rfl
theorem dX5_tellRow_33 : decode cX5_tellRow 33 = .ok (.aload_n 0, 1) := op_42 kcX5_tellRow (Nat.le_of_ble_eq_true rfl) rfl
theorem dX5_tellRow_34 : decode cX5_tellRow 34 = .ok (.getfield 9, 3) := op_180 (a := 0) (b := 9) kcX5_tellRow (Nat.le_of_ble_eq_true rfl) rfl rfl rfl
theorem dX5_tellRow_37 : decode cX5_tellRow 37 = .ok (.iload_n 1, 1) := op_27 kcX5_tellRow (Nat.le_of_ble_eq_true rfl) rfl
theorem dX5_tellRow_38 : decode cX5_tellRow 38 = .ok (.iconst 1, 1) := op_4 kcX5_tellRow (Nat.le_of_ble_eq_true rfl) rfl
theorem dX5_tellRow_39 : decode cX5_tellRow 39 = .ok (.isub, 1) := op_100 kcX5_tellRow (Nat.le_of_ble_eq_true rfl) rfl
theorem dX5_tellRow_40 : decode cX5_tellRow 40 = .ok (.iload 5, 2) := op_21 (a := 5) kcX5_tellRow (Nat.le_of_ble_eq_true rfl) rfl rfl
theorem dX5_tellRow_42 : decode cX5_tellRow 42 = .ok (.isub, 1) := op_100 kcX5_tellRow (Nat.le_of_ble_eq_true rfl) rfl
theorem dX5_tellRow_43 : decode cX5_tellRow 43 = .ok (.laload, 1) := op_47 kcX5_tellRow (Nat.le_of_ble_eq_true rfl) rfl
theorem dX5_tellRow_44 : decode cX5_tellRow 44 = .ok (.iload_n 3, 1) := op_29 kcX5_tellRow (Nat.le_of_ble_eq_true rfl) rfl
theorem dX5_tellRow_45 : decode cX5_tellRow 45 = .ok (.iload 4, 2) := op_21 (a := 4) kcX5_tellRow (Nat.le_of_ble_eq_true rfl) rfl rfl
theorem dX5_tellRow_47 : decode cX5_tellRow 47 = .ok (.iload_n 2, 1) := op_28 kcX5_tellRow (Nat.le_of_ble_eq_true rfl) rfl
theorem dX5_tellRow_48 : decode cX5_tellRow 48 = .ok (.invokevirtual 74, 3) := op_182 (a := 0) (b := 74) kcX5_tellRow (Nat.le_of_ble_eq_true rfl) rfl rfl rfl
theorem dX5_tellRow_51 : decode cX5_tellRow 51 = .ok (.istore 6, 2) := op_54 (a := 6) kcX5_tellRow (Nat.le_of_ble_eq_true rfl) rfl rfl
theorem dX5_tellRow_53 : decode cX5_tellRow 53 = .ok (.aload_n 0, 1) := op_42 kcX5_tellRow (Nat.le_of_ble_eq_true rfl) rfl
theorem dX5_tellRow_54 : decode cX5_tellRow 54 = .ok (.getfield 19, 3) := op_180 (a := 0) (b := 19) kcX5_tellRow (Nat.le_of_ble_eq_true rfl) rfl rfl rfl
theorem dX5_tellRow_57 : decode cX5_tellRow 57 = .ok (.getfield 48, 3) := op_180 (a := 0) (b := 48) kcX5_tellRow (Nat.le_of_ble_eq_true rfl) rfl rfl rfl
theorem dX5_tellRow_60 : decode cX5_tellRow 60 = .ok (.iload 6, 2) := op_21 (a := 6) kcX5_tellRow (Nat.le_of_ble_eq_true rfl) rfl rfl
theorem dX5_tellRow_62 : decode cX5_tellRow 62 = .ok (.invokevirtual 88, 3) := op_182 (a := 0) (b := 88) kcX5_tellRow (Nat.le_of_ble_eq_true rfl) rfl rfl rfl
theorem dX5_tellRow_65 : decode cX5_tellRow 65 = .ok (.ifCond .ne 4, 3) := op_154 (a := 0) (b := 4) kcX5_tellRow (Nat.le_of_ble_eq_true rfl) rfl rfl rfl (by decide)
theorem dX5_tellRow_68 : decode cX5_tellRow 68 = .ok (.return_, 1) := op_177 kcX5_tellRow (Nat.le_of_ble_eq_true rfl) rfl
theorem dX5_tellRow_69 : decode cX5_tellRow 69 = .ok (.aload_n 0, 1) := op_42 kcX5_tellRow (Nat.le_of_ble_eq_true rfl) rfl
theorem dX5_tellRow_70 : decode cX5_tellRow 70 = .ok (.getfield 15, 3) := op_180 (a := 0) (b := 15) kcX5_tellRow (Nat.le_of_ble_eq_true rfl) rfl rfl rfl
theorem dX5_tellRow_73 : decode cX5_tellRow 73 = .ok (.iload 5, 2) := op_21 (a := 5) kcX5_tellRow (Nat.le_of_ble_eq_true rfl) rfl rfl
theorem dX5_tellRow_75 : decode cX5_tellRow 75 = .ok (.iload 6, 2) := op_21 (a := 6) kcX5_tellRow (Nat.le_of_ble_eq_true rfl) rfl rfl
theorem dX5_tellRow_77 : decode cX5_tellRow 77 = .ok (.iastore, 1) := op_79 kcX5_tellRow (Nat.le_of_ble_eq_true rfl) rfl
theorem dX5_tellRow_78 : decode cX5_tellRow 78 = .ok (.aload_n 0, 1) := op_42 kcX5_tellRow (Nat.le_of_ble_eq_true rfl) rfl
theorem dX5_tellRow_79 : decode cX5_tellRow 79 = .ok (.getfield 19, 3) := op_180 (a := 0) (b := 19) kcX5_tellRow (Nat.le_of_ble_eq_true rfl) rfl rfl rfl
theorem dX5_tellRow_82 : decode cX5_tellRow 82 = .ok (.getfield 48, 3) := op_180 (a := 0) (b := 48) kcX5_tellRow (Nat.le_of_ble_eq_true rfl) rfl rfl rfl
theorem dX5_tellRow_85 : decode cX5_tellRow 85 = .ok (.iload 6, 2) := op_21 (a := 6) kcX5_tellRow (Nat.le_of_ble_eq_true rfl) rfl rfl
theorem dX5_tellRow_87 : decode cX5_tellRow 87 = .ok (.iload 4, 2) := op_21 (a := 4) kcX5_tellRow (Nat.le_of_ble_eq_true rfl) rfl rfl
theorem dX5_tellRow_89 : decode cX5_tellRow 89 = .ok (.invokevirtual 81, 3) := op_182 (a := 0) (b := 81) kcX5_tellRow (Nat.le_of_ble_eq_true rfl) rfl rfl rfl
theorem dX5_tellRow_92 : decode cX5_tellRow 92 = .ok (.istore 4, 2) := op_54 (a := 4) kcX5_tellRow (Nat.le_of_ble_eq_true rfl) rfl rfl
theorem dX5_tellRow_94 : decode cX5_tellRow 94 = .ok (.aload_n 0, 1) := op_42 kcX5_tellRow (Nat.le_of_ble_eq_true rfl) rfl
theorem dX5_tellRow_95 : decode cX5_tellRow 95 = .ok (.getfield 19, 3) := op_180 (a := 0) (b := 19) kcX5_tellRow (Nat.le_of_ble_eq_true rfl) rfl rfl rfl
theorem dX5_tellRow_98 : decode cX5_tellRow 98 = .ok (.iload_n 3, 1) := op_29 kcX5_tellRow (Nat.le_of_ble_eq_true rfl) rfl
theorem dX5_tellRow_99 : decode cX5_tellRow 99 = .ok (.iload 4, 2) := op_21 (a := 4) kcX5_tellRow (Nat.le_of_ble_eq_true rfl) rfl rfl
theorem dX5_tellRow_101 : decode cX5_tellRow 101 = .ok (.invokevirtual 85, 3) := op_182 (a := 0) (b := 85) kcX5_tellRow (Nat.le_of_ble_eq_true rfl) rfl rfl rfl
theorem dX5_tellRow_104 : decode cX5_tellRow 104 = .ok (.istore_n 3, 1) := op_62 kcX5_tellRow (Nat.le_of_ble_eq_true rfl) rfl
theorem dX5_tellRow_105 : decode cX5_tellRow 105 = .ok (.iinc 5 1, 3) := by decide +kernel
theorem dX5_tellRow_108 : decode cX5_tellRow 108 = .ok (.goto (-82), 3) := op_167 (a := 255) (b := 174) kcX5_tellRow (Nat.le_of_ble_eq_true rfl) rfl rfl rfl (by decide)
theorem dX5_tellRow_111 : decode cX5_tellRow 111 = .ok (.return_, 1) := op_177 kcX5_tellRow (Nat.le_of_ble_eq_true rfl) rfl
theorem kcX6_init : (cX6_init).data.toList = cbs 0xb11f00b50abc23102a1c00b50abc082a1900b50abc082a1600b50abc082a1200b50abc07102a0f00b5032a0900b5072a0300b72a 52 := by decide +kernel
theorem dX6_init_0 : decode cX6_init 0 = .ok (.aload_n 0, 1) := op_42 kcX6_init (Nat.le_of_ble_eq_true rfl) rfl
theorem dX6_init_1 : decode cX6_init 1 = .ok (.invokespecial 3, 3) := op_183 (a := 0) (b := 3) kcX6_init (Nat.le_of_ble_eq_true rfl) rfl rfl rfl
theorem dX6_init_4 : decode cX6_init 4 = .ok (.aload_n 0, 1) := op_42 kcX6_init (Nat.le_of_ble_eq_true rfl) rfl
theorem dX6_init_5 : decode cX6_init 5 = .ok (.iconst 4, 1) := op_7 kcX6_init (Nat.le_of_ble_eq_true rfl) rfl
theorem dX6_init_6 : decode cX6_init 6 = .ok (.putfield 9, 3) := op_181 (a := 0) (b := 9) kcX6_init (Nat.le_of_ble_eq_true rfl) rfl rfl rfl
theorem dX6_init_9 : decode cX6_init 9 = .ok (.aload_n 0, 1) := op_42 kcX6_init (Nat.le_of_ble_eq_true rfl) rfl
theorem dX6_init_10 : decode cX6_init 10 = .ok (.iconst 0, 1) := op_3 kcX6_init (Nat.le_of_ble_eq_true rfl) rfl
theorem dX6_init_11 : decode cX6_init 11 = .ok (.putfield 15, 3) := op_181 (a := 0) (b := 15) kcX6_init (Nat.le_of_ble_eq_true rfl) rfl rfl rfl
theorem dX6_init_14 : decode cX6_init 14 = .ok (.aload_n 0, 1) := op_42 kcX6_init (Nat.le_of_ble_eq_true rfl) rfl
theorem dX6_init_15 : decode cX6_init 15 = .ok (.bipush 7, 2) := op_16 (a := 7) kcX6_init (Nat.le_of_ble_eq_true rfl) rfl rfl (by decide)
theorem dX6_init_17 : decode cX6_init 17 = .ok (.newarray .int, 2) := by decide +kernel
theorem dX6_init_19 : decode cX6_init 19 = .ok (.putfield 18, 3) := op_181 (a := 0) (b := 18) kcX6_init (Nat.le_of_ble_eq_true rfl) rfl rfl rfl
theorem dX6_init_22 : decode cX6_init 22 = .ok (.aload_n 0, 1) := op_42 kcX6_init (Nat.le_of_ble_eq_true rfl) rfl
theorem dX6_init_23 : decode cX6_init 23 = .ok (.iconst 5, 1) := op_8 kcX6_init (Nat.le_of_ble_eq_true rfl) rfl
theorem dX6_init_24 : decode cX6_init 24 = .ok (.newarray .int, 2) := by decide +kernel
theorem dX6_init_26 : decode cX6_init 26 = .ok (.putfield 22, 3) := op_181 (a := 0) (b := 22) kcX6_init (Nat.le_of_ble_eq_true rfl) rfl rfl rfl
theorem dX6_init_29 : decode cX6_init 29 = .ok (.aload_n 0, 1) := op_42 kcX6_init (Nat.le_of_ble_eq_true rfl) rfl
theorem dX6_init_30 : decode cX6_init 30 = .ok (.iconst 5, 1) := op_8 kcX6_init (Nat.le_of_ble_eq_true rfl) rfl
theorem dX6_init_31 : decode cX6_init 31 = .ok (.newarray .int, 2) := by decide +kernel
theorem dX6_init_33 : decode cX6_init 33 = .ok (.putfield 25, 3) := op_181 (a := 0) (b := 25) kcX6_init (Nat.le_of_ble_eq_true rfl) rfl rfl rfl
theorem dX6_init_36 : decode cX6_init 36 = .ok (.aload_n 0, 1) := op_42 kcX6_init (Nat.le_of_ble_eq_true rfl) rfl
theorem dX6_init_37 : decode cX6_init 37 = .ok (.iconst 5, 1) := op_8 kcX6_init (Nat.le_of_ble_eq_true rfl) rfl
theorem dX6_init_38 : decode cX6_init 38 = .ok (.newarray .int, 2) := by decide +kernel
theorem dX6_init_40 : decode cX6_init 40 = .ok (.putfield 28, 3) := op_181 (a := 0) (b := 28) kcX6_init (Nat.le_of_ble_eq_true rfl) rfl rfl rfl
theorem dX6_init_43 : decode cX6_init 43 = .ok (.aload_n 0, 1) := op_42 kcX6_init (Nat.le_of_ble_eq_true rfl) rfl
theorem dX6_init_44 : decode cX6_init 44 = .ok (.bipush 35, 2) := op_16 (a := 35) kcX6_init (Nat.le_of_ble_eq_true rfl) rfl rfl (by decide)
theorem dX6_init_46 : decode cX6_init 46 = .ok (.newarray .int, 2) := by decide +kernel
theorem dX6_init_48 : decode cX6_init 48 = .ok (.putfield 31, 3) := op_181 (a := 0) (b := 31) kcX6_init (Nat.le_of_ble_eq_true rfl) rfl rfl rfl
theorem dX6_init_51 : decode cX6_init 51 = .ok (.return_, 1) := op_177 kcX6_init (Nat.le_of_ble_eq_true rfl) rfl
set_option maxRecDepth 20000 in
theorem ggX6_reset_J7_fill_53178 : GoodIn wsX6_reset wsJ7_fill_53178 := goodIn_r _ [7] rfl gw_wsJ7_fill_53178
set_option maxRecDepth 20000 in
theorem gX6_reset_J7_fill_53178 : GoodIn wsX6_reset (va_wsS RX6 34 yJ7_fill_53178 wsJ7_fill_53178) := goodIn_app (goodIn_of _ (by decide +kernel)) ggX6_reset_J7_fill_53178
theorem kcX6_reset : (cX6_reset).data.toList = cbs 0xb12200b8031200b42a0f00b5032a0900b5072a 19 := by decide +kernel
theorem dX6_reset_0 : decode cX6_reset 0 = .ok (.aload_n 0, 1) := op_42 kcX6_reset (Nat.le_of_ble_eq_true rfl) rfl
theorem dX6_reset_1 : decode cX6_reset 1 = .ok (.iconst 4, 1) := op_7 kcX6_reset (Nat.le_of_ble_eq_true rfl) rfl
theorem dX6_reset_2 : decode cX6_reset 2 = .ok (.putfield 9, 3) := op_181 (a := 0) (b := 9) kcX6_reset (Nat.le_of_ble_eq_true rfl) rfl rfl rfl
theorem dX6_reset_5 : decode cX6_reset 5 = .ok (.aload_n 0, 1) := op_42 kcX6_reset (Nat.le_of_ble_eq_true rfl) rfl
theorem dX6_reset_6 : decode cX6_reset 6 = .ok (.iconst 0, 1) := op_3 kcX6_reset (Nat.le_of_ble_eq_true rfl) rfl
theorem dX6_reset_7 : decode cX6_reset 7 = .ok (.putfield 15, 3) := op_181 (a := 0) (b := 15) kcX6_reset (Nat.le_of_ble_eq_true rfl) rfl rfl rfl
theorem dX6_reset_10 : decode cX6_reset 10 = .ok (.aload_n 0, 1) := op_42 kcX6_reset (Nat.le_of_ble_eq_true rfl) rfl
theorem dX6_reset_11 : decode cX6_reset 11 = .ok (.getfield 18, 3) := op_180 (a := 0) (b := 18) kcX6_reset (Nat.le_of_ble_eq_true rfl) rfl rfl rfl
theorem dX6_reset_14 : decode cX6_reset 14 = .ok (.iconst 0, 1) := op_3 kcX6_reset (Nat.le_of_ble_eq_true rfl) rfl
theorem dX6_reset_15 : decode cX6_reset 15 = .ok (.invokestatic 34, 3) := op_184 (a := 0) (b := 34) kcX6_reset (Nat.le_of_ble_eq_true rfl) rfl rfl rfl
theorem dX6_reset_18 : decode cX6_reset 18 = .ok (.return_, 1) := op_177 kcX6_reset (Nat.le_of_ble_eq_true rfl) rfl
theorem kcX6_copy : (cX6_copy).data.toList = cbs 0xb12800b82310031f00b42a031f00b42b2800b80710031200b42a031200b42b0f00b50f00b42b2a0900b50900b42b2a 47 := by decide +kernel
theorem dX6_copy_0 : decode cX6_copy 0 = .ok (.aload_n 0, 1) := op_42 kcX6_copy (Nat.le_of_ble_eq_true rfl) rfl
theorem dX6_copy_1 : decode cX6_copy 1 = .ok (.aload_n 1, 1) := op_43 kcX6_copy (Nat.le_of_ble_eq_true rfl) rfl
theorem dX6_copy_2 : decode cX6_copy 2 = .ok (.getfield 9, 3) := op_180 (a := 0) (b := 9) kcX6_copy (Nat.le_of_ble_eq_true rfl) rfl rfl rfl
theorem dX6_copy_5 : decode cX6_copy 5 = .ok (.putfield 9, 3) := op_181 (a := 0) (b := 9) kcX6_copy (Nat.le_of_ble_eq_true rfl) rfl rfl rfl
theorem dX6_copy_8 : decode cX6_copy 8 = .ok (.aload_n 0, 1) := op_42 kcX6_copy (Nat.le_of_ble_eq_true rfl) rfl
theorem dX6_copy_9 : decode cX6_copy 9 = .ok (.aload_n 1, 1) := op_43 kcX6_copy (Nat.le_of_ble_eq_true rfl) rfl
theorem dX6_copy_10 : decode cX6_copy 10 = .ok (.getfield 15, 3) := op_180 (a := 0) (b := 15) kcX6_copy (Nat.le_of_ble_eq_true rfl) rfl rfl rfl
theorem dX6_copy_13 : decode cX6_copy 13 = .ok (.putfield 15, 3) := op_181 (a := 0) (b := 15) kcX6_copy (Nat.le_of_ble_eq_true rfl) rfl rfl rfl
theorem dX6_copy_16 : decode cX6_copy 16 = .ok (.aload_n 1, 1) := op_43 kcX6_copy (Nat.le_of_ble_eq_true rfl) rfl
theorem dX6_copy_17 : decode cX6_copy 17 = .ok (.getfield 18, 3) := op_180 (a := 0) (b := 18) kcX6_copy (Nat.le_of_ble_eq_true rfl) rfl rfl rfl
theorem dX6_copy_20 : decode cX6_copy 20 = .ok (.iconst 0, 1) := op_3 kcX6_copy (Nat.le_of_ble_eq_true rfl) rfl
theorem dX6_copy_21 : decode cX6_copy 21 = .ok (.aload_n 0, 1) := op_42 kcX6_copy (Nat.le_of_ble_eq_true rfl) rfl
theorem dX6_copy_22 : decode cX6_copy 22 = .ok (.getfield 18, 3) := op_180 (a := 0) (b := 18) kcX6_copy (Nat.le_of_ble_eq_true rfl) rfl rfl rfl
theorem dX6_copy_25 : decode cX6_copy 25 = .ok (.iconst 0, 1) := op_3 kcX6_copy (Nat.le_of_ble_eq_true rfl) rfl
theorem dX6_copy_26 : decode cX6_copy 26 = .ok (.bipush 7, 2) := op_16 (a := 7) kcX6_copy (Nat.le_of_ble_eq_true rfl) rfl rfl (by decide)
theorem dX6_copy_28 : decode cX6_copy 28 = .ok (.invokestatic 40, 3) := op_184 (a := 0) (b := 40) kcX6_copy (Nat.le_of_ble_eq_true rfl) rfl rfl rfl
theorem dX6_copy_31 : decode cX6_copy 31 = .ok (.aload_n 1, 1) := op_43 kcX6_copy (Nat.le_of_ble_eq_true rfl) rfl
theorem dX6_copy_32 : decode cX6_copy 32 = .ok (.getfield 31, 3) := op_180 (a := 0) (b := 31) kcX6_copy (Nat.le_of_ble_eq_true rfl) rfl rfl rfl
theorem dX6_copy_35 : decode cX6_copy 35 = .ok (.iconst 0, 1) := op_3 kcX6_copy (Nat.le_of_ble_eq_true rfl) rfl
theorem dX6_copy_36 : decode cX6_copy 36 = .ok (.aload_n 0, 1) := op_42 kcX6_copy (Nat.le_of_ble_eq_true rfl) rfl
theorem dX6_copy_37 : decode cX6_copy 37 = .ok (.getfield 31, 3) := op_180 (a := 0) (b := 31) kcX6_copy (Nat.le_of_ble_eq_true rfl) rfl rfl rfl
theorem dX6_copy_40 : decode cX6_copy 40 = .ok (.iconst 0, 1) := op_3 kcX6_copy (Nat.le_of_ble_eq_true rfl) rfl
theorem dX6_copy_41 : decode cX6_copy 41 = .ok (.bipush 35, 2) := op_16 (a := 35) kcX6_copy (Nat.le_of_ble_eq_true rfl) rfl rfl (by decide)
theorem dX6_copy_43 : decode cX6_copy 43 = .ok (.invokestatic 40, 3) := op_184 (a := 0) (b := 40) kcX6_copy (Nat.le_of_ble_eq_true rfl) rfl rfl rfl
theorem dX6_copy_46 : decode cX6_copy 46 = .ok (.return_, 1) := op_177 kcX6_copy (Nat.le_of_ble_eq_true rfl) rfl
theorem kcX6_hasSeat : (cX6_hasSeat).data.toList = cbs 0xac030400a7040700a20900b42a1b0f009b1b 18 := by decide +kernel
theorem dX6_hasSeat_0 : decode cX6_hasSeat 0 = .ok (.iload_n 1, 1) := op_27 kcX6_hasSeat (Nat.le_of_ble_eq_true rfl) rfl
theorem dX6_hasSeat_1 : decode cX6_hasSeat 1 = .ok (.ifCond .lt 15, 3) := op_155 (a := 0) (b := 15) kcX6_hasSeat (Nat.le_of_ble_eq_true rfl) rfl rfl rfl (by decide)
theorem dX6_hasSeat_4 : decode cX6_hasSeat 4 = .ok (.iload_n 1, 1) := op_27 kcX6_hasSeat (Nat.le_of_ble_eq_true rfl) rfl
theorem dX6_hasSeat_5 : decode cX6_hasSeat 5 = .ok (.aload_n 0, 1) := op_42 kcX6_hasSeat (Nat.le_of_ble_eq_true rfl) rfl
theorem dX6_hasSeat_6 : decode cX6_hasSeat 6 = .ok (.getfield 9, 3) := op_180 (a := 0) (b := 9) kcX6_hasSeat (Nat.le_of_ble_eq_true rfl) rfl rfl rfl
theorem dX6_hasSeat_9 : decode cX6_hasSeat 9 = .ok (.if_icmp .ge 7, 3) := op_162 (a := 0) (b := 7) kcX6_hasSeat (Nat.le_of_ble_eq_true rfl) rfl rfl rfl (by decide)
theorem dX6_hasSeat_12 : decode cX6_hasSeat 12 = .ok (.iconst 1, 1) := op_4 kcX6_hasSeat (Nat.le_of_ble_eq_true rfl) rfl
theorem dX6_hasSeat_13 : decode cX6_hasSeat 13 = .ok (.goto 4, 3) := op_167 (a := 0) (b := 4) kcX6_hasSeat (Nat.le_of_ble_eq_true rfl) rfl rfl rfl (by decide)
theorem dX6_hasSeat_16 : decode cX6_hasSeat 16 = .ok (.iconst 0, 1) := op_3 kcX6_hasSeat (Nat.le_of_ble_eq_true rfl) rfl
theorem dX6_hasSeat_17 : decode cX6_hasSeat 17 = .ok (.ireturn, 1) := op_172 kcX6_hasSeat (Nat.le_of_ble_eq_true rfl) rfl
theorem kcX6_hasStir : (cX6_hasStir).data.toList = cbs 0xac030400a7040700a20f00b42a1b0f009b1b 18 := by decide +kernel
theorem dX6_hasStir_0 : decode cX6_hasStir 0 = .ok (.iload_n 1, 1) := op_27 kcX6_hasStir (Nat.le_of_ble_eq_true rfl) rfl
theorem dX6_hasStir_1 : decode cX6_hasStir 1 = .ok (.ifCond .lt 15, 3) := op_155 (a := 0) (b := 15) kcX6_hasStir (Nat.le_of_ble_eq_true rfl) rfl rfl rfl (by decide)
theorem dX6_hasStir_4 : decode cX6_hasStir 4 = .ok (.iload_n 1, 1) := op_27 kcX6_hasStir (Nat.le_of_ble_eq_true rfl) rfl
theorem dX6_hasStir_5 : decode cX6_hasStir 5 = .ok (.aload_n 0, 1) := op_42 kcX6_hasStir (Nat.le_of_ble_eq_true rfl) rfl
theorem dX6_hasStir_6 : decode cX6_hasStir 6 = .ok (.getfield 15, 3) := op_180 (a := 0) (b := 15) kcX6_hasStir (Nat.le_of_ble_eq_true rfl) rfl rfl rfl
theorem dX6_hasStir_9 : decode cX6_hasStir 9 = .ok (.if_icmp .ge 7, 3) := op_162 (a := 0) (b := 7) kcX6_hasStir (Nat.le_of_ble_eq_true rfl) rfl rfl rfl (by decide)
theorem dX6_hasStir_12 : decode cX6_hasStir 12 = .ok (.iconst 1, 1) := op_4 kcX6_hasStir (Nat.le_of_ble_eq_true rfl) rfl
theorem dX6_hasStir_13 : decode cX6_hasStir 13 = .ok (.goto 4, 3) := op_167 (a := 0) (b := 4) kcX6_hasStir (Nat.le_of_ble_eq_true rfl) rfl rfl rfl (by decide)
theorem dX6_hasStir_16 : decode cX6_hasStir 16 = .ok (.iconst 0, 1) := op_3 kcX6_hasStir (Nat.le_of_ble_eq_true rfl) rfl
theorem dX6_hasStir_17 : decode cX6_hasStir 17 = .ok (.ireturn, 1) := op_172 kcX6_hasStir (Nat.le_of_ble_eq_true rfl) rfl
theorem kcX6_addStir : (cX6_addStir).data.toList = cbs 0xb10f00b560040f00b4592a4f1d0f00b42a1c00b42a4f1c0f00b42a1900b42a4f1b0f00b42a1600b42a2b00a2080f00b42a 49 := by decide +kernel
theorem dX6_addStir_0 : decode cX6_addStir 0 = .ok (.aload_n 0, 1) := op_42 kcX6_addStir (Nat.le_of_ble_eq_true rfl) rfl
theorem dX6_addStir_1 : decode cX6_addStir 1 = .ok (.getfield 15, 3) := op_180 (a := 0) (b := 15) kcX6_addStir (Nat.le_of_ble_eq_true rfl) rfl rfl rfl
theorem dX6_addStir_4 : decode cX6_addStir 4 = .ok (.iconst 5, 1) := op_8 kcX6_addStir (Nat.le_of_ble_eq_true rfl) rfl
theorem dX6_addStir_5 : decode cX6_addStir 5 = .ok (.if_icmp .ge 43, 3) := op_162 (a := 0) (b := 43) kcX6_addStir (Nat.le_of_ble_eq_true rfl) rfl rfl rfl (by decide)
theorem dX6_addStir_8 : decode cX6_addStir 8 = .ok (.aload_n 0, 1) := op_42 kcX6_addStir (Nat.le_of_ble_eq_true rfl) rfl
theorem dX6_addStir_9 : decode cX6_addStir 9 = .ok (.getfield 22, 3) := op_180 (a := 0) (b := 22) kcX6_addStir (Nat.le_of_ble_eq_true rfl) rfl rfl rfl
theorem dX6_addStir_12 : decode cX6_addStir 12 = .ok (.aload_n 0, 1) := op_42 kcX6_addStir (Nat.le_of_ble_eq_true rfl) rfl
theorem dX6_addStir_13 : decode cX6_addStir 13 = .ok (.getfield 15, 3) := op_180 (a := 0) (b := 15) kcX6_addStir (Nat.le_of_ble_eq_true rfl) rfl rfl rfl
theorem dX6_addStir_16 : decode cX6_addStir 16 = .ok (.iload_n 1, 1) := op_27 kcX6_addStir (Nat.le_of_ble_eq_true rfl) rfl
theorem dX6_addStir_17 : decode cX6_addStir 17 = .ok (.iastore, 1) := op_79 kcX6_addStir (Nat.le_of_ble_eq_true rfl) rfl
theorem dX6_addStir_18 : decode cX6_addStir 18 = .ok (.aload_n 0, 1) := op_42 kcX6_addStir (Nat.le_of_ble_eq_true rfl) rfl
theorem dX6_addStir_19 : decode cX6_addStir 19 = .ok (.getfield 25, 3) := op_180 (a := 0) (b := 25) kcX6_addStir (Nat.le_of_ble_eq_true rfl) rfl rfl rfl
theorem dX6_addStir_22 : decode cX6_addStir 22 = .ok (.aload_n 0, 1) := op_42 kcX6_addStir (Nat.le_of_ble_eq_true rfl) rfl
theorem dX6_addStir_23 : decode cX6_addStir 23 = .ok (.getfield 15, 3) := op_180 (a := 0) (b := 15) kcX6_addStir (Nat.le_of_ble_eq_true rfl) rfl rfl rfl
theorem dX6_addStir_26 : decode cX6_addStir 26 = .ok (.iload_n 2, 1) := op_28 kcX6_addStir (Nat.le_of_ble_eq_true rfl) rfl
theorem dX6_addStir_27 : decode cX6_addStir 27 = .ok (.iastore, 1) := op_79 kcX6_addStir (Nat.le_of_ble_eq_true rfl) rfl
theorem dX6_addStir_28 : decode cX6_addStir 28 = .ok (.aload_n 0, 1) := op_42 kcX6_addStir (Nat.le_of_ble_eq_true rfl) rfl
theorem dX6_addStir_29 : decode cX6_addStir 29 = .ok (.getfield 28, 3) := op_180 (a := 0) (b := 28) kcX6_addStir (Nat.le_of_ble_eq_true rfl) rfl rfl rfl
theorem dX6_addStir_32 : decode cX6_addStir 32 = .ok (.aload_n 0, 1) := op_42 kcX6_addStir (Nat.le_of_ble_eq_true rfl) rfl
theorem dX6_addStir_33 : decode cX6_addStir 33 = .ok (.getfield 15, 3) := op_180 (a := 0) (b := 15) kcX6_addStir (Nat.le_of_ble_eq_true rfl) rfl rfl rfl
theorem dX6_addStir_36 : decode cX6_addStir 36 = .ok (.iload_n 3, 1) := op_29 kcX6_addStir (Nat.le_of_ble_eq_true rfl) rfl
theorem dX6_addStir_37 : decode cX6_addStir 37 = .ok (.iastore, 1) := op_79 kcX6_addStir (Nat.le_of_ble_eq_true rfl) rfl
theorem dX6_addStir_38 : decode cX6_addStir 38 = .ok (.aload_n 0, 1) := op_42 kcX6_addStir (Nat.le_of_ble_eq_true rfl) rfl
theorem dX6_addStir_39 : decode cX6_addStir 39 = .ok (.dup, 1) := op_89 kcX6_addStir (Nat.le_of_ble_eq_true rfl) rfl
theorem dX6_addStir_40 : decode cX6_addStir 40 = .ok (.getfield 15, 3) := op_180 (a := 0) (b := 15) kcX6_addStir (Nat.le_of_ble_eq_true rfl) rfl rfl rfl
theorem dX6_addStir_43 : decode cX6_addStir 43 = .ok (.iconst 1, 1) := op_4 kcX6_addStir (Nat.le_of_ble_eq_true rfl) rfl
theorem dX6_addStir_44 : decode cX6_addStir 44 = .ok (.iadd, 1) := op_96 kcX6_addStir (Nat.le_of_ble_eq_true rfl) rfl
theorem dX6_addStir_45 : decode cX6_addStir 45 = .ok (.putfield 15, 3) := op_181 (a := 0) (b := 15) kcX6_addStir (Nat.le_of_ble_eq_true rfl) rfl rfl rfl
theorem dX6_addStir_48 : decode cX6_addStir 48 = .ok (.return_, 1) := op_177 kcX6_addStir (Nat.le_of_ble_eq_true rfl) rfl
set_option maxRecDepth 20000 in
theorem gw_wsX6_workOut : (wsX6_workOut).all goodWord = true := by decide +kernel
set_option maxRecDepth 20000 in
theorem ggX6_workOutStirs_X6_workOut : GoodIn wsX6_workOutStirs wsX6_workOut := goodIn_r _ [8, 9, 10, 2, 11, 12, 13, 14, 7, 15, 16, 17, 18, 19, 20, 21, 22, 23, 24, 25, 26, 27, 28] rfl gw_wsX6_workOut
set_option maxRecDepth 20000 in
theorem gX6_workOutStirs_X6_workOut : GoodIn wsX6_workOutStirs (wsV RX6 46 RX6 yX6_workOut wsX6_workOut) := goodIn_app (goodIn_of _ (by decide +kernel)) ggX6_workOutStirs_X6_workOut
theorem kcX6_workOutStirs : (cX6_workOutStirs).data.toList = cbs 0xb1d4ffa7010184e4ffa70102844f2e00b61c1b2a601c6807101b1f00b42a1a00a20900b42a1c3d032a00a20f00b42a1b3c03 50 := by decide +kernel
theorem dX6_workOutStirs_0 : decode cX6_workOutStirs 0 = .ok (.iconst 0, 1) := op_3 kcX6_workOutStirs (Nat.le_of_ble_eq_true rfl) rfl
theorem dX6_workOutStirs_1 : decode cX6_workOutStirs 1 = .ok (.istore_n 1, 1) := op_60 kcX6_workOutStirs (Nat.le_of_ble_eq_true rfl) rfl
theorem dX6_workOutStirs_2 : decode cX6_workOutStirs 2 = .ok (.iload_n 1, 1) := op_27 kcX6_workOutStirs (Nat.le_of_ble_eq_true rfl) rfl
theorem dX6_workOutStirs_3 : decode cX6_workOutStirs 3 = .ok (.aload_n 0, 1) := op_42 kcX6_workOutStirs (Nat.le_of_ble_eq_true rfl) rfl
theorem dX6_workOutStirs_4 : decode cX6_workOutStirs 4 = .ok (.getfield 15, 3) := op_180 (a := 0) (b := 15) kcX6_workOutStirs (Nat.le_of_ble_eq_true rfl) rfl rfl rfl
theorem dX6_workOutStirs_7 : decode cX6_workOutStirs 7 = .ok (.if_icmp .ge 42, 3) := op_162 (a := 0) (b := 42) kcX6_workOutStirs (Nat.le_of_ble_eq_true rfl) rfl rfl rfl (by decide)
theorem dX6_workOutStirs_10 : decode cX6_workOutStirs 10 = .ok (.iconst 0, 1) := op_3 kcX6_workOutStirs (Nat.le_of_ble_eq_true rfl) rfl
theorem dX6_workOutStirs_11 : decode cX6_workOutStirs 11 = .ok (.istore_n 2, 1) := op_61 kcX6_workOutStirs (Nat.le_of_ble_eq_true rfl) rfl
theorem dX6_workOutStirs_12 : decode cX6_workOutStirs 12 = .ok (.iload_n 2, 1) := op_28 kcX6_workOutStirs (Nat.le_of_ble_eq_true rfl) rfl
theorem dX6_workOutStirs_13 : decode cX6_workOutStirs 13 = .ok (.aload_n 0, 1) := op_42 kcX6_workOutStirs (Nat.le_of_ble_eq_true rfl) rfl
theorem dX6_workOutStirs_14 : decode cX6_workOutStirs 14 = .ok (.getfield 9, 3) := op_180 (a := 0) (b := 9) kcX6_workOutStirs (Nat.le_of_ble_eq_true rfl) rfl rfl rfl
theorem dX6_workOutStirs_17 : decode cX6_workOutStirs 17 = .ok (.if_icmp .ge 26, 3) := op_162 (a := 0) (b := 26) kcX6_workOutStirs (Nat.le_of_ble_eq_true rfl) rfl rfl rfl (by decide)
theorem dX6_workOutStirs_20 : decode cX6_workOutStirs 20 = .ok (.aload_n 0, 1) := op_42 kcX6_workOutStirs (Nat.le_of_ble_eq_true rfl) rfl
theorem dX6_workOutStirs_21 : decode cX6_workOutStirs 21 = .ok (.getfield 31, 3) := op_180 (a := 0) (b := 31) kcX6_workOutStirs (Nat.le_of_ble_eq_true rfl) rfl rfl rfl
theorem dX6_workOutStirs_24 : decode cX6_workOutStirs 24 = .ok (.iload_n 1, 1) := op_27 kcX6_workOutStirs (Nat.le_of_ble_eq_true rfl) rfl
theorem dX6_workOutStirs_25 : decode cX6_workOutStirs 25 = .ok (.bipush 7, 2) := op_16 (a := 7) kcX6_workOutStirs (Nat.le_of_ble_eq_true rfl) rfl rfl (by decide)
theorem dX6_workOutStirs_27 : decode cX6_workOutStirs 27 = .ok (.imul, 1) := op_104 kcX6_workOutStirs (Nat.le_of_ble_eq_true rfl) rfl
theorem dX6_workOutStirs_28 : decode cX6_workOutStirs 28 = .ok (.iload_n 2, 1) := op_28 kcX6_workOutStirs (Nat.le_of_ble_eq_true rfl) rfl
theorem dX6_workOutStirs_29 : decode cX6_workOutStirs 29 = .ok (.iadd, 1) := op_96 kcX6_workOutStirs (Nat.le_of_ble_eq_true rfl) rfl
theorem dX6_workOutStirs_30 : decode cX6_workOutStirs 30 = .ok (.aload_n 0, 1) := op_42 kcX6_workOutStirs (Nat.le_of_ble_eq_true rfl) rfl
theorem dX6_workOutStirs_31 : decode cX6_workOutStirs 31 = .ok (.iload_n 1, 1) := op_27 kcX6_workOutStirs (Nat.le_of_ble_eq_true rfl) rfl
theorem dX6_workOutStirs_32 : decode cX6_workOutStirs 32 = .ok (.iload_n 2, 1) := op_28 kcX6_workOutStirs (Nat.le_of_ble_eq_true rfl) rfl
theorem dX6_workOutStirs_33 : decode cX6_workOutStirs 33 = .ok (.invokevirtual 46, 3) := op_182 (a := 0) (b := 46) kcX6_workOutStirs (Nat.le_of_ble_eq_true rfl) rfl rfl rfl
theorem dX6_workOutStirs_36 : decode cX6_workOutStirs 36 = .ok (.iastore, 1) := op_79 kcX6_workOutStirs (Nat.le_of_ble_eq_true rfl) rfl
theorem dX6_workOutStirs_37 : decode cX6_workOutStirs 37 = .ok (.iinc 2 1, 3) := by decide +kernel
theorem dX6_workOutStirs_40 : decode cX6_workOutStirs 40 = .ok (.goto (-28), 3) := op_167 (a := 255) (b := 228) kcX6_workOutStirs (Nat.le_of_ble_eq_true rfl) rfl rfl rfl (by decide)
theorem dX6_workOutStirs_43 : decode cX6_workOutStirs 43 = .ok (.iinc 1 1, 3) := by decide +kernel
theorem dX6_workOutStirs_46 : decode cX6_workOutStirs 46 = .ok (.goto (-44), 3) := op_167 (a := 255) (b := 212) kcX6_workOutStirs (Nat.le_of_ble_eq_true rfl) rfl rfl rfl (by decide)
theorem dX6_workOutStirs_49 : decode cX6_workOutStirs 49 = .ok (.return_, 1) := op_177 kcX6_workOutStirs (Nat.le_of_ble_eq_true rfl) rfl
set_option maxRecDepth 20000 in
theorem ggX6_workOut_X6_inRing : GoodIn wsX6_workOut wsX6_inRing := goodIn_r _ [9, 3, 16, 17, 18, 19, 20, 21, 22] rfl gw_wsX6_inRing
set_option maxRecDepth 20000 in
theorem gX6_workOut_X6_inRing : GoodIn wsX6_workOut (wsV RX6 50 RX6 yX6_inRing wsX6_inRing) := goodIn_app (goodIn_of _ (by decide +kernel)) ggX6_workOut_X6_inRing
set_option maxRecDepth 20000 in
theorem gw_wsX6_swapped : (wsX6_swapped).all goodWord = true := by decide +kernel
set_option maxRecDepth 20000 in
theorem ggX6_workOut_X6_swapped : GoodIn wsX6_workOut wsX6_swapped := goodIn_r _ [12] rfl gw_wsX6_swapped
set_option maxRecDepth 20000 in
theorem gX6_workOut_X6_swapped : GoodIn wsX6_workOut (va_wsS RX6 54 yX6_swapped wsX6_swapped) := goodIn_app (goodIn_of _ (by decide +kernel)) ggX6_workOut_X6_swapped
set_option maxRecDepth 20000 in
theorem gw_wsX6_lifted : (wsX6_lifted).all goodWord = true := by decide +kernel
set_option maxRecDepth 20000 in
theorem ggX6_workOut_X6_lifted : GoodIn wsX6_workOut wsX6_lifted := goodIn_r _ [15] rfl gw_wsX6_lifted
set_option maxRecDepth 20000 in
theorem gX6_workOut_X6_lifted : GoodIn wsX6_workOut (va_wsS RX6 58 yX6_lifted wsX6_lifted) := goodIn_app (goodIn_of _ (by decide +kernel)) ggX6_workOut_X6_lifted
theorem kcX6_workOut : (cX6_workOut).data.toList = cbs 0xac3a00b82e1b1900b42a1cac3600b82e1b1c00b42a2e1b1900b42a1cac641c64040900b42aac3200b6602e1b1900b42a1c2a30000000270000001a00000009000000070000004100000000aa2e1b1600b42a 82 := by decide +kernel
theorem dX6_workOut_0 : decode cX6_workOut 0 = .ok (.aload_n 0, 1) := op_42 kcX6_workOut (Nat.le_of_ble_eq_true rfl) rfl
theorem dX6_workOut_1 : decode cX6_workOut 1 = .ok (.getfield 22, 3) := op_180 (a := 0) (b := 22) kcX6_workOut (Nat.le_of_ble_eq_true rfl) rfl rfl rfl
theorem dX6_workOut_4 : decode cX6_workOut 4 = .ok (.iload_n 1, 1) := op_27 kcX6_workOut (Nat.le_of_ble_eq_true rfl) rfl
theorem dX6_workOut_5 : decode cX6_workOut 5 = .ok (.iaload, 1) := op_46 kcX6_workOut (Nat.le_of_ble_eq_true rfl) rfl
theorem dX6_workOut_6 : decode cX6_workOut 6 = .ok (.tableswitch 65 7 9 #[26, 39, 48], 26) := by decide +kernel
theorem dX6_workOut_32 : decode cX6_workOut 32 = .ok (.aload_n 0, 1) := op_42 kcX6_workOut (Nat.le_of_ble_eq_true rfl) rfl
theorem dX6_workOut_33 : decode cX6_workOut 33 = .ok (.iload_n 2, 1) := op_28 kcX6_workOut (Nat.le_of_ble_eq_true rfl) rfl
theorem dX6_workOut_34 : decode cX6_workOut 34 = .ok (.aload_n 0, 1) := op_42 kcX6_workOut (Nat.le_of_ble_eq_true rfl) rfl
theorem dX6_workOut_35 : decode cX6_workOut 35 = .ok (.getfield 25, 3) := op_180 (a := 0) (b := 25) kcX6_workOut (Nat.le_of_ble_eq_true rfl) rfl rfl rfl
theorem dX6_workOut_38 : decode cX6_workOut 38 = .ok (.iload_n 1, 1) := op_27 kcX6_workOut (Nat.le_of_ble_eq_true rfl) rfl
theorem dX6_workOut_39 : decode cX6_workOut 39 = .ok (.iaload, 1) := op_46 kcX6_workOut (Nat.le_of_ble_eq_true rfl) rfl
theorem dX6_workOut_40 : decode cX6_workOut 40 = .ok (.iadd, 1) := op_96 kcX6_workOut (Nat.le_of_ble_eq_true rfl) rfl
theorem dX6_workOut_41 : decode cX6_workOut 41 = .ok (.invokevirtual 50, 3) := op_182 (a := 0) (b := 50) kcX6_workOut (Nat.le_of_ble_eq_true rfl) rfl rfl rfl
theorem dX6_workOut_44 : decode cX6_workOut 44 = .ok (.ireturn, 1) := op_172 kcX6_workOut (Nat.le_of_ble_eq_true rfl) rfl
theorem dX6_workOut_45 : decode cX6_workOut 45 = .ok (.aload_n 0, 1) := op_42 kcX6_workOut (Nat.le_of_ble_eq_true rfl) rfl
theorem dX6_workOut_46 : decode cX6_workOut 46 = .ok (.getfield 9, 3) := op_180 (a := 0) (b := 9) kcX6_workOut (Nat.le_of_ble_eq_true rfl) rfl rfl rfl
theorem dX6_workOut_49 : decode cX6_workOut 49 = .ok (.iconst 1, 1) := op_4 kcX6_workOut (Nat.le_of_ble_eq_true rfl) rfl
theorem dX6_workOut_50 : decode cX6_workOut 50 = .ok (.isub, 1) := op_100 kcX6_workOut (Nat.le_of_ble_eq_true rfl) rfl
theorem dX6_workOut_51 : decode cX6_workOut 51 = .ok (.iload_n 2, 1) := op_28 kcX6_workOut (Nat.le_of_ble_eq_true rfl) rfl
theorem dX6_workOut_52 : decode cX6_workOut 52 = .ok (.isub, 1) := op_100 kcX6_workOut (Nat.le_of_ble_eq_true rfl) rfl
theorem dX6_workOut_53 : decode cX6_workOut 53 = .ok (.ireturn, 1) := op_172 kcX6_workOut (Nat.le_of_ble_eq_true rfl) rfl
theorem dX6_workOut_54 : decode cX6_workOut 54 = .ok (.iload_n 2, 1) := op_28 kcX6_workOut (Nat.le_of_ble_eq_true rfl) rfl
theorem dX6_workOut_55 : decode cX6_workOut 55 = .ok (.aload_n 0, 1) := op_42 kcX6_workOut (Nat.le_of_ble_eq_true rfl) rfl
theorem dX6_workOut_56 : decode cX6_workOut 56 = .ok (.getfield 25, 3) := op_180 (a := 0) (b := 25) kcX6_workOut (Nat.le_of_ble_eq_true rfl) rfl rfl rfl
theorem dX6_workOut_59 : decode cX6_workOut 59 = .ok (.iload_n 1, 1) := op_27 kcX6_workOut (Nat.le_of_ble_eq_true rfl) rfl
theorem dX6_workOut_60 : decode cX6_workOut 60 = .ok (.iaload, 1) := op_46 kcX6_workOut (Nat.le_of_ble_eq_true rfl) rfl
theorem dX6_workOut_61 : decode cX6_workOut 61 = .ok (.aload_n 0, 1) := op_42 kcX6_workOut (Nat.le_of_ble_eq_true rfl) rfl
theorem dX6_workOut_62 : decode cX6_workOut 62 = .ok (.getfield 28, 3) := op_180 (a := 0) (b := 28) kcX6_workOut (Nat.le_of_ble_eq_true rfl) rfl rfl rfl
theorem dX6_workOut_65 : decode cX6_workOut 65 = .ok (.iload_n 1, 1) := op_27 kcX6_workOut (Nat.le_of_ble_eq_true rfl) rfl
theorem dX6_workOut_66 : decode cX6_workOut 66 = .ok (.iaload, 1) := op_46 kcX6_workOut (Nat.le_of_ble_eq_true rfl) rfl
theorem dX6_workOut_67 : decode cX6_workOut 67 = .ok (.invokestatic 54, 3) := op_184 (a := 0) (b := 54) kcX6_workOut (Nat.le_of_ble_eq_true rfl) rfl rfl rfl
theorem dX6_workOut_70 : decode cX6_workOut 70 = .ok (.ireturn, 1) := op_172 kcX6_workOut (Nat.le_of_ble_eq_true rfl) rfl
theorem dX6_workOut_71 : decode cX6_workOut 71 = .ok (.iload_n 2, 1) := op_28 kcX6_workOut (Nat.le_of_ble_eq_true rfl) rfl
theorem dX6_workOut_72 : decode cX6_workOut 72 = .ok (.aload_n 0, 1) := op_42 kcX6_workOut (Nat.le_of_ble_eq_true rfl) rfl
theorem dX6_workOut_73 : decode cX6_workOut 73 = .ok (.getfield 25, 3) := op_180 (a := 0) (b := 25) kcX6_workOut (Nat.le_of_ble_eq_true rfl) rfl rfl rfl
theorem dX6_workOut_76 : decode cX6_workOut 76 = .ok (.iload_n 1, 1) := op_27 kcX6_workOut (Nat.le_of_ble_eq_true rfl) rfl
theorem dX6_workOut_77 : decode cX6_workOut 77 = .ok (.iaload, 1) := op_46 kcX6_workOut (Nat.le_of_ble_eq_true rfl) rfl
theorem dX6_workOut_78 : decode cX6_workOut 78 = .ok (.invokestatic 58, 3) := op_184 (a := 0) (b := 58) kcX6_workOut (Nat.le_of_ble_eq_true rfl) rfl rfl rfl
theorem dX6_workOut_81 : decode cX6_workOut 81 = .ok (.ireturn, 1) := op_172 kcX6_workOut (Nat.le_of_ble_eq_true rfl) rfl
theorem kcX6_swapped : (cX6_swapped).data.toList = cbs 0xac1a0400a71b0700a01c1aac1c0500a01b1a 18 := by decide +kernel
theorem dX6_swapped_0 : decode cX6_swapped 0 = .ok (.iload_n 0, 1) := op_26 kcX6_swapped (Nat.le_of_ble_eq_true rfl) rfl
theorem dX6_swapped_1 : decode cX6_swapped 1 = .ok (.iload_n 1, 1) := op_27 kcX6_swapped (Nat.le_of_ble_eq_true rfl) rfl
theorem dX6_swapped_2 : decode cX6_swapped 2 = .ok (.if_icmp .ne 5, 3) := op_160 (a := 0) (b := 5) kcX6_swapped (Nat.le_of_ble_eq_true rfl) rfl rfl rfl (by decide)
theorem dX6_swapped_5 : decode cX6_swapped 5 = .ok (.iload_n 2, 1) := op_28 kcX6_swapped (Nat.le_of_ble_eq_true rfl) rfl
theorem dX6_swapped_6 : decode cX6_swapped 6 = .ok (.ireturn, 1) := op_172 kcX6_swapped (Nat.le_of_ble_eq_true rfl) rfl
theorem dX6_swapped_7 : decode cX6_swapped 7 = .ok (.iload_n 0, 1) := op_26 kcX6_swapped (Nat.le_of_ble_eq_true rfl) rfl
theorem dX6_swapped_8 : decode cX6_swapped 8 = .ok (.iload_n 2, 1) := op_28 kcX6_swapped (Nat.le_of_ble_eq_true rfl) rfl
theorem dX6_swapped_9 : decode cX6_swapped 9 = .ok (.if_icmp .ne 7, 3) := op_160 (a := 0) (b := 7) kcX6_swapped (Nat.le_of_ble_eq_true rfl) rfl rfl rfl (by decide)
theorem dX6_swapped_12 : decode cX6_swapped 12 = .ok (.iload_n 1, 1) := op_27 kcX6_swapped (Nat.le_of_ble_eq_true rfl) rfl
theorem dX6_swapped_13 : decode cX6_swapped 13 = .ok (.goto 4, 3) := op_167 (a := 0) (b := 4) kcX6_swapped (Nat.le_of_ble_eq_true rfl) rfl rfl rfl (by decide)
theorem dX6_swapped_16 : decode cX6_swapped 16 = .ok (.iload_n 0, 1) := op_26 kcX6_swapped (Nat.le_of_ble_eq_true rfl) rfl
theorem dX6_swapped_17 : decode cX6_swapped 17 = .ok (.ireturn, 1) := op_172 kcX6_swapped (Nat.le_of_ble_eq_true rfl) rfl
theorem kcX6_lifted : (cX6_lifted).data.toList = cbs 0xac1a0400a760041a0900a21b1aac030500a01b1a 20 := by decide +kernel
theorem dX6_lifted_0 : decode cX6_lifted 0 = .ok (.iload_n 0, 1) := op_26 kcX6_lifted (Nat.le_of_ble_eq_true rfl) rfl
theorem dX6_lifted_1 : decode cX6_lifted 1 = .ok (.iload_n 1, 1) := op_27 kcX6_lifted (Nat.le_of_ble_eq_true rfl) rfl
theorem dX6_lifted_2 : decode cX6_lifted 2 = .ok (.if_icmp .ne 5, 3) := op_160 (a := 0) (b := 5) kcX6_lifted (Nat.le_of_ble_eq_true rfl) rfl rfl rfl (by decide)
theorem dX6_lifted_5 : decode cX6_lifted 5 = .ok (.iconst 0, 1) := op_3 kcX6_lifted (Nat.le_of_ble_eq_true rfl) rfl
theorem dX6_lifted_6 : decode cX6_lifted 6 = .ok (.ireturn, 1) := op_172 kcX6_lifted (Nat.le_of_ble_eq_true rfl) rfl
theorem dX6_lifted_7 : decode cX6_lifted 7 = .ok (.iload_n 0, 1) := op_26 kcX6_lifted (Nat.le_of_ble_eq_true rfl) rfl
theorem dX6_lifted_8 : decode cX6_lifted 8 = .ok (.iload_n 1, 1) := op_27 kcX6_lifted (Nat.le_of_ble_eq_true rfl) rfl
theorem dX6_lifted_9 : decode cX6_lifted 9 = .ok (.if_icmp .ge 9, 3) := op_162 (a := 0) (b := 9) kcX6_lifted (Nat.le_of_ble_eq_true rfl) rfl rfl rfl (by decide)
theorem dX6_lifted_12 : decode cX6_lifted 12 = .ok (.iload_n 0, 1) := op_26 kcX6_lifted (Nat.le_of_ble_eq_true rfl) rfl
theorem dX6_lifted_13 : decode cX6_lifted 13 = .ok (.iconst 1, 1) := op_4 kcX6_lifted (Nat.le_of_ble_eq_true rfl) rfl
theorem dX6_lifted_14 : decode cX6_lifted 14 = .ok (.iadd, 1) := op_96 kcX6_lifted (Nat.le_of_ble_eq_true rfl) rfl
theorem dX6_lifted_15 : decode cX6_lifted 15 = .ok (.goto 4, 3) := op_167 (a := 0) (b := 4) kcX6_lifted (Nat.le_of_ble_eq_true rfl) rfl rfl rfl (by decide)
theorem dX6_lifted_18 : decode cX6_lifted 18 = .ok (.iload_n 0, 1) := op_26 kcX6_lifted (Nat.le_of_ble_eq_true rfl) rfl
theorem dX6_lifted_19 : decode cX6_lifted 19 = .ok (.ireturn, 1) := op_172 kcX6_lifted (Nat.le_of_ble_eq_true rfl) rfl
theorem kcX6_inRing : (cX6_inRing).data.toList = cbs 0xac1ce8ffa70103843d640900b42a1c1000a10900b42a1c1800a207101d3e033d1b 33 := by decide +kernel
theorem dX6_inRing_0 : decode cX6_inRing 0 = .ok (.iload_n 1, 1) := op_27 kcX6_inRing (Nat.le_of_ble_eq_true rfl) rfl
theorem dX6_inRing_1 : decode cX6_inRing 1 = .ok (.istore_n 2, 1) := op_61 kcX6_inRing (Nat.le_of_ble_eq_true rfl) rfl
theorem dX6_inRing_2 : decode cX6_inRing 2 = .ok (.iconst 0, 1) := op_3 kcX6_inRing (Nat.le_of_ble_eq_true rfl) rfl
theorem dX6_inRing_3 : decode cX6_inRing 3 = .ok (.istore_n 3, 1) := op_62 kcX6_inRing (Nat.le_of_ble_eq_true rfl) rfl
theorem dX6_inRing_4 : decode cX6_inRing 4 = .ok (.iload_n 3, 1) := op_29 kcX6_inRing (Nat.le_of_ble_eq_true rfl) rfl
theorem dX6_inRing_5 : decode cX6_inRing 5 = .ok (.bipush 7, 2) := op_16 (a := 7) kcX6_inRing (Nat.le_of_ble_eq_true rfl) rfl rfl (by decide)
theorem dX6_inRing_7 : decode cX6_inRing 7 = .ok (.if_icmp .ge 24, 3) := op_162 (a := 0) (b := 24) kcX6_inRing (Nat.le_of_ble_eq_true rfl) rfl rfl rfl (by decide)
theorem dX6_inRing_10 : decode cX6_inRing 10 = .ok (.iload_n 2, 1) := op_28 kcX6_inRing (Nat.le_of_ble_eq_true rfl) rfl
theorem dX6_inRing_11 : decode cX6_inRing 11 = .ok (.aload_n 0, 1) := op_42 kcX6_inRing (Nat.le_of_ble_eq_true rfl) rfl
theorem dX6_inRing_12 : decode cX6_inRing 12 = .ok (.getfield 9, 3) := op_180 (a := 0) (b := 9) kcX6_inRing (Nat.le_of_ble_eq_true rfl) rfl rfl rfl
theorem dX6_inRing_15 : decode cX6_inRing 15 = .ok (.if_icmp .lt 16, 3) := op_161 (a := 0) (b := 16) kcX6_inRing (Nat.le_of_ble_eq_true rfl) rfl rfl rfl (by decide)
theorem dX6_inRing_18 : decode cX6_inRing 18 = .ok (.iload_n 2, 1) := op_28 kcX6_inRing (Nat.le_of_ble_eq_true rfl) rfl
theorem dX6_inRing_19 : decode cX6_inRing 19 = .ok (.aload_n 0, 1) := op_42 kcX6_inRing (Nat.le_of_ble_eq_true rfl) rfl
theorem dX6_inRing_20 : decode cX6_inRing 20 = .ok (.getfield 9, 3) := op_180 (a := 0) (b := 9) kcX6_inRing (Nat.le_of_ble_eq_true rfl) rfl rfl rfl
theorem dX6_inRing_23 : decode cX6_inRing 23 = .ok (.isub, 1) := op_100 kcX6_inRing (Nat.le_of_ble_eq_true rfl) rfl
theorem dX6_inRing_24 : decode cX6_inRing 24 = .ok (.istore_n 2, 1) := op_61 kcX6_inRing (Nat.le_of_ble_eq_true rfl) rfl
theorem dX6_inRing_25 : decode cX6_inRing 25 = .ok (.iinc 3 1, 3) := by decide +kernel
theorem dX6_inRing_28 : decode cX6_inRing 28 = .ok (.goto (-24), 3) := op_167 (a := 255) (b := 232) kcX6_inRing (Nat.le_of_ble_eq_true rfl) rfl rfl rfl (by decide)
theorem dX6_inRing_31 : decode cX6_inRing 31 = .ok (.iload_n 2, 1) := op_28 kcX6_inRing (Nat.le_of_ble_eq_true rfl) rfl
theorem dX6_inRing_32 : decode cX6_inRing 32 = .ok (.ireturn, 1) := op_172 kcX6_inRing (Nat.le_of_ble_eq_true rfl) rfl
theorem kcX6_placeAfter : (cX6_placeAfter).data.toList = cbs 0xac2e601c6807101b1f00b42a 12 := by decide +kernel
theorem dX6_placeAfter_0 : decode cX6_placeAfter 0 = .ok (.aload_n 0, 1) := op_42 kcX6_placeAfter (Nat.le_of_ble_eq_true rfl) rfl
theorem dX6_placeAfter_1 : decode cX6_placeAfter 1 = .ok (.getfield 31, 3) := op_180 (a := 0) (b := 31) kcX6_placeAfter (Nat.le_of_ble_eq_true rfl) rfl rfl rfl
theorem dX6_placeAfter_4 : decode cX6_placeAfter 4 = .ok (.iload_n 1, 1) := op_27 kcX6_placeAfter (Nat.le_of_ble_eq_true rfl) rfl
theorem dX6_placeAfter_5 : decode cX6_placeAfter 5 = .ok (.bipush 7, 2) := op_16 (a := 7) kcX6_placeAfter (Nat.le_of_ble_eq_true rfl) rfl rfl (by decide)
theorem dX6_placeAfter_7 : decode cX6_placeAfter 7 = .ok (.imul, 1) := op_104 kcX6_placeAfter (Nat.le_of_ble_eq_true rfl) rfl
theorem dX6_placeAfter_8 : decode cX6_placeAfter 8 = .ok (.iload_n 2, 1) := op_28 kcX6_placeAfter (Nat.le_of_ble_eq_true rfl) rfl
theorem dX6_placeAfter_9 : decode cX6_placeAfter 9 = .ok (.iadd, 1) := op_96 kcX6_placeAfter (Nat.le_of_ble_eq_true rfl) rfl
theorem dX6_placeAfter_10 : decode cX6_placeAfter 10 = .ok (.iaload, 1) := op_46 kcX6_placeAfter (Nat.le_of_ble_eq_true rfl) rfl
theorem dX6_placeAfter_11 : decode cX6_placeAfter 11 = .ok (.ireturn, 1) := op_172 kcX6_placeAfter (Nat.le_of_ble_eq_true rfl) rfl
set_option maxRecDepth 20000 in
theorem ggX6_stirInto_X6_placeAfter : GoodIn wsX6_stirInto wsX6_placeAfter := goodIn_r _ [6, 7, 8, 9, 10, 11, 12, 13, 14] rfl gw_wsX6_placeAfter
set_option maxRecDepth 20000 in
theorem gX6_stirInto_X6_placeAfter : GoodIn wsX6_stirInto (wsV RX6 61 RX6 yX6_placeAfter wsX6_placeAfter) := goodIn_app (goodIn_of _ (by decide +kernel)) ggX6_stirInto_X6_placeAfter
theorem kcX6_stirInto : (cX6_stirInto).data.toList = cbs 0xb1e7ffa70104844f2e04152c3d00b604151b2a2d1600a20900b42a0415043603 32 := by decide +kernel
theorem dX6_stirInto_0 : decode cX6_stirInto 0 = .ok (.iconst 0, 1) := op_3 kcX6_stirInto (Nat.le_of_ble_eq_true rfl) rfl
theorem dX6_stirInto_1 : decode cX6_stirInto 1 = .ok (.istore 4, 2) := op_54 (a := 4) kcX6_stirInto (Nat.le_of_ble_eq_true rfl) rfl rfl
theorem dX6_stirInto_3 : decode cX6_stirInto 3 = .ok (.iload 4, 2) := op_21 (a := 4) kcX6_stirInto (Nat.le_of_ble_eq_true rfl) rfl rfl
theorem dX6_stirInto_5 : decode cX6_stirInto 5 = .ok (.aload_n 0, 1) := op_42 kcX6_stirInto (Nat.le_of_ble_eq_true rfl) rfl
theorem dX6_stirInto_6 : decode cX6_stirInto 6 = .ok (.getfield 9, 3) := op_180 (a := 0) (b := 9) kcX6_stirInto (Nat.le_of_ble_eq_true rfl) rfl rfl rfl
theorem dX6_stirInto_9 : decode cX6_stirInto 9 = .ok (.if_icmp .ge 22, 3) := op_162 (a := 0) (b := 22) kcX6_stirInto (Nat.le_of_ble_eq_true rfl) rfl rfl rfl (by decide)
theorem dX6_stirInto_12 : decode cX6_stirInto 12 = .ok (.aload_n 3, 1) := op_45 kcX6_stirInto (Nat.le_of_ble_eq_true rfl) rfl
theorem dX6_stirInto_13 : decode cX6_stirInto 13 = .ok (.aload_n 0, 1) := op_42 kcX6_stirInto (Nat.le_of_ble_eq_true rfl) rfl
theorem dX6_stirInto_14 : decode cX6_stirInto 14 = .ok (.iload_n 1, 1) := op_27 kcX6_stirInto (Nat.le_of_ble_eq_true rfl) rfl
theorem dX6_stirInto_15 : decode cX6_stirInto 15 = .ok (.iload 4, 2) := op_21 (a := 4) kcX6_stirInto (Nat.le_of_ble_eq_true rfl) rfl rfl
theorem dX6_stirInto_17 : decode cX6_stirInto 17 = .ok (.invokevirtual 61, 3) := op_182 (a := 0) (b := 61) kcX6_stirInto (Nat.le_of_ble_eq_true rfl) rfl rfl rfl
theorem dX6_stirInto_20 : decode cX6_stirInto 20 = .ok (.aload_n 2, 1) := op_44 kcX6_stirInto (Nat.le_of_ble_eq_true rfl) rfl
theorem dX6_stirInto_21 : decode cX6_stirInto 21 = .ok (.iload 4, 2) := op_21 (a := 4) kcX6_stirInto (Nat.le_of_ble_eq_true rfl) rfl rfl
theorem dX6_stirInto_23 : decode cX6_stirInto 23 = .ok (.iaload, 1) := op_46 kcX6_stirInto (Nat.le_of_ble_eq_true rfl) rfl
theorem dX6_stirInto_24 : decode cX6_stirInto 24 = .ok (.iastore, 1) := op_79 kcX6_stirInto (Nat.le_of_ble_eq_true rfl) rfl
theorem dX6_stirInto_25 : decode cX6_stirInto 25 = .ok (.iinc 4 1, 3) := by decide +kernel
theorem dX6_stirInto_28 : decode cX6_stirInto 28 = .ok (.goto (-25), 3) := op_167 (a := 255) (b := 231) kcX6_stirInto (Nat.le_of_ble_eq_true rfl) rfl rfl rfl (by decide)
theorem dX6_stirInto_31 : decode cX6_stirInto 31 = .ok (.return_, 1) := op_177 kcX6_stirInto (Nat.le_of_ble_eq_true rfl) rfl
theorem kcX7_init : (cX7_init).data.toList = cbs 0xb11200b50abc28102a0f00b5032a0900b5fc102a0300b72a 24 := by decide +kernel
theorem dX7_init_0 : decode cX7_init 0 = .ok (.aload_n 0, 1) := op_42 kcX7_init (Nat.le_of_ble_eq_true rfl) rfl
theorem dX7_init_1 : decode cX7_init 1 = .ok (.invokespecial 3, 3) := op_183 (a := 0) (b := 3) kcX7_init (Nat.le_of_ble_eq_true rfl) rfl rfl rfl
theorem dX7_init_4 : decode cX7_init 4 = .ok (.aload_n 0, 1) := op_42 kcX7_init (Nat.le_of_ble_eq_true rfl) rfl
theorem dX7_init_5 : decode cX7_init 5 = .ok (.bipush (-4), 2) := op_16 (a := 252) kcX7_init (Nat.le_of_ble_eq_true rfl) rfl rfl (by decide)
theorem dX7_init_7 : decode cX7_init 7 = .ok (.putfield 9, 3) := op_181 (a := 0) (b := 9) kcX7_init (Nat.le_of_ble_eq_true rfl) rfl rfl rfl
theorem dX7_init_10 : decode cX7_init 10 = .ok (.aload_n 0, 1) := op_42 kcX7_init (Nat.le_of_ble_eq_true rfl) rfl
theorem dX7_init_11 : decode cX7_init 11 = .ok (.iconst 0, 1) := op_3 kcX7_init (Nat.le_of_ble_eq_true rfl) rfl
theorem dX7_init_12 : decode cX7_init 12 = .ok (.putfield 15, 3) := op_181 (a := 0) (b := 15) kcX7_init (Nat.le_of_ble_eq_true rfl) rfl rfl rfl
theorem dX7_init_15 : decode cX7_init 15 = .ok (.aload_n 0, 1) := op_42 kcX7_init (Nat.le_of_ble_eq_true rfl) rfl
theorem dX7_init_16 : decode cX7_init 16 = .ok (.bipush 40, 2) := op_16 (a := 40) kcX7_init (Nat.le_of_ble_eq_true rfl) rfl rfl (by decide)
theorem dX7_init_18 : decode cX7_init 18 = .ok (.newarray .int, 2) := by decide +kernel
theorem dX7_init_20 : decode cX7_init 20 = .ok (.putfield 18, 3) := op_181 (a := 0) (b := 18) kcX7_init (Nat.le_of_ble_eq_true rfl) rfl rfl rfl
theorem dX7_init_23 : decode cX7_init 23 = .ok (.return_, 1) := op_177 kcX7_init (Nat.le_of_ble_eq_true rfl) rfl
theorem kcX7_isNothing : (cX7_isNothing).data.toList = cbs 0xac030400a7040700a0fc100900b42a 15 := by decide +kernel
theorem dX7_isNothing_0 : decode cX7_isNothing 0 = .ok (.aload_n 0, 1) := op_42 kcX7_isNothing (Nat.le_of_ble_eq_true rfl) rfl
theorem dX7_isNothing_1 : decode cX7_isNothing 1 = .ok (.getfield 9, 3) := op_180 (a := 0) (b := 9) kcX7_isNothing (Nat.le_of_ble_eq_true rfl) rfl rfl rfl
theorem dX7_isNothing_4 : decode cX7_isNothing 4 = .ok (.bipush (-4), 2) := op_16 (a := 252) kcX7_isNothing (Nat.le_of_ble_eq_true rfl) rfl rfl (by decide)
theorem dX7_isNothing_6 : decode cX7_isNothing 6 = .ok (.if_icmp .ne 7, 3) := op_160 (a := 0) (b := 7) kcX7_isNothing (Nat.le_of_ble_eq_true rfl) rfl rfl rfl (by decide)
theorem dX7_isNothing_9 : decode cX7_isNothing 9 = .ok (.iconst 1, 1) := op_4 kcX7_isNothing (Nat.le_of_ble_eq_true rfl) rfl
theorem dX7_isNothing_10 : decode cX7_isNothing 10 = .ok (.goto 4, 3) := op_167 (a := 0) (b := 4) kcX7_isNothing (Nat.le_of_ble_eq_true rfl) rfl rfl rfl (by decide)
theorem dX7_isNothing_13 : decode cX7_isNothing 13 = .ok (.iconst 0, 1) := op_3 kcX7_isNothing (Nat.le_of_ble_eq_true rfl) rfl
theorem dX7_isNothing_14 : decode cX7_isNothing 14 = .ok (.ireturn, 1) := op_172 kcX7_isNothing (Nat.le_of_ble_eq_true rfl) rfl
set_option maxRecDepth 20000 in
theorem ggX7_renew_J7_fill_53178 : GoodIn wsX7_renew wsJ7_fill_53178 := goodIn_r _ [7] rfl gw_wsJ7_fill_53178
set_option maxRecDepth 20000 in
theorem gX7_renew_J7_fill_53178 : GoodIn wsX7_renew (va_wsS RX7 22 yJ7_fill_53178 wsJ7_fill_53178) := goodIn_app (goodIn_of _ (by decide +kernel)) ggX7_renew_J7_fill_53178
theorem kcX7_renew : (cX7_renew).data.toList = cbs 0xb11600b8031200b42a0f00b51c2a0900b51b2a 19 := by decide +kernel
theorem dX7_renew_0 : decode cX7_renew 0 = .ok (.aload_n 0, 1) := op_42 kcX7_renew (Nat.le_of_ble_eq_true rfl) rfl
theorem dX7_renew_1 : decode cX7_renew 1 = .ok (.iload_n 1, 1) := op_27 kcX7_renew (Nat.le_of_ble_eq_true rfl) rfl
theorem dX7_renew_2 : decode cX7_renew 2 = .ok (.putfield 9, 3) := op_181 (a := 0) (b := 9) kcX7_renew (Nat.le_of_ble_eq_true rfl) rfl rfl rfl
theorem dX7_renew_5 : decode cX7_renew 5 = .ok (.aload_n 0, 1) := op_42 kcX7_renew (Nat.le_of_ble_eq_true rfl) rfl
theorem dX7_renew_6 : decode cX7_renew 6 = .ok (.iload_n 2, 1) := op_28 kcX7_renew (Nat.le_of_ble_eq_true rfl) rfl
theorem dX7_renew_7 : decode cX7_renew 7 = .ok (.putfield 15, 3) := op_181 (a := 0) (b := 15) kcX7_renew (Nat.le_of_ble_eq_true rfl) rfl rfl rfl
theorem dX7_renew_10 : decode cX7_renew 10 = .ok (.aload_n 0, 1) := op_42 kcX7_renew (Nat.le_of_ble_eq_true rfl) rfl
theorem dX7_renew_11 : decode cX7_renew 11 = .ok (.getfield 18, 3) := op_180 (a := 0) (b := 18) kcX7_renew (Nat.le_of_ble_eq_true rfl) rfl rfl rfl
theorem dX7_renew_14 : decode cX7_renew 14 = .ok (.iconst 0, 1) := op_3 kcX7_renew (Nat.le_of_ble_eq_true rfl) rfl
theorem dX7_renew_15 : decode cX7_renew 15 = .ok (.invokestatic 22, 3) := op_184 (a := 0) (b := 22) kcX7_renew (Nat.le_of_ble_eq_true rfl) rfl rfl rfl
theorem dX7_renew_18 : decode cX7_renew 18 = .ok (.return_, 1) := op_177 kcX7_renew (Nat.le_of_ble_eq_true rfl) rfl
set_option maxRecDepth 20000 in
theorem gw_wsX7_isNothing : (wsX7_isNothing).all goodWord = true := by decide +kernel
set_option maxRecDepth 20000 in
theorem ggX7_faultAt_X7_isNothing : GoodIn wsX7_faultAt wsX7_isNothing := goodIn_r _ [7, 1, 8, 9, 10] rfl gw_wsX7_isNothing
set_option maxRecDepth 20000 in
theorem gX7_faultAt_X7_isNothing : GoodIn wsX7_faultAt (wsV RX7 28 RX7 yX7_isNothing wsX7_isNothing) := goodIn_app (goodIn_of _ (by decide +kernel)) ggX7_faultAt_X7_isNothing
theorem kcX7_faultAt : (cX7_faultAt).data.toList = cbs 0xac030400a7050700a10f00b42a1c0b009b1cac0605009f0900b42a1bac040500991c00b62a 37 := by decide +kernel
theorem dX7_faultAt_0 : decode cX7_faultAt 0 = .ok (.aload_n 0, 1) := op_42 kcX7_faultAt (Nat.le_of_ble_eq_true rfl) rfl
theorem dX7_faultAt_1 : decode cX7_faultAt 1 = .ok (.invokevirtual 28, 3) := op_182 (a := 0) (b := 28) kcX7_faultAt (Nat.le_of_ble_eq_true rfl) rfl rfl rfl
theorem dX7_faultAt_4 : decode cX7_faultAt 4 = .ok (.ifCond .eq 5, 3) := op_153 (a := 0) (b := 5) kcX7_faultAt (Nat.le_of_ble_eq_true rfl) rfl rfl rfl (by decide)
theorem dX7_faultAt_7 : decode cX7_faultAt 7 = .ok (.iconst 1, 1) := op_4 kcX7_faultAt (Nat.le_of_ble_eq_true rfl) rfl
theorem dX7_faultAt_8 : decode cX7_faultAt 8 = .ok (.ireturn, 1) := op_172 kcX7_faultAt (Nat.le_of_ble_eq_true rfl) rfl
theorem dX7_faultAt_9 : decode cX7_faultAt 9 = .ok (.iload_n 1, 1) := op_27 kcX7_faultAt (Nat.le_of_ble_eq_true rfl) rfl
theorem dX7_faultAt_10 : decode cX7_faultAt 10 = .ok (.aload_n 0, 1) := op_42 kcX7_faultAt (Nat.le_of_ble_eq_true rfl) rfl
theorem dX7_faultAt_11 : decode cX7_faultAt 11 = .ok (.getfield 9, 3) := op_180 (a := 0) (b := 9) kcX7_faultAt (Nat.le_of_ble_eq_true rfl) rfl rfl rfl
theorem dX7_faultAt_14 : decode cX7_faultAt 14 = .ok (.if_icmp .eq 5, 3) := op_159 (a := 0) (b := 5) kcX7_faultAt (Nat.le_of_ble_eq_true rfl) rfl rfl rfl (by decide)
theorem dX7_faultAt_17 : decode cX7_faultAt 17 = .ok (.iconst 3, 1) := op_6 kcX7_faultAt (Nat.le_of_ble_eq_true rfl) rfl
theorem dX7_faultAt_18 : decode cX7_faultAt 18 = .ok (.ireturn, 1) := op_172 kcX7_faultAt (Nat.le_of_ble_eq_true rfl) rfl
theorem dX7_faultAt_19 : decode cX7_faultAt 19 = .ok (.iload_n 2, 1) := op_28 kcX7_faultAt (Nat.le_of_ble_eq_true rfl) rfl
theorem dX7_faultAt_20 : decode cX7_faultAt 20 = .ok (.ifCond .lt 11, 3) := op_155 (a := 0) (b := 11) kcX7_faultAt (Nat.le_of_ble_eq_true rfl) rfl rfl rfl (by decide)
theorem dX7_faultAt_23 : decode cX7_faultAt 23 = .ok (.iload_n 2, 1) := op_28 kcX7_faultAt (Nat.le_of_ble_eq_true rfl) rfl
theorem dX7_faultAt_24 : decode cX7_faultAt 24 = .ok (.aload_n 0, 1) := op_42 kcX7_faultAt (Nat.le_of_ble_eq_true rfl) rfl
theorem dX7_faultAt_25 : decode cX7_faultAt 25 = .ok (.getfield 15, 3) := op_180 (a := 0) (b := 15) kcX7_faultAt (Nat.le_of_ble_eq_true rfl) rfl rfl rfl
theorem dX7_faultAt_28 : decode cX7_faultAt 28 = .ok (.if_icmp .lt 7, 3) := op_161 (a := 0) (b := 7) kcX7_faultAt (Nat.le_of_ble_eq_true rfl) rfl rfl rfl (by decide)
theorem dX7_faultAt_31 : decode cX7_faultAt 31 = .ok (.iconst 2, 1) := op_5 kcX7_faultAt (Nat.le_of_ble_eq_true rfl) rfl
theorem dX7_faultAt_32 : decode cX7_faultAt 32 = .ok (.goto 4, 3) := op_167 (a := 0) (b := 4) kcX7_faultAt (Nat.le_of_ble_eq_true rfl) rfl rfl rfl (by decide)
theorem dX7_faultAt_35 : decode cX7_faultAt 35 = .ok (.iconst 0, 1) := op_3 kcX7_faultAt (Nat.le_of_ble_eq_true rfl) rfl
theorem dX7_faultAt_36 : decode cX7_faultAt 36 = .ok (.ireturn, 1) := op_172 kcX7_faultAt (Nat.le_of_ble_eq_true rfl) rfl
theorem kcX7_put : (cX7_put).data.toList = cbs 0xb14f1c1b1200b42a0a00a74f931c1b1200b42a1500a74f911c1b1200b42a27000000010000001c000000000000000200000032000000000000ab0900b42a 62 := by decide +kernel
theorem dX7_put_0 : decode cX7_put 0 = .ok (.aload_n 0, 1) := op_42 kcX7_put (Nat.le_of_ble_eq_true rfl) rfl
theorem dX7_put_1 : decode cX7_put 1 = .ok (.getfield 9, 3) := op_180 (a := 0) (b := 9) kcX7_put (Nat.le_of_ble_eq_true rfl) rfl rfl rfl
theorem dX7_put_4 : decode cX7_put 4 = .ok (.lookupswitch 50 #[(0, 28), (1, 39)], 28) := by decide +kernel
theorem dX7_put_32 : decode cX7_put 32 = .ok (.aload_n 0, 1) := op_42 kcX7_put (Nat.le_of_ble_eq_true rfl) rfl
theorem dX7_put_33 : decode cX7_put 33 = .ok (.getfield 18, 3) := op_180 (a := 0) (b := 18) kcX7_put (Nat.le_of_ble_eq_true rfl) rfl rfl rfl
theorem dX7_put_36 : decode cX7_put 36 = .ok (.iload_n 1, 1) := op_27 kcX7_put (Nat.le_of_ble_eq_true rfl) rfl
theorem dX7_put_37 : decode cX7_put 37 = .ok (.iload_n 2, 1) := op_28 kcX7_put (Nat.le_of_ble_eq_true rfl) rfl
theorem dX7_put_38 : decode cX7_put 38 = .ok (.i2b, 1) := op_145 kcX7_put (Nat.le_of_ble_eq_true rfl) rfl
theorem dX7_put_39 : decode cX7_put 39 = .ok (.iastore, 1) := op_79 kcX7_put (Nat.le_of_ble_eq_true rfl) rfl
theorem dX7_put_40 : decode cX7_put 40 = .ok (.goto 21, 3) := op_167 (a := 0) (b := 21) kcX7_put (Nat.le_of_ble_eq_true rfl) rfl rfl rfl (by decide)
theorem dX7_put_43 : decode cX7_put 43 = .ok (.aload_n 0, 1) := op_42 kcX7_put (Nat.le_of_ble_eq_true rfl) rfl
theorem dX7_put_44 : decode cX7_put 44 = .ok (.getfield 18, 3) := op_180 (a := 0) (b := 18) kcX7_put (Nat.le_of_ble_eq_true rfl) rfl rfl rfl
theorem dX7_put_47 : decode cX7_put 47 = .ok (.iload_n 1, 1) := op_27 kcX7_put (Nat.le_of_ble_eq_true rfl) rfl
theorem dX7_put_48 : decode cX7_put 48 = .ok (.iload_n 2, 1) := op_28 kcX7_put (Nat.le_of_ble_eq_true rfl) rfl
theorem dX7_put_49 : decode cX7_put 49 = .ok (.i2s, 1) := op_147 kcX7_put (Nat.le_of_ble_eq_true rfl) rfl
theorem dX7_put_50 : decode cX7_put 50 = .ok (.iastore, 1) := op_79 kcX7_put (Nat.le_of_ble_eq_true rfl) rfl
theorem dX7_put_51 : decode cX7_put 51 = .ok (.goto 10, 3) := op_167 (a := 0) (b := 10) kcX7_put (Nat.le_of_ble_eq_true rfl) rfl rfl rfl (by decide)
theorem dX7_put_54 : decode cX7_put 54 = .ok (.aload_n 0, 1) := op_42 kcX7_put (Nat.le_of_ble_eq_true rfl) rfl
theorem dX7_put_55 : decode cX7_put 55 = .ok (.getfield 18, 3) := op_180 (a := 0) (b := 18) kcX7_put (Nat.le_of_ble_eq_true rfl) rfl rfl rfl
theorem dX7_put_58 : decode cX7_put 58 = .ok (.iload_n 1, 1) := op_27 kcX7_put (Nat.le_of_ble_eq_true rfl) rfl
theorem dX7_put_59 : decode cX7_put 59 = .ok (.iload_n 2, 1) := op_28 kcX7_put (Nat.le_of_ble_eq_true rfl) rfl
theorem dX7_put_60 : decode cX7_put 60 = .ok (.iastore, 1) := op_79 kcX7_put (Nat.le_of_ble_eq_true rfl) rfl
theorem dX7_put_61 : decode cX7_put 61 = .ok (.return_, 1) := op_177 kcX7_put (Nat.le_of_ble_eq_true rfl) rfl
set_option maxRecDepth 20000 in
theorem ggX8_init_J7_fill_53178 : GoodIn wsX8_init wsJ7_fill_53178 := goodIn_r _ [17] rfl gw_wsJ7_fill_53178
set_option maxRecDepth 20000 in
theorem gX8_init_J7_fill_53178 : GoodIn wsX8_init (va_wsS RX8 40 yJ7_fill_53178 wsJ7_fill_53178) := goodIn_app (goodIn_of _ (by decide +kernel)) ggX8_init_J7_fill_53178
theorem kcX8_init : (cX8_init).data.toList = cbs 0xb12800b8041200b42a2500b5032a2200b5032a1f00b5032a1b00b5032a1800b50abc06102a1500b50abc07102a1200b50abc07102a0f00b50abc07102a0900b50abc07102a0300b72a 73 := by decide +kernel
theorem dX8_init_0 : decode cX8_init 0 = .ok (.aload_n 0, 1) := op_42 kcX8_init (Nat.le_of_ble_eq_true rfl) rfl
theorem dX8_init_1 : decode cX8_init 1 = .ok (.invokespecial 3, 3) := op_183 (a := 0) (b := 3) kcX8_init (Nat.le_of_ble_eq_true rfl) rfl rfl rfl
theorem dX8_init_4 : decode cX8_init 4 = .ok (.aload_n 0, 1) := op_42 kcX8_init (Nat.le_of_ble_eq_true rfl) rfl
theorem dX8_init_5 : decode cX8_init 5 = .ok (.bipush 7, 2) := op_16 (a := 7) kcX8_init (Nat.le_of_ble_eq_true rfl) rfl rfl (by decide)
theorem dX8_init_7 : decode cX8_init 7 = .ok (.newarray .int, 2) := by decide +kernel
theorem dX8_init_9 : decode cX8_init 9 = .ok (.putfield 9, 3) := op_181 (a := 0) (b := 9) kcX8_init (Nat.le_of_ble_eq_true rfl) rfl rfl rfl
theorem dX8_init_12 : decode cX8_init 12 = .ok (.aload_n 0, 1) := op_42 kcX8_init (Nat.le_of_ble_eq_true rfl) rfl
theorem dX8_init_13 : decode cX8_init 13 = .ok (.bipush 7, 2) := op_16 (a := 7) kcX8_init (Nat.le_of_ble_eq_true rfl) rfl rfl (by decide)
theorem dX8_init_15 : decode cX8_init 15 = .ok (.newarray .int, 2) := by decide +kernel
theorem dX8_init_17 : decode cX8_init 17 = .ok (.putfield 15, 3) := op_181 (a := 0) (b := 15) kcX8_init (Nat.le_of_ble_eq_true rfl) rfl rfl rfl
theorem dX8_init_20 : decode cX8_init 20 = .ok (.aload_n 0, 1) := op_42 kcX8_init (Nat.le_of_ble_eq_true rfl) rfl
theorem dX8_init_21 : decode cX8_init 21 = .ok (.bipush 7, 2) := op_16 (a := 7) kcX8_init (Nat.le_of_ble_eq_true rfl) rfl rfl (by decide)
theorem dX8_init_23 : decode cX8_init 23 = .ok (.newarray .int, 2) := by decide +kernel
theorem dX8_init_25 : decode cX8_init 25 = .ok (.putfield 18, 3) := op_181 (a := 0) (b := 18) kcX8_init (Nat.le_of_ble_eq_true rfl) rfl rfl rfl
theorem dX8_init_28 : decode cX8_init 28 = .ok (.aload_n 0, 1) := op_42 kcX8_init (Nat.le_of_ble_eq_true rfl) rfl
theorem dX8_init_29 : decode cX8_init 29 = .ok (.bipush 7, 2) := op_16 (a := 7) kcX8_init (Nat.le_of_ble_eq_true rfl) rfl rfl (by decide)
theorem dX8_init_31 : decode cX8_init 31 = .ok (.newarray .int, 2) := by decide +kernel
theorem dX8_init_33 : decode cX8_init 33 = .ok (.putfield 21, 3) := op_181 (a := 0) (b := 21) kcX8_init (Nat.le_of_ble_eq_true rfl) rfl rfl rfl
theorem dX8_init_36 : decode cX8_init 36 = .ok (.aload_n 0, 1) := op_42 kcX8_init (Nat.le_of_ble_eq_true rfl) rfl
theorem dX8_init_37 : decode cX8_init 37 = .ok (.bipush 6, 2) := op_16 (a := 6) kcX8_init (Nat.le_of_ble_eq_true rfl) rfl rfl (by decide)
theorem dX8_init_39 : decode cX8_init 39 = .ok (.newarray .int, 2) := by decide +kernel
theorem dX8_init_41 : decode cX8_init 41 = .ok (.putfield 24, 3) := op_181 (a := 0) (b := 24) kcX8_init (Nat.le_of_ble_eq_true rfl) rfl rfl rfl
theorem dX8_init_44 : decode cX8_init 44 = .ok (.aload_n 0, 1) := op_42 kcX8_init (Nat.le_of_ble_eq_true rfl) rfl
theorem dX8_init_45 : decode cX8_init 45 = .ok (.iconst 0, 1) := op_3 kcX8_init (Nat.le_of_ble_eq_true rfl) rfl
theorem dX8_init_46 : decode cX8_init 46 = .ok (.putfield 27, 3) := op_181 (a := 0) (b := 27) kcX8_init (Nat.le_of_ble_eq_true rfl) rfl rfl rfl
theorem dX8_init_49 : decode cX8_init 49 = .ok (.aload_n 0, 1) := op_42 kcX8_init (Nat.le_of_ble_eq_true rfl) rfl
theorem dX8_init_50 : decode cX8_init 50 = .ok (.iconst 0, 1) := op_3 kcX8_init (Nat.le_of_ble_eq_true rfl) rfl
theorem dX8_init_51 : decode cX8_init 51 = .ok (.putfield 31, 3) := op_181 (a := 0) (b := 31) kcX8_init (Nat.le_of_ble_eq_true rfl) rfl rfl rfl
theorem dX8_init_54 : decode cX8_init 54 = .ok (.aload_n 0, 1) := op_42 kcX8_init (Nat.le_of_ble_eq_true rfl) rfl
theorem dX8_init_55 : decode cX8_init 55 = .ok (.iconst 0, 1) := op_3 kcX8_init (Nat.le_of_ble_eq_true rfl) rfl
theorem dX8_init_56 : decode cX8_init 56 = .ok (.putfield 34, 3) := op_181 (a := 0) (b := 34) kcX8_init (Nat.le_of_ble_eq_true rfl) rfl rfl rfl
theorem dX8_init_59 : decode cX8_init 59 = .ok (.aload_n 0, 1) := op_42 kcX8_init (Nat.le_of_ble_eq_true rfl) rfl
theorem dX8_init_60 : decode cX8_init 60 = .ok (.iconst 0, 1) := op_3 kcX8_init (Nat.le_of_ble_eq_true rfl) rfl
theorem dX8_init_61 : decode cX8_init 61 = .ok (.putfield 37, 3) := op_181 (a := 0) (b := 37) kcX8_init (Nat.le_of_ble_eq_true rfl) rfl rfl rfl
theorem dX8_init_64 : decode cX8_init 64 = .ok (.aload_n 0, 1) := op_42 kcX8_init (Nat.le_of_ble_eq_true rfl) rfl
theorem dX8_init_65 : decode cX8_init 65 = .ok (.getfield 18, 3) := op_180 (a := 0) (b := 18) kcX8_init (Nat.le_of_ble_eq_true rfl) rfl rfl rfl
theorem dX8_init_68 : decode cX8_init 68 = .ok (.iconst 1, 1) := op_4 kcX8_init (Nat.le_of_ble_eq_true rfl) rfl
theorem dX8_init_69 : decode cX8_init 69 = .ok (.invokestatic 40, 3) := op_184 (a := 0) (b := 40) kcX8_init (Nat.le_of_ble_eq_true rfl) rfl rfl rfl
theorem dX8_init_72 : decode cX8_init 72 = .ok (.return_, 1) := op_177 kcX8_init (Nat.le_of_ble_eq_true rfl) rfl
set_option maxRecDepth 20000 in
theorem ggX8_reset_J7_fill_53178 : GoodIn wsX8_reset wsJ7_fill_53178 := goodIn_r _ [12] rfl gw_wsJ7_fill_53178
set_option maxRecDepth 20000 in
theorem gX8_reset_J7_fill_53178 : GoodIn wsX8_reset (va_wsS RX8 40 yJ7_fill_53178 wsJ7_fill_53178) := goodIn_app (goodIn_of _ (by decide +kernel)) ggX8_reset_J7_fill_53178
theorem kcX8_reset : (cX8_reset).data.toList = cbs 0xb12500b5032a2200b5032a1f00b5032a1b00b5032a2800b8031500b42a2800b8041200b42a2800b8030f00b42a2800b8030900b42a 53 := by decide +kernel
theorem dX8_reset_0 : decode cX8_reset 0 = .ok (.aload_n 0, 1) := op_42 kcX8_reset (Nat.le_of_ble_eq_true rfl) rfl
theorem dX8_reset_1 : decode cX8_reset 1 = .ok (.getfield 9, 3) := op_180 (a := 0) (b := 9) kcX8_reset (Nat.le_of_ble_eq_true rfl) rfl rfl rfl
theorem dX8_reset_4 : decode cX8_reset 4 = .ok (.iconst 0, 1) := op_3 kcX8_reset (Nat.le_of_ble_eq_true rfl) rfl
theorem dX8_reset_5 : decode cX8_reset 5 = .ok (.invokestatic 40, 3) := op_184 (a := 0) (b := 40) kcX8_reset (Nat.le_of_ble_eq_true rfl) rfl rfl rfl
theorem dX8_reset_8 : decode cX8_reset 8 = .ok (.aload_n 0, 1) := op_42 kcX8_reset (Nat.le_of_ble_eq_true rfl) rfl
theorem dX8_reset_9 : decode cX8_reset 9 = .ok (.getfield 15, 3) := op_180 (a := 0) (b := 15) kcX8_reset (Nat.le_of_ble_eq_true rfl) rfl rfl rfl
theorem dX8_reset_12 : decode cX8_reset 12 = .ok (.iconst 0, 1) := op_3 kcX8_reset (Nat.le_of_ble_eq_true rfl) rfl
theorem dX8_reset_13 : decode cX8_reset 13 = .ok (.invokestatic 40, 3) := op_184 (a := 0) (b := 40) kcX8_reset (Nat.le_of_ble_eq_true rfl) rfl rfl rfl
theorem dX8_reset_16 : decode cX8_reset 16 = .ok (.aload_n 0, 1) := op_42 kcX8_reset (Nat.le_of_ble_eq_true rfl) rfl
theorem dX8_reset_17 : decode cX8_reset 17 = .ok (.getfield 18, 3) := op_180 (a := 0) (b := 18) kcX8_reset (Nat.le_of_ble_eq_true rfl) rfl rfl rfl
theorem dX8_reset_20 : decode cX8_reset 20 = .ok (.iconst 1, 1) := op_4 kcX8_reset (Nat.le_of_ble_eq_true rfl) rfl
theorem dX8_reset_21 : decode cX8_reset 21 = .ok (.invokestatic 40, 3) := op_184 (a := 0) (b := 40) kcX8_reset (Nat.le_of_ble_eq_true rfl) rfl rfl rfl
theorem dX8_reset_24 : decode cX8_reset 24 = .ok (.aload_n 0, 1) := op_42 kcX8_reset (Nat.le_of_ble_eq_true rfl) rfl
theorem dX8_reset_25 : decode cX8_reset 25 = .ok (.getfield 21, 3) := op_180 (a := 0) (b := 21) kcX8_reset (Nat.le_of_ble_eq_true rfl) rfl rfl rfl
theorem dX8_reset_28 : decode cX8_reset 28 = .ok (.iconst 0, 1) := op_3 kcX8_reset (Nat.le_of_ble_eq_true rfl) rfl
theorem dX8_reset_29 : decode cX8_reset 29 = .ok (.invokestatic 40, 3) := op_184 (a := 0) (b := 40) kcX8_reset (Nat.le_of_ble_eq_true rfl) rfl rfl rfl
theorem dX8_reset_32 : decode cX8_reset 32 = .ok (.aload_n 0, 1) := op_42 kcX8_reset (Nat.le_of_ble_eq_true rfl) rfl
theorem dX8_reset_33 : decode cX8_reset 33 = .ok (.iconst 0, 1) := op_3 kcX8_reset (Nat.le_of_ble_eq_true rfl) rfl
theorem dX8_reset_34 : decode cX8_reset 34 = .ok (.putfield 27, 3) := op_181 (a := 0) (b := 27) kcX8_reset (Nat.le_of_ble_eq_true rfl) rfl rfl rfl
theorem dX8_reset_37 : decode cX8_reset 37 = .ok (.aload_n 0, 1) := op_42 kcX8_reset (Nat.le_of_ble_eq_true rfl) rfl
theorem dX8_reset_38 : decode cX8_reset 38 = .ok (.iconst 0, 1) := op_3 kcX8_reset (Nat.le_of_ble_eq_true rfl) rfl
theorem dX8_reset_39 : decode cX8_reset 39 = .ok (.putfield 31, 3) := op_181 (a := 0) (b := 31) kcX8_reset (Nat.le_of_ble_eq_true rfl) rfl rfl rfl
theorem dX8_reset_42 : decode cX8_reset 42 = .ok (.aload_n 0, 1) := op_42 kcX8_reset (Nat.le_of_ble_eq_true rfl) rfl
theorem dX8_reset_43 : decode cX8_reset 43 = .ok (.iconst 0, 1) := op_3 kcX8_reset (Nat.le_of_ble_eq_true rfl) rfl
theorem dX8_reset_44 : decode cX8_reset 44 = .ok (.putfield 34, 3) := op_181 (a := 0) (b := 34) kcX8_reset (Nat.le_of_ble_eq_true rfl) rfl rfl rfl
theorem dX8_reset_47 : decode cX8_reset 47 = .ok (.aload_n 0, 1) := op_42 kcX8_reset (Nat.le_of_ble_eq_true rfl) rfl
theorem dX8_reset_48 : decode cX8_reset 48 = .ok (.iconst 0, 1) := op_3 kcX8_reset (Nat.le_of_ble_eq_true rfl) rfl
theorem dX8_reset_49 : decode cX8_reset 49 = .ok (.putfield 37, 3) := op_181 (a := 0) (b := 37) kcX8_reset (Nat.le_of_ble_eq_true rfl) rfl rfl rfl
theorem dX8_reset_52 : decode cX8_reset 52 = .ok (.return_, 1) := op_177 kcX8_reset (Nat.le_of_ble_eq_true rfl) rfl
theorem kcX8_copy : (cX8_copy).data.toList = cbs 0xb12500b52500b42b2a2200b52200b42b2a1f00b51f00b42b2a1b00b51b00b42b2a2e00b80610031800b42a031800b42b2e00b80710031500b42a031500b42b2e00b80710031200b42a031200b42b2e00b80710030f00b42a030f00b42b2e00b80710030900b42a030900b42b 108 := by decide +kernel
theorem dX8_copy_0 : decode cX8_copy 0 = .ok (.aload_n 1, 1) := op_43 kcX8_copy (Nat.le_of_ble_eq_true rfl) rfl
theorem dX8_copy_1 : decode cX8_copy 1 = .ok (.getfield 9, 3) := op_180 (a := 0) (b := 9) kcX8_copy (Nat.le_of_ble_eq_true rfl) rfl rfl rfl
theorem dX8_copy_4 : decode cX8_copy 4 = .ok (.iconst 0, 1) := op_3 kcX8_copy (Nat.le_of_ble_eq_true rfl) rfl
theorem dX8_copy_5 : decode cX8_copy 5 = .ok (.aload_n 0, 1) := op_42 kcX8_copy (Nat.le_of_ble_eq_true rfl) rfl
theorem dX8_copy_6 : decode cX8_copy 6 = .ok (.getfield 9, 3) := op_180 (a := 0) (b := 9) kcX8_copy (Nat.le_of_ble_eq_true rfl) rfl rfl rfl
theorem dX8_copy_9 : decode cX8_copy 9 = .ok (.iconst 0, 1) := op_3 kcX8_copy (Nat.le_of_ble_eq_true rfl) rfl
theorem dX8_copy_10 : decode cX8_copy 10 = .ok (.bipush 7, 2) := op_16 (a := 7) kcX8_copy (Nat.le_of_ble_eq_true rfl) rfl rfl (by decide)
theorem dX8_copy_12 : decode cX8_copy 12 = .ok (.invokestatic 46, 3) := op_184 (a := 0) (b := 46) kcX8_copy (Nat.le_of_ble_eq_true rfl) rfl rfl rfl
theorem dX8_copy_15 : decode cX8_copy 15 = .ok (.aload_n 1, 1) := op_43 kcX8_copy (Nat.le_of_ble_eq_true rfl) rfl
theorem dX8_copy_16 : decode cX8_copy 16 = .ok (.getfield 15, 3) := op_180 (a := 0) (b := 15) kcX8_copy (Nat.le_of_ble_eq_true rfl) rfl rfl rfl
theorem dX8_copy_19 : decode cX8_copy 19 = .ok (.iconst 0, 1) := op_3 kcX8_copy (Nat.le_of_ble_eq_true rfl) rfl
theorem dX8_copy_20 : decode cX8_copy 20 = .ok (.aload_n 0, 1) := op_42 kcX8_copy (Nat.le_of_ble_eq_true rfl) rfl
theorem dX8_copy_21 : decode cX8_copy 21 = .ok (.getfield 15, 3) := op_180 (a := 0) (b := 15) kcX8_copy (Nat.le_of_ble_eq_true rfl) rfl rfl rfl
theorem dX8_copy_24 : decode cX8_copy 24 = .ok (.iconst 0, 1) := op_3 kcX8_copy (Nat.le_of_ble_eq_true rfl) rfl
theorem dX8_copy_25 : decode cX8_copy 25 = .ok (.bipush 7, 2) := op_16 (a := 7) kcX8_copy (Nat.le_of_ble_eq_true rfl) rfl rfl (by decide)
theorem dX8_copy_27 : decode cX8_copy 27 = .ok (.invokestatic 46, 3) := op_184 (a := 0) (b := 46) kcX8_copy (Nat.le_of_ble_eq_true rfl) rfl rfl rfl
theorem dX8_copy_30 : decode cX8_copy 30 = .ok (.aload_n 1, 1) := op_43 kcX8_copy (Nat.le_of_ble_eq_true rfl) rfl
theorem dX8_copy_31 : decode cX8_copy 31 = .ok (.getfield 18, 3) := op_180 (a := 0) (b := 18) kcX8_copy (Nat.le_of_ble_eq_true rfl) rfl rfl rfl
theorem dX8_copy_34 : decode cX8_copy 34 = .ok (.iconst 0, 1) := op_3 kcX8_copy (Nat.le_of_ble_eq_true rfl) rfl
theorem dX8_copy_35 : decode cX8_copy 35 = .ok (.aload_n 0, 1) := op_42 kcX8_copy (Nat.le_of_ble_eq_true rfl) rfl
theorem dX8_copy_36 : decode cX8_copy 36 = .ok (.getfield 18, 3) := op_180 (a := 0) (b := 18) kcX8_copy (Nat.le_of_ble_eq_true rfl) rfl rfl rfl
theorem dX8_copy_39 : decode cX8_copy 39 = .ok (.iconst 0, 1) := op_3 kcX8_copy (Nat.le_of_ble_eq_true rfl) rfl
theorem dX8_copy_40 : decode cX8_copy 40 = .ok (.bipush 7, 2) := op_16 (a := 7) kcX8_copy (Nat.le_of_ble_eq_true rfl) rfl rfl (by decide)
theorem dX8_copy_42 : decode cX8_copy 42 = .ok (.invokestatic 46, 3) := op_184 (a := 0) (b := 46) kcX8_copy (Nat.le_of_ble_eq_true rfl) rfl rfl rfl
theorem dX8_copy_45 : decode cX8_copy 45 = .ok (.aload_n 1, 1) := op_43 kcX8_copy (Nat.le_of_ble_eq_true rfl) rfl
theorem dX8_copy_46 : decode cX8_copy 46 = .ok (.getfield 21, 3) := op_180 (a := 0) (b := 21) kcX8_copy (Nat.le_of_ble_eq_true rfl) rfl rfl rfl
theorem dX8_copy_49 : decode cX8_copy 49 = .ok (.iconst 0, 1) := op_3 kcX8_copy (Nat.le_of_ble_eq_true rfl) rfl
theorem dX8_copy_50 : decode cX8_copy 50 = .ok (.aload_n 0, 1) := op_42 kcX8_copy (Nat.le_of_ble_eq_true rfl) rfl
theorem dX8_copy_51 : decode cX8_copy 51 = .ok (.getfield 21, 3) := op_180 (a := 0) (b := 21) kcX8_copy (Nat.le_of_ble_eq_true rfl) rfl rfl rfl
theorem dX8_copy_54 : decode cX8_copy 54 = .ok (.iconst 0, 1) := op_3 kcX8_copy (Nat.le_of_ble_eq_true rfl) rfl
theorem dX8_copy_55 : decode cX8_copy 55 = .ok (.bipush 7, 2) := op_16 (a := 7) kcX8_copy (Nat.le_of_ble_eq_true rfl) rfl rfl (by decide)
theorem dX8_copy_57 : decode cX8_copy 57 = .ok (.invokestatic 46, 3) := op_184 (a := 0) (b := 46) kcX8_copy (Nat.le_of_ble_eq_true rfl) rfl rfl rfl
theorem dX8_copy_60 : decode cX8_copy 60 = .ok (.aload_n 1, 1) := op_43 kcX8_copy (Nat.le_of_ble_eq_true rfl) rfl
theorem dX8_copy_61 : decode cX8_copy 61 = .ok (.getfield 24, 3) := op_180 (a := 0) (b := 24) kcX8_copy (Nat.le_of_ble_eq_true rfl) rfl rfl rfl
theorem dX8_copy_64 : decode cX8_copy 64 = .ok (.iconst 0, 1) := op_3 kcX8_copy (Nat.le_of_ble_eq_true rfl) rfl
theorem dX8_copy_65 : decode cX8_copy 65 = .ok (.aload_n 0, 1) := op_42 kcX8_copy (Nat.le_of_ble_eq_true rfl) rfl
theorem dX8_copy_66 : decode cX8_copy 66 = .ok (.getfield 24, 3) := op_180 (a := 0) (b := 24) kcX8_copy (Nat.le_of_ble_eq_true rfl) rfl rfl rfl
theorem dX8_copy_69 : decode cX8_copy 69 = .ok (.iconst 0, 1) := op_3 kcX8_copy (Nat.le_of_ble_eq_true rfl) rfl
theorem dX8_copy_70 : decode cX8_copy 70 = .ok (.bipush 6, 2) := op_16 (a := 6) kcX8_copy (Nat.le_of_ble_eq_true rfl) rfl rfl (by decide)
theorem dX8_copy_72 : decode cX8_copy 72 = .ok (.invokestatic 46, 3) := op_184 (a := 0) (b := 46) kcX8_copy (Nat.le_of_ble_eq_true rfl) rfl rfl rfl
theorem dX8_copy_75 : decode cX8_copy 75 = .ok (.aload_n 0, 1) := op_42 kcX8_copy (Nat.le_of_ble_eq_true rfl) rfl
theorem dX8_copy_76 : decode cX8_copy 76 = .ok (.aload_n 1, 1) := op_43 kcX8_copy (Nat.le_of_ble_eq_true rfl) rfl
theorem dX8_copy_77 : decode cX8_copy 77 = .ok (.getfield 27, 3) := op_180 (a := 0) (b := 27) kcX8_copy (Nat.le_of_ble_eq_true rfl) rfl rfl rfl
theorem dX8_copy_80 : decode cX8_copy 80 = .ok (.putfield 27, 3) := op_181 (a := 0) (b := 27) kcX8_copy (Nat.le_of_ble_eq_true rfl) rfl rfl rfl
theorem dX8_copy_83 : decode cX8_copy 83 = .ok (.aload_n 0, 1) := op_42 kcX8_copy (Nat.le_of_ble_eq_true rfl) rfl
theorem dX8_copy_84 : decode cX8_copy 84 = .ok (.aload_n 1, 1) := op_43 kcX8_copy (Nat.le_of_ble_eq_true rfl) rfl
theorem dX8_copy_85 : decode cX8_copy 85 = .ok (.getfield 31, 3) := op_180 (a := 0) (b := 31) kcX8_copy (Nat.le_of_ble_eq_true rfl) rfl rfl rfl
theorem dX8_copy_88 : decode cX8_copy 88 = .ok (.putfield 31, 3) := op_181 (a := 0) (b := 31) kcX8_copy (Nat.le_of_ble_eq_true rfl) rfl rfl rfl
theorem dX8_copy_91 : decode cX8_copy 91 = .ok (.aload_n 0, 1) := op_42 kcX8_copy (Nat.le_of_ble_eq_true rfl) rfl
theorem dX8_copy_92 : decode cX8_copy 92 = .ok (.aload_n 1, 1) := op_43 kcX8_copy (Nat.le_of_ble_eq_true rfl) rfl
theorem dX8_copy_93 : decode cX8_copy 93 = .ok (.getfield 34, 3) := op_180 (a := 0) (b := 34) kcX8_copy (Nat.le_of_ble_eq_true rfl) rfl rfl rfl
theorem dX8_copy_96 : decode cX8_copy 96 = .ok (.putfield 34, 3) := op_181 (a := 0) (b := 34) kcX8_copy (Nat.le_of_ble_eq_true rfl) rfl rfl rfl
theorem dX8_copy_99 : decode cX8_copy 99 = .ok (.aload_n 0, 1) := op_42 kcX8_copy (Nat.le_of_ble_eq_true rfl) rfl
theorem dX8_copy_100 : decode cX8_copy 100 = .ok (.aload_n 1, 1) := op_43 kcX8_copy (Nat.le_of_ble_eq_true rfl) rfl
theorem dX8_copy_101 : decode cX8_copy 101 = .ok (.getfield 37, 3) := op_180 (a := 0) (b := 37) kcX8_copy (Nat.le_of_ble_eq_true rfl) rfl rfl rfl
theorem dX8_copy_104 : decode cX8_copy 104 = .ok (.putfield 37, 3) := op_181 (a := 0) (b := 37) kcX8_copy (Nat.le_of_ble_eq_true rfl) rfl rfl rfl
theorem dX8_copy_107 : decode cX8_copy 107 = .ok (.return_, 1) := op_177 kcX8_copy (Nat.le_of_ble_eq_true rfl) rfl
theorem kcX8_isFriend : (cX8_isFriend).data.toList = cbs 0xac030400a7040700997e047a1c2e1b0f00b42a 19 := by decide +kernel
theorem dX8_isFriend_0 : decode cX8_isFriend 0 = .ok (.aload_n 0, 1) := op_42 kcX8_isFriend (Nat.le_of_ble_eq_true rfl) rfl
theorem dX8_isFriend_1 : decode cX8_isFriend 1 = .ok (.getfield 15, 3) := op_180 (a := 0) (b := 15) kcX8_isFriend (Nat.le_of_ble_eq_true rfl) rfl rfl rfl
theorem dX8_isFriend_4 : decode cX8_isFriend 4 = .ok (.iload_n 1, 1) := op_27 kcX8_isFriend (Nat.le_of_ble_eq_true rfl) rfl
theorem dX8_isFriend_5 : decode cX8_isFriend 5 = .ok (.iaload, 1) := op_46 kcX8_isFriend (Nat.le_of_ble_eq_true rfl) rfl
theorem dX8_isFriend_6 : decode cX8_isFriend 6 = .ok (.iload_n 2, 1) := op_28 kcX8_isFriend (Nat.le_of_ble_eq_true rfl) rfl
theorem dX8_isFriend_7 : decode cX8_isFriend 7 = .ok (.ishr, 1) := op_122 kcX8_isFriend (Nat.le_of_ble_eq_true rfl) rfl
theorem dX8_isFriend_8 : decode cX8_isFriend 8 = .ok (.iconst 1, 1) := op_4 kcX8_isFriend (Nat.le_of_ble_eq_true rfl) rfl
theorem dX8_isFriend_9 : decode cX8_isFriend 9 = .ok (.iand, 1) := op_126 kcX8_isFriend (Nat.le_of_ble_eq_true rfl) rfl
theorem dX8_isFriend_10 : decode cX8_isFriend 10 = .ok (.ifCond .eq 7, 3) := op_153 (a := 0) (b := 7) kcX8_isFriend (Nat.le_of_ble_eq_true rfl) rfl rfl rfl (by decide)
theorem dX8_isFriend_13 : decode cX8_isFriend 13 = .ok (.iconst 1, 1) := op_4 kcX8_isFriend (Nat.le_of_ble_eq_true rfl) rfl
theorem dX8_isFriend_14 : decode cX8_isFriend 14 = .ok (.goto 4, 3) := op_167 (a := 0) (b := 4) kcX8_isFriend (Nat.le_of_ble_eq_true rfl) rfl rfl rfl (by decide)
theorem dX8_isFriend_17 : decode cX8_isFriend 17 = .ok (.iconst 0, 1) := op_3 kcX8_isFriend (Nat.le_of_ble_eq_true rfl) rfl
theorem dX8_isFriend_18 : decode cX8_isFriend 18 = .ok (.ireturn, 1) := op_172 kcX8_isFriend (Nat.le_of_ble_eq_true rfl) rfl
theorem kcX8_setFriend : (cX8_setFriend).data.toList = cbs 0xb14f7e8202781c042e5c1b0f00b42a1100a74f80781c042e5c1b0f00b42a1200991d 34 := by decide +kernel
theorem dX8_setFriend_0 : decode cX8_setFriend 0 = .ok (.iload_n 3, 1) := op_29 kcX8_setFriend (Nat.le_of_ble_eq_true rfl) rfl
theorem dX8_setFriend_1 : decode cX8_setFriend 1 = .ok (.ifCond .eq 18, 3) := op_153 (a := 0) (b := 18) kcX8_setFriend (Nat.le_of_ble_eq_true rfl) rfl rfl rfl (by decide)
theorem dX8_setFriend_4 : decode cX8_setFriend 4 = .ok (.aload_n 0, 1) := op_42 kcX8_setFriend (Nat.le_of_ble_eq_true rfl) rfl
theorem dX8_setFriend_5 : decode cX8_setFriend 5 = .ok (.getfield 15, 3) := op_180 (a := 0) (b := 15) kcX8_setFriend (Nat.le_of_ble_eq_true rfl) rfl rfl rfl
theorem dX8_setFriend_8 : decode cX8_setFriend 8 = .ok (.iload_n 1, 1) := op_27 kcX8_setFriend (Nat.le_of_ble_eq_true rfl) rfl
theorem dX8_setFriend_9 : decode cX8_setFriend 9 = .ok (.dup2, 1) := op_92 kcX8_setFriend (Nat.le_of_ble_eq_true rfl) rfl
theorem dX8_setFriend_10 : decode cX8_setFriend 10 = .ok (.iaload, 1) := op_46 kcX8_setFriend (Nat.le_of_ble_eq_true rfl) rfl
theorem dX8_setFriend_11 : decode cX8_setFriend 11 = .ok (.iconst 1, 1) := op_4 kcX8_setFriend (Nat.le_of_ble_eq_true rfl) rfl
theorem dX8_setFriend_12 : decode cX8_setFriend 12 = .ok (.iload_n 2, 1) := op_28 kcX8_setFriend (Nat.le_of_ble_eq_true rfl) rfl
theorem dX8_setFriend_13 : decode cX8_setFriend 13 = .ok (.ishl, 1) := op_120 kcX8_setFriend (Nat.le_of_ble_eq_true rfl) rfl
theorem dX8_setFriend_14 : decode cX8_setFriend 14 = .ok (.ior, 1) := op_128 kcX8_setFriend (Nat.le_of_ble_eq_true rfl) rfl
theorem dX8_setFriend_15 : decode cX8_setFriend 15 = .ok (.iastore, 1) := op_79 kcX8_setFriend (Nat.le_of_ble_eq_true rfl) rfl
theorem dX8_setFriend_16 : decode cX8_setFriend 16 = .ok (.goto 17, 3) := op_167 (a := 0) (b := 17) kcX8_setFriend (Nat.le_of_ble_eq_true rfl) rfl rfl rfl (by decide)
theorem dX8_setFriend_19 : decode cX8_setFriend 19 = .ok (.aload_n 0, 1) := op_42 kcX8_setFriend (Nat.le_of_ble_eq_true rfl) rfl
theorem dX8_setFriend_20 : decode cX8_setFriend 20 = .ok (.getfield 15, 3) := op_180 (a := 0) (b := 15) kcX8_setFriend (Nat.le_of_ble_eq_true rfl) rfl rfl rfl
theorem dX8_setFriend_23 : decode cX8_setFriend 23 = .ok (.iload_n 1, 1) := op_27 kcX8_setFriend (Nat.le_of_ble_eq_true rfl) rfl
theorem dX8_setFriend_24 : decode cX8_setFriend 24 = .ok (.dup2, 1) := op_92 kcX8_setFriend (Nat.le_of_ble_eq_true rfl) rfl
theorem dX8_setFriend_25 : decode cX8_setFriend 25 = .ok (.iaload, 1) := op_46 kcX8_setFriend (Nat.le_of_ble_eq_true rfl) rfl
theorem dX8_setFriend_26 : decode cX8_setFriend 26 = .ok (.iconst 1, 1) := op_4 kcX8_setFriend (Nat.le_of_ble_eq_true rfl) rfl
theorem dX8_setFriend_27 : decode cX8_setFriend 27 = .ok (.iload_n 2, 1) := op_28 kcX8_setFriend (Nat.le_of_ble_eq_true rfl) rfl
theorem dX8_setFriend_28 : decode cX8_setFriend 28 = .ok (.ishl, 1) := op_120 kcX8_setFriend (Nat.le_of_ble_eq_true rfl) rfl
theorem dX8_setFriend_29 : decode cX8_setFriend 29 = .ok (.iconst (-1), 1) := op_2 kcX8_setFriend (Nat.le_of_ble_eq_true rfl) rfl
theorem dX8_setFriend_30 : decode cX8_setFriend 30 = .ok (.ixor, 1) := op_130 kcX8_setFriend (Nat.le_of_ble_eq_true rfl) rfl
theorem dX8_setFriend_31 : decode cX8_setFriend 31 = .ok (.iand, 1) := op_126 kcX8_setFriend (Nat.le_of_ble_eq_true rfl) rfl
theorem dX8_setFriend_32 : decode cX8_setFriend 32 = .ok (.iastore, 1) := op_79 kcX8_setFriend (Nat.le_of_ble_eq_true rfl) rfl
theorem dX8_setFriend_33 : decode cX8_setFriend 33 = .ok (.return_, 1) := op_177 kcX8_setFriend (Nat.le_of_ble_eq_true rfl) rfl
theorem kcX9_init : (cX9_init).data.toList = cbs 0xb11c00b5032a1900b5032a1600b5032a1300b5032a0f00b5032a0900b508bc4001112a0300b72a 39 := by decide +kernel
theorem dX9_init_0 : decode cX9_init 0 = .ok (.aload_n 0, 1) := op_42 kcX9_init (Nat.le_of_ble_eq_true rfl) rfl
theorem dX9_init_1 : decode cX9_init 1 = .ok (.invokespecial 3, 3) := op_183 (a := 0) (b := 3) kcX9_init (Nat.le_of_ble_eq_true rfl) rfl rfl rfl
theorem dX9_init_4 : decode cX9_init 4 = .ok (.aload_n 0, 1) := op_42 kcX9_init (Nat.le_of_ble_eq_true rfl) rfl
theorem dX9_init_5 : decode cX9_init 5 = .ok (.sipush 320, 3) := by decide +kernel
theorem dX9_init_8 : decode cX9_init 8 = .ok (.newarray .byte, 2) := by decide +kernel
theorem dX9_init_10 : decode cX9_init 10 = .ok (.putfield 9, 3) := op_181 (a := 0) (b := 9) kcX9_init (Nat.le_of_ble_eq_true rfl) rfl rfl rfl
theorem dX9_init_13 : decode cX9_init 13 = .ok (.aload_n 0, 1) := op_42 kcX9_init (Nat.le_of_ble_eq_true rfl) rfl
theorem dX9_init_14 : decode cX9_init 14 = .ok (.iconst 0, 1) := op_3 kcX9_init (Nat.le_of_ble_eq_true rfl) rfl
theorem dX9_init_15 : decode cX9_init 15 = .ok (.putfield 15, 3) := op_181 (a := 0) (b := 15) kcX9_init (Nat.le_of_ble_eq_true rfl) rfl rfl rfl
theorem dX9_init_18 : decode cX9_init 18 = .ok (.aload_n 0, 1) := op_42 kcX9_init (Nat.le_of_ble_eq_true rfl) rfl
theorem dX9_init_19 : decode cX9_init 19 = .ok (.iconst 0, 1) := op_3 kcX9_init (Nat.le_of_ble_eq_true rfl) rfl
theorem dX9_init_20 : decode cX9_init 20 = .ok (.putfield 19, 3) := op_181 (a := 0) (b := 19) kcX9_init (Nat.le_of_ble_eq_true rfl) rfl rfl rfl
theorem dX9_init_23 : decode cX9_init 23 = .ok (.aload_n 0, 1) := op_42 kcX9_init (Nat.le_of_ble_eq_true rfl) rfl
theorem dX9_init_24 : decode cX9_init 24 = .ok (.iconst 0, 1) := op_3 kcX9_init (Nat.le_of_ble_eq_true rfl) rfl
theorem dX9_init_25 : decode cX9_init 25 = .ok (.putfield 22, 3) := op_181 (a := 0) (b := 22) kcX9_init (Nat.le_of_ble_eq_true rfl) rfl rfl rfl
theorem dX9_init_28 : decode cX9_init 28 = .ok (.aload_n 0, 1) := op_42 kcX9_init (Nat.le_of_ble_eq_true rfl) rfl
theorem dX9_init_29 : decode cX9_init 29 = .ok (.iconst 0, 1) := op_3 kcX9_init (Nat.le_of_ble_eq_true rfl) rfl
theorem dX9_init_30 : decode cX9_init 30 = .ok (.putfield 25, 3) := op_181 (a := 0) (b := 25) kcX9_init (Nat.le_of_ble_eq_true rfl) rfl rfl rfl
theorem dX9_init_33 : decode cX9_init 33 = .ok (.aload_n 0, 1) := op_42 kcX9_init (Nat.le_of_ble_eq_true rfl) rfl
theorem dX9_init_34 : decode cX9_init 34 = .ok (.iconst 0, 1) := op_3 kcX9_init (Nat.le_of_ble_eq_true rfl) rfl
theorem dX9_init_35 : decode cX9_init 35 = .ok (.putfield 28, 3) := op_181 (a := 0) (b := 28) kcX9_init (Nat.le_of_ble_eq_true rfl) rfl rfl rfl
theorem dX9_init_38 : decode cX9_init 38 = .ok (.return_, 1) := op_177 kcX9_init (Nat.le_of_ble_eq_true rfl) rfl
theorem kcX9_append : (cX9_append).data.toList = cbs 0xac04e1ffa7f803840f00b560040f00b4592a5491887b1d1f0f00b42a0900b42a21009b1d3e3810ac030500a44001116008100f00b42a 54 := by decide +kernel
theorem dX9_append_0 : decode cX9_append 0 = .ok (.aload_n 0, 1) := op_42 kcX9_append (Nat.le_of_ble_eq_true rfl) rfl
theorem dX9_append_1 : decode cX9_append 1 = .ok (.getfield 15, 3) := op_180 (a := 0) (b := 15) kcX9_append (Nat.le_of_ble_eq_true rfl) rfl rfl rfl
theorem dX9_append_4 : decode cX9_append 4 = .ok (.bipush 8, 2) := op_16 (a := 8) kcX9_append (Nat.le_of_ble_eq_true rfl) rfl rfl (by decide)
theorem dX9_append_6 : decode cX9_append 6 = .ok (.iadd, 1) := op_96 kcX9_append (Nat.le_of_ble_eq_true rfl) rfl
theorem dX9_append_7 : decode cX9_append 7 = .ok (.sipush 320, 3) := by decide +kernel
theorem dX9_append_10 : decode cX9_append 10 = .ok (.if_icmp .le 5, 3) := op_164 (a := 0) (b := 5) kcX9_append (Nat.le_of_ble_eq_true rfl) rfl rfl rfl (by decide)
theorem dX9_append_13 : decode cX9_append 13 = .ok (.iconst 0, 1) := op_3 kcX9_append (Nat.le_of_ble_eq_true rfl) rfl
theorem dX9_append_14 : decode cX9_append 14 = .ok (.ireturn, 1) := op_172 kcX9_append (Nat.le_of_ble_eq_true rfl) rfl
theorem dX9_append_15 : decode cX9_append 15 = .ok (.bipush 56, 2) := op_16 (a := 56) kcX9_append (Nat.le_of_ble_eq_true rfl) rfl rfl (by decide)
theorem dX9_append_17 : decode cX9_append 17 = .ok (.istore_n 3, 1) := op_62 kcX9_append (Nat.le_of_ble_eq_true rfl) rfl
theorem dX9_append_18 : decode cX9_append 18 = .ok (.iload_n 3, 1) := op_29 kcX9_append (Nat.le_of_ble_eq_true rfl) rfl
theorem dX9_append_19 : decode cX9_append 19 = .ok (.ifCond .lt 33, 3) := op_155 (a := 0) (b := 33) kcX9_append (Nat.le_of_ble_eq_true rfl) rfl rfl rfl (by decide)
theorem dX9_append_22 : decode cX9_append 22 = .ok (.aload_n 0, 1) := op_42 kcX9_append (Nat.le_of_ble_eq_true rfl) rfl
theorem dX9_append_23 : decode cX9_append 23 = .ok (.getfield 9, 3) := op_180 (a := 0) (b := 9) kcX9_append (Nat.le_of_ble_eq_true rfl) rfl rfl rfl
theorem dX9_append_26 : decode cX9_append 26 = .ok (.aload_n 0, 1) := op_42 kcX9_append (Nat.le_of_ble_eq_true rfl) rfl
theorem dX9_append_27 : decode cX9_append 27 = .ok (.getfield 15, 3) := op_180 (a := 0) (b := 15) kcX9_append (Nat.le_of_ble_eq_true rfl) rfl rfl rfl
theorem dX9_append_30 : decode cX9_append 30 = .ok (.lload_n 1, 1) := op_31 kcX9_append (Nat.le_of_ble_eq_true rfl) rfl
theorem dX9_append_31 : decode cX9_append 31 = .ok (.iload_n 3, 1) := op_29 kcX9_append (Nat.le_of_ble_eq_true rfl) rfl
theorem dX9_append_32 : decode cX9_append 32 = .ok (.lshr, 1) := op_123 kcX9_append (Nat.le_of_ble_eq_true rfl) rfl
theorem dX9_append_33 : decode cX9_append 33 = .ok (.l2i, 1) := op_136 kcX9_append (Nat.le_of_ble_eq_true rfl) rfl
theorem dX9_append_34 : decode cX9_append 34 = .ok (.i2b, 1) := op_145 kcX9_append (Nat.le_of_ble_eq_true rfl) rfl
theorem dX9_append_35 : decode cX9_append 35 = .ok (.bastore, 1) := op_84 kcX9_append (Nat.le_of_ble_eq_true rfl) rfl
theorem dX9_append_36 : decode cX9_append 36 = .ok (.aload_n 0, 1) := op_42 kcX9_append (Nat.le_of_ble_eq_true rfl) rfl
theorem dX9_append_37 : decode cX9_append 37 = .ok (.dup, 1) := op_89 kcX9_append (Nat.le_of_ble_eq_true rfl) rfl
theorem dX9_append_38 : decode cX9_append 38 = .ok (.getfield 15, 3) := op_180 (a := 0) (b := 15) kcX9_append (Nat.le_of_ble_eq_true rfl) rfl rfl rfl
theorem dX9_append_41 : decode cX9_append 41 = .ok (.iconst 1, 1) := op_4 kcX9_append (Nat.le_of_ble_eq_true rfl) rfl
theorem dX9_append_42 : decode cX9_append 42 = .ok (.iadd, 1) := op_96 kcX9_append (Nat.le_of_ble_eq_true rfl) rfl
theorem dX9_append_43 : decode cX9_append 43 = .ok (.putfield 15, 3) := op_181 (a := 0) (b := 15) kcX9_append (Nat.le_of_ble_eq_true rfl) rfl rfl rfl
theorem dX9_append_46 : decode cX9_append 46 = .ok (.iinc 3 (-8), 3) := by decide +kernel
theorem dX9_append_49 : decode cX9_append 49 = .ok (.goto (-31), 3) := op_167 (a := 255) (b := 225) kcX9_append (Nat.le_of_ble_eq_true rfl) rfl rfl rfl (by decide)
theorem dX9_append_52 : decode cX9_append 52 = .ok (.iconst 1, 1) := op_4 kcX9_append (Nat.le_of_ble_eq_true rfl) rfl
theorem dX9_append_53 : decode cX9_append 53 = .ok (.ireturn, 1) := op_172 kcX9_append (Nat.le_of_ble_eq_true rfl) rfl
theorem kcX9_rewind : (cX9_rewind).data.toList = cbs 0xb11300b5032a 6 := by decide +kernel
theorem dX9_rewind_0 : decode cX9_rewind 0 = .ok (.aload_n 0, 1) := op_42 kcX9_rewind (Nat.le_of_ble_eq_true rfl) rfl
theorem dX9_rewind_1 : decode cX9_rewind 1 = .ok (.iconst 0, 1) := op_3 kcX9_rewind (Nat.le_of_ble_eq_true rfl) rfl
theorem dX9_rewind_2 : decode cX9_rewind 2 = .ok (.putfield 19, 3) := op_181 (a := 0) (b := 19) kcX9_rewind (Nat.le_of_ble_eq_true rfl) rfl rfl rfl
theorem dX9_rewind_5 : decode cX9_rewind 5 = .ok (.return_, 1) := op_177 kcX9_rewind (Nat.le_of_ble_eq_true rfl) rfl
set_option maxRecDepth 20000 in
theorem gw_wsX9_isLetter : (wsX9_isLetter).all goodWord = true := by decide +kernel
set_option maxRecDepth 20000 in
theorem ggX9_readToken_X9_isLetter : GoodIn wsX9_readToken wsX9_isLetter := goodIn_r _ [9] rfl gw_wsX9_isLetter
set_option maxRecDepth 20000 in
theorem gX9_readToken_X9_isLetter : GoodIn wsX9_readToken (va_wsS RX9 31 yX9_isLetter wsX9_isLetter) := goodIn_app (goodIn_of _ (by decide +kernel)) ggX9_readToken_X9_isLetter
set_option maxRecDepth 20000 in
theorem gw_wsX9_readName : (wsX9_readName).all goodWord = true := by decide +kernel
set_option maxRecDepth 20000 in
theorem ggX9_readToken_X9_readName : GoodIn wsX9_readToken wsX9_readName := goodIn_r _ [13, 1, 2, 3, 5, 6, 7, 8, 9, 22, 23, 24, 25, 26, 27] rfl gw_wsX9_readName
set_option maxRecDepth 20000 in
theorem gX9_readToken_X9_readName : GoodIn wsX9_readToken (wsV RX9 35 RX9 yX9_readName wsX9_readName) := goodIn_app (goodIn_of _ (by decide +kernel)) ggX9_readToken_X9_readName
set_option maxRecDepth 20000 in
theorem gw_wsX9_isFigure : (wsX9_isFigure).all goodWord = true := by decide +kernel
set_option maxRecDepth 20000 in
theorem ggX9_readToken_X9_isFigure : GoodIn wsX9_readToken wsX9_isFigure := goodIn_r _ [16] rfl gw_wsX9_isFigure
set_option maxRecDepth 20000 in
theorem gX9_readToken_X9_isFigure : GoodIn wsX9_readToken (va_wsS RX9 38 yX9_isFigure wsX9_isFigure) := goodIn_app (goodIn_of _ (by decide +kernel)) ggX9_readToken_X9_isFigure
set_option maxRecDepth 20000 in
theorem gw_wsX9_readFigures : (wsX9_readFigures).all goodWord = true := by decide +kernel
set_option maxRecDepth 20000 in
theorem ggX9_readToken_X9_readFigures : GoodIn wsX9_readToken wsX9_readFigures := goodIn_r _ [20, 21, 1, 2, 3, 4, 5, 14, 15, 8, 16, 22, 23, 24, 25, 26, 27] rfl gw_wsX9_readFigures
set_option maxRecDepth 20000 in
theorem gX9_readToken_X9_readFigures : GoodIn wsX9_readToken (wsV RX9 41 RX9 yX9_readFigures wsX9_readFigures) := goodIn_app (goodIn_of _ (by decide +kernel)) ggX9_readToken_X9_readFigures
theorem kcX9_readToken : (cX9_readToken).data.toList = cbs 0xb11600b5072a0800a71600b5062a1300b560041300b4592a1500a03b10331300b42a0900b42a2800a72900b62a0a00992600b8331300b42a0900b42a3e00a72300b62a0a00991f00b8331300b42a0900b42a5400a71600b5032a0b00a10f00b42a1300b42a1900b51300b42a2addffa71300b560041300b4592a1000a02010331300b42a0900b42a1e00a20f00b42a1300b42a 147 := by decide +kernel
theorem dX9_readToken_0 : decode cX9_readToken 0 = .ok (.aload_n 0, 1) := op_42 kcX9_readToken (Nat.le_of_ble_eq_true rfl) rfl
theorem dX9_readToken_1 : decode cX9_readToken 1 = .ok (.getfield 19, 3) := op_180 (a := 0) (b := 19) kcX9_readToken (Nat.le_of_ble_eq_true rfl) rfl rfl rfl
theorem dX9_readToken_4 : decode cX9_readToken 4 = .ok (.aload_n 0, 1) := op_42 kcX9_readToken (Nat.le_of_ble_eq_true rfl) rfl
theorem dX9_readToken_5 : decode cX9_readToken 5 = .ok (.getfield 15, 3) := op_180 (a := 0) (b := 15) kcX9_readToken (Nat.le_of_ble_eq_true rfl) rfl rfl rfl
theorem dX9_readToken_8 : decode cX9_readToken 8 = .ok (.if_icmp .ge 30, 3) := op_162 (a := 0) (b := 30) kcX9_readToken (Nat.le_of_ble_eq_true rfl) rfl rfl rfl (by decide)
theorem dX9_readToken_11 : decode cX9_readToken 11 = .ok (.aload_n 0, 1) := op_42 kcX9_readToken (Nat.le_of_ble_eq_true rfl) rfl
theorem dX9_readToken_12 : decode cX9_readToken 12 = .ok (.getfield 9, 3) := op_180 (a := 0) (b := 9) kcX9_readToken (Nat.le_of_ble_eq_true rfl) rfl rfl rfl
theorem dX9_readToken_15 : decode cX9_readToken 15 = .ok (.aload_n 0, 1) := op_42 kcX9_readToken (Nat.le_of_ble_eq_true rfl) rfl
theorem dX9_readToken_16 : decode cX9_readToken 16 = .ok (.getfield 19, 3) := op_180 (a := 0) (b := 19) kcX9_readToken (Nat.le_of_ble_eq_true rfl) rfl rfl rfl
theorem dX9_readToken_19 : decode cX9_readToken 19 = .ok (.baload, 1) := op_51 kcX9_readToken (Nat.le_of_ble_eq_true rfl) rfl
theorem dX9_readToken_20 : decode cX9_readToken 20 = .ok (.bipush 32, 2) := op_16 (a := 32) kcX9_readToken (Nat.le_of_ble_eq_true rfl) rfl rfl (by decide)
theorem dX9_readToken_22 : decode cX9_readToken 22 = .ok (.if_icmp .ne 16, 3) := op_160 (a := 0) (b := 16) kcX9_readToken (Nat.le_of_ble_eq_true rfl) rfl rfl rfl (by decide)
theorem dX9_readToken_25 : decode cX9_readToken 25 = .ok (.aload_n 0, 1) := op_42 kcX9_readToken (Nat.le_of_ble_eq_true rfl) rfl
theorem dX9_readToken_26 : decode cX9_readToken 26 = .ok (.dup, 1) := op_89 kcX9_readToken (Nat.le_of_ble_eq_true rfl) rfl
theorem dX9_readToken_27 : decode cX9_readToken 27 = .ok (.getfield 19, 3) := op_180 (a := 0) (b := 19) kcX9_readToken (Nat.le_of_ble_eq_true rfl) rfl rfl rfl
theorem dX9_readToken_30 : decode cX9_readToken 30 = .ok (.iconst 1, 1) := op_4 kcX9_readToken (Nat.le_of_ble_eq_true rfl) rfl
theorem dX9_readToken_31 : decode cX9_readToken 31 = .ok (.iadd, 1) := op_96 kcX9_readToken (Nat.le_of_ble_eq_true rfl) rfl
theorem dX9_readToken_32 : decode cX9_readToken 32 = .ok (.putfield 19, 3) := op_181 (a := 0) (b := 19) kcX9_readToken (Nat.le_of_ble_eq_true rfl) rfl rfl rfl
theorem dX9_readToken_35 : decode cX9_readToken 35 = .ok (.goto (-35), 3) := op_167 (a := 255) (b := 221) kcX9_readToken (Nat.le_of_ble_eq_true rfl) rfl rfl rfl (by decide)
theorem dX9_readToken_38 : decode cX9_readToken 38 = .ok (.aload_n 0, 1) := op_42 kcX9_readToken (Nat.le_of_ble_eq_true rfl) rfl
theorem dX9_readToken_39 : decode cX9_readToken 39 = .ok (.aload_n 0, 1) := op_42 kcX9_readToken (Nat.le_of_ble_eq_true rfl) rfl
theorem dX9_readToken_40 : decode cX9_readToken 40 = .ok (.getfield 19, 3) := op_180 (a := 0) (b := 19) kcX9_readToken (Nat.le_of_ble_eq_true rfl) rfl rfl rfl
theorem dX9_readToken_43 : decode cX9_readToken 43 = .ok (.putfield 25, 3) := op_181 (a := 0) (b := 25) kcX9_readToken (Nat.le_of_ble_eq_true rfl) rfl rfl rfl
theorem dX9_readToken_46 : decode cX9_readToken 46 = .ok (.aload_n 0, 1) := op_42 kcX9_readToken (Nat.le_of_ble_eq_true rfl) rfl
theorem dX9_readToken_47 : decode cX9_readToken 47 = .ok (.getfield 19, 3) := op_180 (a := 0) (b := 19) kcX9_readToken (Nat.le_of_ble_eq_true rfl) rfl rfl rfl
theorem dX9_readToken_50 : decode cX9_readToken 50 = .ok (.aload_n 0, 1) := op_42 kcX9_readToken (Nat.le_of_ble_eq_true rfl) rfl
theorem dX9_readToken_51 : decode cX9_readToken 51 = .ok (.getfield 15, 3) := op_180 (a := 0) (b := 15) kcX9_readToken (Nat.le_of_ble_eq_true rfl) rfl rfl rfl
theorem dX9_readToken_54 : decode cX9_readToken 54 = .ok (.if_icmp .lt 11, 3) := op_161 (a := 0) (b := 11) kcX9_readToken (Nat.le_of_ble_eq_true rfl) rfl rfl rfl (by decide)
theorem dX9_readToken_57 : decode cX9_readToken 57 = .ok (.aload_n 0, 1) := op_42 kcX9_readToken (Nat.le_of_ble_eq_true rfl) rfl
theorem dX9_readToken_58 : decode cX9_readToken 58 = .ok (.iconst 0, 1) := op_3 kcX9_readToken (Nat.le_of_ble_eq_true rfl) rfl
theorem dX9_readToken_59 : decode cX9_readToken 59 = .ok (.putfield 22, 3) := op_181 (a := 0) (b := 22) kcX9_readToken (Nat.le_of_ble_eq_true rfl) rfl rfl rfl
theorem dX9_readToken_62 : decode cX9_readToken 62 = .ok (.goto 84, 3) := op_167 (a := 0) (b := 84) kcX9_readToken (Nat.le_of_ble_eq_true rfl) rfl rfl rfl (by decide)
theorem dX9_readToken_65 : decode cX9_readToken 65 = .ok (.aload_n 0, 1) := op_42 kcX9_readToken (Nat.le_of_ble_eq_true rfl) rfl
theorem dX9_readToken_66 : decode cX9_readToken 66 = .ok (.getfield 9, 3) := op_180 (a := 0) (b := 9) kcX9_readToken (Nat.le_of_ble_eq_true rfl) rfl rfl rfl
theorem dX9_readToken_69 : decode cX9_readToken 69 = .ok (.aload_n 0, 1) := op_42 kcX9_readToken (Nat.le_of_ble_eq_true rfl) rfl
theorem dX9_readToken_70 : decode cX9_readToken 70 = .ok (.getfield 19, 3) := op_180 (a := 0) (b := 19) kcX9_readToken (Nat.le_of_ble_eq_true rfl) rfl rfl rfl
theorem dX9_readToken_73 : decode cX9_readToken 73 = .ok (.baload, 1) := op_51 kcX9_readToken (Nat.le_of_ble_eq_true rfl) rfl
theorem dX9_readToken_74 : decode cX9_readToken 74 = .ok (.invokestatic 31, 3) := op_184 (a := 0) (b := 31) kcX9_readToken (Nat.le_of_ble_eq_true rfl) rfl rfl rfl
theorem dX9_readToken_77 : decode cX9_readToken 77 = .ok (.ifCond .eq 10, 3) := op_153 (a := 0) (b := 10) kcX9_readToken (Nat.le_of_ble_eq_true rfl) rfl rfl rfl (by decide)
theorem dX9_readToken_80 : decode cX9_readToken 80 = .ok (.aload_n 0, 1) := op_42 kcX9_readToken (Nat.le_of_ble_eq_true rfl) rfl
theorem dX9_readToken_81 : decode cX9_readToken 81 = .ok (.invokevirtual 35, 3) := op_182 (a := 0) (b := 35) kcX9_readToken (Nat.le_of_ble_eq_true rfl) rfl rfl rfl
theorem dX9_readToken_84 : decode cX9_readToken 84 = .ok (.goto 62, 3) := op_167 (a := 0) (b := 62) kcX9_readToken (Nat.le_of_ble_eq_true rfl) rfl rfl rfl (by decide)
theorem dX9_readToken_87 : decode cX9_readToken 87 = .ok (.aload_n 0, 1) := op_42 kcX9_readToken (Nat.le_of_ble_eq_true rfl) rfl
theorem dX9_readToken_88 : decode cX9_readToken 88 = .ok (.getfield 9, 3) := op_180 (a := 0) (b := 9) kcX9_readToken (Nat.le_of_ble_eq_true rfl) rfl rfl rfl
theorem dX9_readToken_91 : decode cX9_readToken 91 = .ok (.aload_n 0, 1) := op_42 kcX9_readToken (Nat.le_of_ble_eq_true rfl) rfl
theorem dX9_readToken_92 : decode cX9_readToken 92 = .ok (.getfield 19, 3) := op_180 (a := 0) (b := 19) kcX9_readToken (Nat.le_of_ble_eq_true rfl) rfl rfl rfl
theorem dX9_readToken_95 : decode cX9_readToken 95 = .ok (.baload, 1) := op_51 kcX9_readToken (Nat.le_of_ble_eq_true rfl) rfl
theorem dX9_readToken_96 : decode cX9_readToken 96 = .ok (.invokestatic 38, 3) := op_184 (a := 0) (b := 38) kcX9_readToken (Nat.le_of_ble_eq_true rfl) rfl rfl rfl
theorem dX9_readToken_99 : decode cX9_readToken 99 = .ok (.ifCond .eq 10, 3) := op_153 (a := 0) (b := 10) kcX9_readToken (Nat.le_of_ble_eq_true rfl) rfl rfl rfl (by decide)
theorem dX9_readToken_102 : decode cX9_readToken 102 = .ok (.aload_n 0, 1) := op_42 kcX9_readToken (Nat.le_of_ble_eq_true rfl) rfl
theorem dX9_readToken_103 : decode cX9_readToken 103 = .ok (.invokevirtual 41, 3) := op_182 (a := 0) (b := 41) kcX9_readToken (Nat.le_of_ble_eq_true rfl) rfl rfl rfl
theorem dX9_readToken_106 : decode cX9_readToken 106 = .ok (.goto 40, 3) := op_167 (a := 0) (b := 40) kcX9_readToken (Nat.le_of_ble_eq_true rfl) rfl rfl rfl (by decide)
theorem dX9_readToken_109 : decode cX9_readToken 109 = .ok (.aload_n 0, 1) := op_42 kcX9_readToken (Nat.le_of_ble_eq_true rfl) rfl
theorem dX9_readToken_110 : decode cX9_readToken 110 = .ok (.getfield 9, 3) := op_180 (a := 0) (b := 9) kcX9_readToken (Nat.le_of_ble_eq_true rfl) rfl rfl rfl
theorem dX9_readToken_113 : decode cX9_readToken 113 = .ok (.aload_n 0, 1) := op_42 kcX9_readToken (Nat.le_of_ble_eq_true rfl) rfl
theorem dX9_readToken_114 : decode cX9_readToken 114 = .ok (.getfield 19, 3) := op_180 (a := 0) (b := 19) kcX9_readToken (Nat.le_of_ble_eq_true rfl) rfl rfl rfl
theorem dX9_readToken_117 : decode cX9_readToken 117 = .ok (.baload, 1) := op_51 kcX9_readToken (Nat.le_of_ble_eq_true rfl) rfl
theorem dX9_readToken_118 : decode cX9_readToken 118 = .ok (.bipush 59, 2) := op_16 (a := 59) kcX9_readToken (Nat.le_of_ble_eq_true rfl) rfl rfl (by decide)
theorem dX9_readToken_120 : decode cX9_readToken 120 = .ok (.if_icmp .ne 21, 3) := op_160 (a := 0) (b := 21) kcX9_readToken (Nat.le_of_ble_eq_true rfl) rfl rfl rfl (by decide)
theorem dX9_readToken_123 : decode cX9_readToken 123 = .ok (.aload_n 0, 1) := op_42 kcX9_readToken (Nat.le_of_ble_eq_true rfl) rfl
theorem dX9_readToken_124 : decode cX9_readToken 124 = .ok (.dup, 1) := op_89 kcX9_readToken (Nat.le_of_ble_eq_true rfl) rfl
theorem dX9_readToken_125 : decode cX9_readToken 125 = .ok (.getfield 19, 3) := op_180 (a := 0) (b := 19) kcX9_readToken (Nat.le_of_ble_eq_true rfl) rfl rfl rfl
theorem dX9_readToken_128 : decode cX9_readToken 128 = .ok (.iconst 1, 1) := op_4 kcX9_readToken (Nat.le_of_ble_eq_true rfl) rfl
theorem dX9_readToken_129 : decode cX9_readToken 129 = .ok (.iadd, 1) := op_96 kcX9_readToken (Nat.le_of_ble_eq_true rfl) rfl
theorem dX9_readToken_130 : decode cX9_readToken 130 = .ok (.putfield 19, 3) := op_181 (a := 0) (b := 19) kcX9_readToken (Nat.le_of_ble_eq_true rfl) rfl rfl rfl
theorem dX9_readToken_133 : decode cX9_readToken 133 = .ok (.aload_n 0, 1) := op_42 kcX9_readToken (Nat.le_of_ble_eq_true rfl) rfl
theorem dX9_readToken_134 : decode cX9_readToken 134 = .ok (.iconst 3, 1) := op_6 kcX9_readToken (Nat.le_of_ble_eq_true rfl) rfl
theorem dX9_readToken_135 : decode cX9_readToken 135 = .ok (.putfield 22, 3) := op_181 (a := 0) (b := 22) kcX9_readToken (Nat.le_of_ble_eq_true rfl) rfl rfl rfl
theorem dX9_readToken_138 : decode cX9_readToken 138 = .ok (.goto 8, 3) := op_167 (a := 0) (b := 8) kcX9_readToken (Nat.le_of_ble_eq_true rfl) rfl rfl rfl (by decide)
theorem dX9_readToken_141 : decode cX9_readToken 141 = .ok (.aload_n 0, 1) := op_42 kcX9_readToken (Nat.le_of_ble_eq_true rfl) rfl
theorem dX9_readToken_142 : decode cX9_readToken 142 = .ok (.iconst 4, 1) := op_7 kcX9_readToken (Nat.le_of_ble_eq_true rfl) rfl
theorem dX9_readToken_143 : decode cX9_readToken 143 = .ok (.putfield 22, 3) := op_181 (a := 0) (b := 22) kcX9_readToken (Nat.le_of_ble_eq_true rfl) rfl rfl rfl
theorem dX9_readToken_146 : decode cX9_readToken 146 = .ok (.return_, 1) := op_177 kcX9_readToken (Nat.le_of_ble_eq_true rfl) rfl
set_option maxRecDepth 20000 in
theorem ggX9_readName_X9_isLetter : GoodIn wsX9_readName wsX9_isLetter := goodIn_r _ [8] rfl gw_wsX9_isLetter
set_option maxRecDepth 20000 in
theorem gX9_readName_X9_isLetter : GoodIn wsX9_readName (va_wsS RX9 31 yX9_isLetter wsX9_isLetter) := goodIn_app (goodIn_of _ (by decide +kernel)) ggX9_readName_X9_isLetter
theorem kcX9_readName : (cX9_readName).data.toList = cbs 0xb11600b5042adcffa71300b560041300b4592a1000991f00b8331300b42a0900b42a1f00a20f00b42a1300b42a 45 := by decide +kernel
theorem dX9_readName_0 : decode cX9_readName 0 = .ok (.aload_n 0, 1) := op_42 kcX9_readName (Nat.le_of_ble_eq_true rfl) rfl
theorem dX9_readName_1 : decode cX9_readName 1 = .ok (.getfield 19, 3) := op_180 (a := 0) (b := 19) kcX9_readName (Nat.le_of_ble_eq_true rfl) rfl rfl rfl
theorem dX9_readName_4 : decode cX9_readName 4 = .ok (.aload_n 0, 1) := op_42 kcX9_readName (Nat.le_of_ble_eq_true rfl) rfl
theorem dX9_readName_5 : decode cX9_readName 5 = .ok (.getfield 15, 3) := op_180 (a := 0) (b := 15) kcX9_readName (Nat.le_of_ble_eq_true rfl) rfl rfl rfl
theorem dX9_readName_8 : decode cX9_readName 8 = .ok (.if_icmp .ge 31, 3) := op_162 (a := 0) (b := 31) kcX9_readName (Nat.le_of_ble_eq_true rfl) rfl rfl rfl (by decide)
theorem dX9_readName_11 : decode cX9_readName 11 = .ok (.aload_n 0, 1) := op_42 kcX9_readName (Nat.le_of_ble_eq_true rfl) rfl
theorem dX9_readName_12 : decode cX9_readName 12 = .ok (.getfield 9, 3) := op_180 (a := 0) (b := 9) kcX9_readName (Nat.le_of_ble_eq_true rfl) rfl rfl rfl
theorem dX9_readName_15 : decode cX9_readName 15 = .ok (.aload_n 0, 1) := op_42 kcX9_readName (Nat.le_of_ble_eq_true rfl) rfl
theorem dX9_readName_16 : decode cX9_readName 16 = .ok (.getfield 19, 3) := op_180 (a := 0) (b := 19) kcX9_readName (Nat.le_of_ble_eq_true rfl) rfl rfl rfl
theorem dX9_readName_19 : decode cX9_readName 19 = .ok (.baload, 1) := op_51 kcX9_readName (Nat.le_of_ble_eq_true rfl) rfl
theorem dX9_readName_20 : decode cX9_readName 20 = .ok (.invokestatic 31, 3) := op_184 (a := 0) (b := 31) kcX9_readName (Nat.le_of_ble_eq_true rfl) rfl rfl rfl
theorem dX9_readName_23 : decode cX9_readName 23 = .ok (.ifCond .eq 16, 3) := op_153 (a := 0) (b := 16) kcX9_readName (Nat.le_of_ble_eq_true rfl) rfl rfl rfl (by decide)
theorem dX9_readName_26 : decode cX9_readName 26 = .ok (.aload_n 0, 1) := op_42 kcX9_readName (Nat.le_of_ble_eq_true rfl) rfl
theorem dX9_readName_27 : decode cX9_readName 27 = .ok (.dup, 1) := op_89 kcX9_readName (Nat.le_of_ble_eq_true rfl) rfl
theorem dX9_readName_28 : decode cX9_readName 28 = .ok (.getfield 19, 3) := op_180 (a := 0) (b := 19) kcX9_readName (Nat.le_of_ble_eq_true rfl) rfl rfl rfl
theorem dX9_readName_31 : decode cX9_readName 31 = .ok (.iconst 1, 1) := op_4 kcX9_readName (Nat.le_of_ble_eq_true rfl) rfl
theorem dX9_readName_32 : decode cX9_readName 32 = .ok (.iadd, 1) := op_96 kcX9_readName (Nat.le_of_ble_eq_true rfl) rfl
theorem dX9_readName_33 : decode cX9_readName 33 = .ok (.putfield 19, 3) := op_181 (a := 0) (b := 19) kcX9_readName (Nat.le_of_ble_eq_true rfl) rfl rfl rfl
theorem dX9_readName_36 : decode cX9_readName 36 = .ok (.goto (-36), 3) := op_167 (a := 255) (b := 220) kcX9_readName (Nat.le_of_ble_eq_true rfl) rfl rfl rfl (by decide)
theorem dX9_readName_39 : decode cX9_readName 39 = .ok (.aload_n 0, 1) := op_42 kcX9_readName (Nat.le_of_ble_eq_true rfl) rfl
theorem dX9_readName_40 : decode cX9_readName 40 = .ok (.iconst 1, 1) := op_4 kcX9_readName (Nat.le_of_ble_eq_true rfl) rfl
theorem dX9_readName_41 : decode cX9_readName 41 = .ok (.putfield 22, 3) := op_181 (a := 0) (b := 22) kcX9_readName (Nat.le_of_ble_eq_true rfl) rfl rfl rfl
theorem dX9_readName_44 : decode cX9_readName 44 = .ok (.return_, 1) := op_177 kcX9_readName (Nat.le_of_ble_eq_true rfl) rfl
set_option maxRecDepth 20000 in
theorem ggX9_readFigures_X9_isFigure : GoodIn wsX9_readFigures wsX9_isFigure := goodIn_r _ [10] rfl gw_wsX9_isFigure
set_option maxRecDepth 20000 in
theorem gX9_readFigures_X9_isFigure : GoodIn wsX9_readFigures (va_wsS RX9 38 yX9_isFigure wsX9_isFigure) := goodIn_app (goodIn_of _ (by decide +kernel)) ggX9_readFigures_X9_isFigure
theorem kcX9_readFigures : (cX9_readFigures).data.toList = cbs 0xb11600b5050400a7070700a405641900b42a1300b42a2ac4ffa71300b560041300b4592a1c00b560643010331300b42a0900b42a680a101c00b42a2a2800992600b8331300b42a0900b42a3700a20f00b42a1300b42a1c00b5032a 91 := by decide +kernel
theorem dX9_readFigures_0 : decode cX9_readFigures 0 = .ok (.aload_n 0, 1) := op_42 kcX9_readFigures (Nat.le_of_ble_eq_true rfl) rfl
theorem dX9_readFigures_1 : decode cX9_readFigures 1 = .ok (.iconst 0, 1) := op_3 kcX9_readFigures (Nat.le_of_ble_eq_true rfl) rfl
theorem dX9_readFigures_2 : decode cX9_readFigures 2 = .ok (.putfield 28, 3) := op_181 (a := 0) (b := 28) kcX9_readFigures (Nat.le_of_ble_eq_true rfl) rfl rfl rfl
theorem dX9_readFigures_5 : decode cX9_readFigures 5 = .ok (.aload_n 0, 1) := op_42 kcX9_readFigures (Nat.le_of_ble_eq_true rfl) rfl
theorem dX9_readFigures_6 : decode cX9_readFigures 6 = .ok (.getfield 19, 3) := op_180 (a := 0) (b := 19) kcX9_readFigures (Nat.le_of_ble_eq_true rfl) rfl rfl rfl
theorem dX9_readFigures_9 : decode cX9_readFigures 9 = .ok (.aload_n 0, 1) := op_42 kcX9_readFigures (Nat.le_of_ble_eq_true rfl) rfl
theorem dX9_readFigures_10 : decode cX9_readFigures 10 = .ok (.getfield 15, 3) := op_180 (a := 0) (b := 15) kcX9_readFigures (Nat.le_of_ble_eq_true rfl) rfl rfl rfl
theorem dX9_readFigures_13 : decode cX9_readFigures 13 = .ok (.if_icmp .ge 55, 3) := op_162 (a := 0) (b := 55) kcX9_readFigures (Nat.le_of_ble_eq_true rfl) rfl rfl rfl (by decide)
theorem dX9_readFigures_16 : decode cX9_readFigures 16 = .ok (.aload_n 0, 1) := op_42 kcX9_readFigures (Nat.le_of_ble_eq_true rfl) rfl
theorem dX9_readFigures_17 : decode cX9_readFigures 17 = .ok (.getfield 9, 3) := op_180 (a := 0) (b := 9) kcX9_readFigures (Nat.le_of_ble_eq_true rfl) rfl rfl rfl
theorem dX9_readFigures_20 : decode cX9_readFigures 20 = .ok (.aload_n 0, 1) := op_42 kcX9_readFigures (Nat.le_of_ble_eq_true rfl) rfl
theorem dX9_readFigures_21 : decode cX9_readFigures 21 = .ok (.getfield 19, 3) := op_180 (a := 0) (b := 19) kcX9_readFigures (Nat.le_of_ble_eq_true rfl) rfl rfl rfl
theorem dX9_readFigures_24 : decode cX9_readFigures 24 = .ok (.baload, 1) := op_51 kcX9_readFigures (Nat.le_of_ble_eq_true rfl) rfl
theorem dX9_readFigures_25 : decode cX9_readFigures 25 = .ok (.invokestatic 38, 3) := op_184 (a := 0) (b := 38) kcX9_readFigures (Nat.le_of_ble_eq_true rfl) rfl rfl rfl
theorem dX9_readFigures_28 : decode cX9_readFigures 28 = .ok (.ifCond .eq 40, 3) := op_153 (a := 0) (b := 40) kcX9_readFigures (Nat.le_of_ble_eq_true rfl) rfl rfl rfl (by decide)
theorem dX9_readFigures_31 : decode cX9_readFigures 31 = .ok (.aload_n 0, 1) := op_42 kcX9_readFigures (Nat.le_of_ble_eq_true rfl) rfl
theorem dX9_readFigures_32 : decode cX9_readFigures 32 = .ok (.aload_n 0, 1) := op_42 kcX9_readFigures (Nat.le_of_ble_eq_true rfl) rfl
theorem dX9_readFigures_33 : decode cX9_readFigures 33 = .ok (.getfield 28, 3) := op_180 (a := 0) (b := 28) kcX9_readFigures (Nat.le_of_ble_eq_true rfl) rfl rfl rfl
theorem dX9_readFigures_36 : decode cX9_readFigures 36 = .ok (.bipush 10, 2) := op_16 (a := 10) kcX9_readFigures (Nat.le_of_ble_eq_true rfl) rfl rfl (by decide)
theorem dX9_readFigures_38 : decode cX9_readFigures 38 = .ok (.imul, 1) := op_104 kcX9_readFigures (Nat.le_of_ble_eq_true rfl) rfl
theorem dX9_readFigures_39 : decode cX9_readFigures 39 = .ok (.aload_n 0, 1) := op_42 kcX9_readFigures (Nat.le_of_ble_eq_true rfl) rfl
theorem dX9_readFigures_40 : decode cX9_readFigures 40 = .ok (.getfield 9, 3) := op_180 (a := 0) (b := 9) kcX9_readFigures (Nat.le_of_ble_eq_true rfl) rfl rfl rfl
theorem dX9_readFigures_43 : decode cX9_readFigures 43 = .ok (.aload_n 0, 1) := op_42 kcX9_readFigures (Nat.le_of_ble_eq_true rfl) rfl
theorem dX9_readFigures_44 : decode cX9_readFigures 44 = .ok (.getfield 19, 3) := op_180 (a := 0) (b := 19) kcX9_readFigures (Nat.le_of_ble_eq_true rfl) rfl rfl rfl
theorem dX9_readFigures_47 : decode cX9_readFigures 47 = .ok (.baload, 1) := op_51 kcX9_readFigures (Nat.le_of_ble_eq_true rfl) rfl
theorem dX9_readFigures_48 : decode cX9_readFigures 48 = .ok (.bipush 48, 2) := op_16 (a := 48) kcX9_readFigures (Nat.le_of_ble_eq_true rfl) rfl rfl (by decide)
theorem dX9_readFigures_50 : decode cX9_readFigures 50 = .ok (.isub, 1) := op_100 kcX9_readFigures (Nat.le_of_ble_eq_true rfl) rfl
theorem dX9_readFigures_51 : decode cX9_readFigures 51 = .ok (.iadd, 1) := op_96 kcX9_readFigures (Nat.le_of_ble_eq_true rfl) rfl
theorem dX9_readFigures_52 : decode cX9_readFigures 52 = .ok (.putfield 28, 3) := op_181 (a := 0) (b := 28) kcX9_readFigures (Nat.le_of_ble_eq_true rfl) rfl rfl rfl
theorem dX9_readFigures_55 : decode cX9_readFigures 55 = .ok (.aload_n 0, 1) := op_42 kcX9_readFigures (Nat.le_of_ble_eq_true rfl) rfl
theorem dX9_readFigures_56 : decode cX9_readFigures 56 = .ok (.dup, 1) := op_89 kcX9_readFigures (Nat.le_of_ble_eq_true rfl) rfl
theorem dX9_readFigures_57 : decode cX9_readFigures 57 = .ok (.getfield 19, 3) := op_180 (a := 0) (b := 19) kcX9_readFigures (Nat.le_of_ble_eq_true rfl) rfl rfl rfl
theorem dX9_readFigures_60 : decode cX9_readFigures 60 = .ok (.iconst 1, 1) := op_4 kcX9_readFigures (Nat.le_of_ble_eq_true rfl) rfl
theorem dX9_readFigures_61 : decode cX9_readFigures 61 = .ok (.iadd, 1) := op_96 kcX9_readFigures (Nat.le_of_ble_eq_true rfl) rfl
theorem dX9_readFigures_62 : decode cX9_readFigures 62 = .ok (.putfield 19, 3) := op_181 (a := 0) (b := 19) kcX9_readFigures (Nat.le_of_ble_eq_true rfl) rfl rfl rfl
theorem dX9_readFigures_65 : decode cX9_readFigures 65 = .ok (.goto (-60), 3) := op_167 (a := 255) (b := 196) kcX9_readFigures (Nat.le_of_ble_eq_true rfl) rfl rfl rfl (by decide)
theorem dX9_readFigures_68 : decode cX9_readFigures 68 = .ok (.aload_n 0, 1) := op_42 kcX9_readFigures (Nat.le_of_ble_eq_true rfl) rfl
theorem dX9_readFigures_69 : decode cX9_readFigures 69 = .ok (.aload_n 0, 1) := op_42 kcX9_readFigures (Nat.le_of_ble_eq_true rfl) rfl
theorem dX9_readFigures_70 : decode cX9_readFigures 70 = .ok (.getfield 19, 3) := op_180 (a := 0) (b := 19) kcX9_readFigures (Nat.le_of_ble_eq_true rfl) rfl rfl rfl
theorem dX9_readFigures_73 : decode cX9_readFigures 73 = .ok (.aload_n 0, 1) := op_42 kcX9_readFigures (Nat.le_of_ble_eq_true rfl) rfl
theorem dX9_readFigures_74 : decode cX9_readFigures 74 = .ok (.getfield 25, 3) := op_180 (a := 0) (b := 25) kcX9_readFigures (Nat.le_of_ble_eq_true rfl) rfl rfl rfl
theorem dX9_readFigures_77 : decode cX9_readFigures 77 = .ok (.isub, 1) := op_100 kcX9_readFigures (Nat.le_of_ble_eq_true rfl) rfl
theorem dX9_readFigures_78 : decode cX9_readFigures 78 = .ok (.iconst 2, 1) := op_5 kcX9_readFigures (Nat.le_of_ble_eq_true rfl) rfl
theorem dX9_readFigures_79 : decode cX9_readFigures 79 = .ok (.if_icmp .le 7, 3) := op_164 (a := 0) (b := 7) kcX9_readFigures (Nat.le_of_ble_eq_true rfl) rfl rfl rfl (by decide)
theorem dX9_readFigures_82 : decode cX9_readFigures 82 = .ok (.iconst 4, 1) := op_7 kcX9_readFigures (Nat.le_of_ble_eq_true rfl) rfl
theorem dX9_readFigures_83 : decode cX9_readFigures 83 = .ok (.goto 4, 3) := op_167 (a := 0) (b := 4) kcX9_readFigures (Nat.le_of_ble_eq_true rfl) rfl rfl rfl (by decide)
theorem dX9_readFigures_86 : decode cX9_readFigures 86 = .ok (.iconst 2, 1) := op_5 kcX9_readFigures (Nat.le_of_ble_eq_true rfl) rfl
theorem dX9_readFigures_87 : decode cX9_readFigures 87 = .ok (.putfield 22, 3) := op_181 (a := 0) (b := 22) kcX9_readFigures (Nat.le_of_ble_eq_true rfl) rfl rfl rfl
theorem dX9_readFigures_90 : decode cX9_readFigures 90 = .ok (.return_, 1) := op_177 kcX9_readFigures (Nat.le_of_ble_eq_true rfl) rfl
set_option maxRecDepth 20000 in
theorem gw_wsJ0_length_8abf5 : (wsJ0_length_8abf5).all goodWord = true := by decide +kernel
set_option maxRecDepth 20000 in
theorem ggX9_isNamed_J0_length_8abf5 : GoodIn wsX9_isNamed wsJ0_length_8abf5 := goodIn_r _ [8, 9, 10, 11, 12, 7, 13, 14, 15] rfl gw_wsJ0_length_8abf5
set_option maxRecDepth 20000 in
theorem gX9_isNamed_J0_length_8abf5 : GoodIn wsX9_isNamed (wsV RX9 44 RJ0 yJ0_length_8abf5 wsJ0_length_8abf5) := goodIn_app (goodIn_of _ (by decide +kernel)) ggX9_isNamed_J0_length_8abf5
set_option maxRecDepth 20000 in
theorem gw_wsJ0_charAt_5068e : (wsJ0_charAt_5068e).all goodWord = true := by decide +kernel
set_option maxRecDepth 20000 in
theorem ggX9_isNamed_J0_charAt_5068e : GoodIn wsX9_isNamed wsJ0_charAt_5068e := goodIn_r _ [19, 9, 20, 21, 22, 7, 23, 14, 15, 24, 25, 26, 27, 28, 29, 30, 31, 32, 33, 34, 35, 36, 37, 38, 39, 40, 41, 42, 43, 44, 45, 46, 47, 48, 49, 50, 51, 52] rfl gw_wsJ0_charAt_5068e
set_option maxRecDepth 20000 in
theorem gX9_isNamed_J0_charAt_5068e : GoodIn wsX9_isNamed (wsV RX9 49 RJ0 yJ0_charAt_5068e wsJ0_charAt_5068e) := goodIn_app (goodIn_of _ (by decide +kernel)) ggX9_isNamed_J0_charAt_5068e
theorem kcX9_isNamed : (cX9_isNamed).data.toList = cbs 0xac04e0ffa7010284ac0305009f3100b61c2b33601c1900b42a0900b42a1e00a22c00b62b1c3d03ac0305009f2c00b62b641900b42a1300b42a 57 := by decide +kernel
theorem dX9_isNamed_0 : decode cX9_isNamed 0 = .ok (.aload_n 0, 1) := op_42 kcX9_isNamed (Nat.le_of_ble_eq_true rfl) rfl
theorem dX9_isNamed_1 : decode cX9_isNamed 1 = .ok (.getfield 19, 3) := op_180 (a := 0) (b := 19) kcX9_isNamed (Nat.le_of_ble_eq_true rfl) rfl rfl rfl
theorem dX9_isNamed_4 : decode cX9_isNamed 4 = .ok (.aload_n 0, 1) := op_42 kcX9_isNamed (Nat.le_of_ble_eq_true rfl) rfl
theorem dX9_isNamed_5 : decode cX9_isNamed 5 = .ok (.getfield 25, 3) := op_180 (a := 0) (b := 25) kcX9_isNamed (Nat.le_of_ble_eq_true rfl) rfl rfl rfl
theorem dX9_isNamed_8 : decode cX9_isNamed 8 = .ok (.isub, 1) := op_100 kcX9_isNamed (Nat.le_of_ble_eq_true rfl) rfl
theorem dX9_isNamed_9 : decode cX9_isNamed 9 = .ok (.aload_n 1, 1) := op_43 kcX9_isNamed (Nat.le_of_ble_eq_true rfl) rfl
theorem dX9_isNamed_10 : decode cX9_isNamed 10 = .ok (.invokevirtual 44, 3) := op_182 (a := 0) (b := 44) kcX9_isNamed (Nat.le_of_ble_eq_true rfl) rfl rfl rfl
theorem dX9_isNamed_13 : decode cX9_isNamed 13 = .ok (.if_icmp .eq 5, 3) := op_159 (a := 0) (b := 5) kcX9_isNamed (Nat.le_of_ble_eq_true rfl) rfl rfl rfl (by decide)
theorem dX9_isNamed_16 : decode cX9_isNamed 16 = .ok (.iconst 0, 1) := op_3 kcX9_isNamed (Nat.le_of_ble_eq_true rfl) rfl
theorem dX9_isNamed_17 : decode cX9_isNamed 17 = .ok (.ireturn, 1) := op_172 kcX9_isNamed (Nat.le_of_ble_eq_true rfl) rfl
theorem dX9_isNamed_18 : decode cX9_isNamed 18 = .ok (.iconst 0, 1) := op_3 kcX9_isNamed (Nat.le_of_ble_eq_true rfl) rfl
theorem dX9_isNamed_19 : decode cX9_isNamed 19 = .ok (.istore_n 2, 1) := op_61 kcX9_isNamed (Nat.le_of_ble_eq_true rfl) rfl
theorem dX9_isNamed_20 : decode cX9_isNamed 20 = .ok (.iload_n 2, 1) := op_28 kcX9_isNamed (Nat.le_of_ble_eq_true rfl) rfl
theorem dX9_isNamed_21 : decode cX9_isNamed 21 = .ok (.aload_n 1, 1) := op_43 kcX9_isNamed (Nat.le_of_ble_eq_true rfl) rfl
theorem dX9_isNamed_22 : decode cX9_isNamed 22 = .ok (.invokevirtual 44, 3) := op_182 (a := 0) (b := 44) kcX9_isNamed (Nat.le_of_ble_eq_true rfl) rfl rfl rfl
theorem dX9_isNamed_25 : decode cX9_isNamed 25 = .ok (.if_icmp .ge 30, 3) := op_162 (a := 0) (b := 30) kcX9_isNamed (Nat.le_of_ble_eq_true rfl) rfl rfl rfl (by decide)
theorem dX9_isNamed_28 : decode cX9_isNamed 28 = .ok (.aload_n 0, 1) := op_42 kcX9_isNamed (Nat.le_of_ble_eq_true rfl) rfl
theorem dX9_isNamed_29 : decode cX9_isNamed 29 = .ok (.getfield 9, 3) := op_180 (a := 0) (b := 9) kcX9_isNamed (Nat.le_of_ble_eq_true rfl) rfl rfl rfl
theorem dX9_isNamed_32 : decode cX9_isNamed 32 = .ok (.aload_n 0, 1) := op_42 kcX9_isNamed (Nat.le_of_ble_eq_true rfl) rfl
theorem dX9_isNamed_33 : decode cX9_isNamed 33 = .ok (.getfield 25, 3) := op_180 (a := 0) (b := 25) kcX9_isNamed (Nat.le_of_ble_eq_true rfl) rfl rfl rfl
theorem dX9_isNamed_36 : decode cX9_isNamed 36 = .ok (.iload_n 2, 1) := op_28 kcX9_isNamed (Nat.le_of_ble_eq_true rfl) rfl
theorem dX9_isNamed_37 : decode cX9_isNamed 37 = .ok (.iadd, 1) := op_96 kcX9_isNamed (Nat.le_of_ble_eq_true rfl) rfl
theorem dX9_isNamed_38 : decode cX9_isNamed 38 = .ok (.baload, 1) := op_51 kcX9_isNamed (Nat.le_of_ble_eq_true rfl) rfl
theorem dX9_isNamed_39 : decode cX9_isNamed 39 = .ok (.aload_n 1, 1) := op_43 kcX9_isNamed (Nat.le_of_ble_eq_true rfl) rfl
theorem dX9_isNamed_40 : decode cX9_isNamed 40 = .ok (.iload_n 2, 1) := op_28 kcX9_isNamed (Nat.le_of_ble_eq_true rfl) rfl
theorem dX9_isNamed_41 : decode cX9_isNamed 41 = .ok (.invokevirtual 49, 3) := op_182 (a := 0) (b := 49) kcX9_isNamed (Nat.le_of_ble_eq_true rfl) rfl rfl rfl
theorem dX9_isNamed_44 : decode cX9_isNamed 44 = .ok (.if_icmp .eq 5, 3) := op_159 (a := 0) (b := 5) kcX9_isNamed (Nat.le_of_ble_eq_true rfl) rfl rfl rfl (by decide)
theorem dX9_isNamed_47 : decode cX9_isNamed 47 = .ok (.iconst 0, 1) := op_3 kcX9_isNamed (Nat.le_of_ble_eq_true rfl) rfl
theorem dX9_isNamed_48 : decode cX9_isNamed 48 = .ok (.ireturn, 1) := op_172 kcX9_isNamed (Nat.le_of_ble_eq_true rfl) rfl
theorem dX9_isNamed_49 : decode cX9_isNamed 49 = .ok (.iinc 2 1, 3) := by decide +kernel
theorem dX9_isNamed_52 : decode cX9_isNamed 52 = .ok (.goto (-32), 3) := op_167 (a := 255) (b := 224) kcX9_isNamed (Nat.le_of_ble_eq_true rfl) rfl rfl rfl (by decide)
theorem dX9_isNamed_55 : decode cX9_isNamed 55 = .ok (.iconst 1, 1) := op_4 kcX9_isNamed (Nat.le_of_ble_eq_true rfl) rfl
theorem dX9_isNamed_56 : decode cX9_isNamed 56 = .ok (.ireturn, 1) := op_172 kcX9_isNamed (Nat.le_of_ble_eq_true rfl) rfl
theorem kcX9_isLetter : (cX9_isLetter).data.toList = cbs 0xac030400a7040700a37a101a0d00a161101a 18 := by decide +kernel
theorem dX9_isLetter_0 : decode cX9_isLetter 0 = .ok (.iload_n 0, 1) := op_26 kcX9_isLetter (Nat.le_of_ble_eq_true rfl) rfl
theorem dX9_isLetter_1 : decode cX9_isLetter 1 = .ok (.bipush 97, 2) := op_16 (a := 97) kcX9_isLetter (Nat.le_of_ble_eq_true rfl) rfl rfl (by decide)
theorem dX9_isLetter_3 : decode cX9_isLetter 3 = .ok (.if_icmp .lt 13, 3) := op_161 (a := 0) (b := 13) kcX9_isLetter (Nat.le_of_ble_eq_true rfl) rfl rfl rfl (by decide)
theorem dX9_isLetter_6 : decode cX9_isLetter 6 = .ok (.iload_n 0, 1) := op_26 kcX9_isLetter (Nat.le_of_ble_eq_true rfl) rfl
theorem dX9_isLetter_7 : decode cX9_isLetter 7 = .ok (.bipush 122, 2) := op_16 (a := 122) kcX9_isLetter (Nat.le_of_ble_eq_true rfl) rfl rfl (by decide)
theorem dX9_isLetter_9 : decode cX9_isLetter 9 = .ok (.if_icmp .gt 7, 3) := op_163 (a := 0) (b := 7) kcX9_isLetter (Nat.le_of_ble_eq_true rfl) rfl rfl rfl (by decide)
theorem dX9_isLetter_12 : decode cX9_isLetter 12 = .ok (.iconst 1, 1) := op_4 kcX9_isLetter (Nat.le_of_ble_eq_true rfl) rfl
theorem dX9_isLetter_13 : decode cX9_isLetter 13 = .ok (.goto 4, 3) := op_167 (a := 0) (b := 4) kcX9_isLetter (Nat.le_of_ble_eq_true rfl) rfl rfl rfl (by decide)
theorem dX9_isLetter_16 : decode cX9_isLetter 16 = .ok (.iconst 0, 1) := op_3 kcX9_isLetter (Nat.le_of_ble_eq_true rfl) rfl
theorem dX9_isLetter_17 : decode cX9_isLetter 17 = .ok (.ireturn, 1) := op_172 kcX9_isLetter (Nat.le_of_ble_eq_true rfl) rfl
theorem kcX9_isFigure : (cX9_isFigure).data.toList = cbs 0xac030400a7040700a339101a0d00a130101a 18 := by decide +kernel
theorem dX9_isFigure_0 : decode cX9_isFigure 0 = .ok (.iload_n 0, 1) := op_26 kcX9_isFigure (Nat.le_of_ble_eq_true rfl) rfl
theorem dX9_isFigure_1 : decode cX9_isFigure 1 = .ok (.bipush 48, 2) := op_16 (a := 48) kcX9_isFigure (Nat.le_of_ble_eq_true rfl) rfl rfl (by decide)
theorem dX9_isFigure_3 : decode cX9_isFigure 3 = .ok (.if_icmp .lt 13, 3) := op_161 (a := 0) (b := 13) kcX9_isFigure (Nat.le_of_ble_eq_true rfl) rfl rfl rfl (by decide)
theorem dX9_isFigure_6 : decode cX9_isFigure 6 = .ok (.iload_n 0, 1) := op_26 kcX9_isFigure (Nat.le_of_ble_eq_true rfl) rfl
theorem dX9_isFigure_7 : decode cX9_isFigure 7 = .ok (.bipush 57, 2) := op_16 (a := 57) kcX9_isFigure (Nat.le_of_ble_eq_true rfl) rfl rfl (by decide)
theorem dX9_isFigure_9 : decode cX9_isFigure 9 = .ok (.if_icmp .gt 7, 3) := op_163 (a := 0) (b := 7) kcX9_isFigure (Nat.le_of_ble_eq_true rfl) rfl rfl rfl (by decide)
theorem dX9_isFigure_12 : decode cX9_isFigure 12 = .ok (.iconst 1, 1) := op_4 kcX9_isFigure (Nat.le_of_ble_eq_true rfl) rfl
theorem dX9_isFigure_13 : decode cX9_isFigure 13 = .ok (.goto 4, 3) := op_167 (a := 0) (b := 4) kcX9_isFigure (Nat.le_of_ble_eq_true rfl) rfl rfl rfl (by decide)
theorem dX9_isFigure_16 : decode cX9_isFigure 16 = .ok (.iconst 0, 1) := op_3 kcX9_isFigure (Nat.le_of_ble_eq_true rfl) rfl
theorem dX9_isFigure_17 : decode cX9_isFigure 17 = .ok (.ireturn, 1) := op_172 kcX9_isFigure (Nat.le_of_ble_eq_true rfl) rfl
set_option maxRecDepth 20000 in
theorem gw_wsX6_init : (wsX6_init).all goodWord = true := by decide +kernel
set_option maxRecDepth 20000 in
theorem ggX10_init_X6_init : GoodIn wsX10_init wsX6_init := goodIn_r _ [21, 22, 2, 3, 23, 24, 17, 25, 26, 27, 28, 29, 47, 48, 49, 50, 51, 52, 53] rfl gw_wsX6_init
set_option maxRecDepth 20000 in
theorem gX10_init_X6_init_n11 : GoodIn wsX10_init (wsX6_init) := ggX10_init_X6_init
set_option maxRecDepth 20000 in
theorem gw_wsX8_init : (wsX8_init).all goodWord = true := by decide +kernel
set_option maxRecDepth 20000 in
theorem ggX10_init_X8_init : GoodIn wsX10_init wsX8_init := goodIn_r _ [32, 33, 2, 3, 17, 34, 35, 36, 37, 38, 39, 40, 41, 42, 43, 44, 45, 46, 63, 64, 65, 66, 67, 68, 69, 70, 71] rfl gw_wsX8_init
set_option maxRecDepth 20000 in
theorem gX10_init_X8_init : GoodIn wsX10_init (wsX8_init) := ggX10_init_X8_init
theorem kcX10_init : (cX10_init).data.toList = cbs 0xb12d00b52b2a2900b50abc07102a2600b5032a2300b5032a2000b5032a1d00b5032a1900b5032a1500b51400b7591200bb2a0c00b50b00b7590900bb2a0300b72a 65 := by decide +kernel
theorem dX10_init_0 : decode cX10_init 0 = .ok (.aload_n 0, 1) := op_42 kcX10_init (Nat.le_of_ble_eq_true rfl) rfl
theorem dX10_init_1 : decode cX10_init 1 = .ok (.invokespecial 3, 3) := op_183 (a := 0) (b := 3) kcX10_init (Nat.le_of_ble_eq_true rfl) rfl rfl rfl
theorem dX10_init_4 : decode cX10_init 4 = .ok (.aload_n 0, 1) := op_42 kcX10_init (Nat.le_of_ble_eq_true rfl) rfl
theorem dX10_init_5 : decode cX10_init 5 = .ok (.new 9, 3) := op_187 (a := 0) (b := 9) kcX10_init (Nat.le_of_ble_eq_true rfl) rfl rfl rfl
theorem dX10_init_8 : decode cX10_init 8 = .ok (.dup, 1) := op_89 kcX10_init (Nat.le_of_ble_eq_true rfl) rfl
theorem dX10_init_9 : decode cX10_init 9 = .ok (.invokespecial 11, 3) := op_183 (a := 0) (b := 11) kcX10_init (Nat.le_of_ble_eq_true rfl) rfl rfl rfl
theorem dX10_init_12 : decode cX10_init 12 = .ok (.putfield 12, 3) := op_181 (a := 0) (b := 12) kcX10_init (Nat.le_of_ble_eq_true rfl) rfl rfl rfl
theorem dX10_init_15 : decode cX10_init 15 = .ok (.aload_n 0, 1) := op_42 kcX10_init (Nat.le_of_ble_eq_true rfl) rfl
theorem dX10_init_16 : decode cX10_init 16 = .ok (.new 18, 3) := op_187 (a := 0) (b := 18) kcX10_init (Nat.le_of_ble_eq_true rfl) rfl rfl rfl
theorem dX10_init_19 : decode cX10_init 19 = .ok (.dup, 1) := op_89 kcX10_init (Nat.le_of_ble_eq_true rfl) rfl
theorem dX10_init_20 : decode cX10_init 20 = .ok (.invokespecial 20, 3) := op_183 (a := 0) (b := 20) kcX10_init (Nat.le_of_ble_eq_true rfl) rfl rfl rfl
theorem dX10_init_23 : decode cX10_init 23 = .ok (.putfield 21, 3) := op_181 (a := 0) (b := 21) kcX10_init (Nat.le_of_ble_eq_true rfl) rfl rfl rfl
theorem dX10_init_26 : decode cX10_init 26 = .ok (.aload_n 0, 1) := op_42 kcX10_init (Nat.le_of_ble_eq_true rfl) rfl
theorem dX10_init_27 : decode cX10_init 27 = .ok (.iconst 0, 1) := op_3 kcX10_init (Nat.le_of_ble_eq_true rfl) rfl
theorem dX10_init_28 : decode cX10_init 28 = .ok (.putfield 25, 3) := op_181 (a := 0) (b := 25) kcX10_init (Nat.le_of_ble_eq_true rfl) rfl rfl rfl
theorem dX10_init_31 : decode cX10_init 31 = .ok (.aload_n 0, 1) := op_42 kcX10_init (Nat.le_of_ble_eq_true rfl) rfl
theorem dX10_init_32 : decode cX10_init 32 = .ok (.iconst 0, 1) := op_3 kcX10_init (Nat.le_of_ble_eq_true rfl) rfl
theorem dX10_init_33 : decode cX10_init 33 = .ok (.putfield 29, 3) := op_181 (a := 0) (b := 29) kcX10_init (Nat.le_of_ble_eq_true rfl) rfl rfl rfl
theorem dX10_init_36 : decode cX10_init 36 = .ok (.aload_n 0, 1) := op_42 kcX10_init (Nat.le_of_ble_eq_true rfl) rfl
theorem dX10_init_37 : decode cX10_init 37 = .ok (.iconst 0, 1) := op_3 kcX10_init (Nat.le_of_ble_eq_true rfl) rfl
theorem dX10_init_38 : decode cX10_init 38 = .ok (.putfield 32, 3) := op_181 (a := 0) (b := 32) kcX10_init (Nat.le_of_ble_eq_true rfl) rfl rfl rfl
theorem dX10_init_41 : decode cX10_init 41 = .ok (.aload_n 0, 1) := op_42 kcX10_init (Nat.le_of_ble_eq_true rfl) rfl
theorem dX10_init_42 : decode cX10_init 42 = .ok (.iconst 0, 1) := op_3 kcX10_init (Nat.le_of_ble_eq_true rfl) rfl
theorem dX10_init_43 : decode cX10_init 43 = .ok (.putfield 35, 3) := op_181 (a := 0) (b := 35) kcX10_init (Nat.le_of_ble_eq_true rfl) rfl rfl rfl
theorem dX10_init_46 : decode cX10_init 46 = .ok (.aload_n 0, 1) := op_42 kcX10_init (Nat.le_of_ble_eq_true rfl) rfl
theorem dX10_init_47 : decode cX10_init 47 = .ok (.iconst 0, 1) := op_3 kcX10_init (Nat.le_of_ble_eq_true rfl) rfl
theorem dX10_init_48 : decode cX10_init 48 = .ok (.putfield 38, 3) := op_181 (a := 0) (b := 38) kcX10_init (Nat.le_of_ble_eq_true rfl) rfl rfl rfl
theorem dX10_init_51 : decode cX10_init 51 = .ok (.aload_n 0, 1) := op_42 kcX10_init (Nat.le_of_ble_eq_true rfl) rfl
theorem dX10_init_52 : decode cX10_init 52 = .ok (.bipush 7, 2) := op_16 (a := 7) kcX10_init (Nat.le_of_ble_eq_true rfl) rfl rfl (by decide)
theorem dX10_init_54 : decode cX10_init 54 = .ok (.newarray .int, 2) := by decide +kernel
theorem dX10_init_56 : decode cX10_init 56 = .ok (.putfield 41, 3) := op_181 (a := 0) (b := 41) kcX10_init (Nat.le_of_ble_eq_true rfl) rfl rfl rfl
theorem dX10_init_59 : decode cX10_init 59 = .ok (.aload_n 0, 1) := op_42 kcX10_init (Nat.le_of_ble_eq_true rfl) rfl
theorem dX10_init_60 : decode cX10_init 60 = .ok (.aload_n 1, 1) := op_43 kcX10_init (Nat.le_of_ble_eq_true rfl) rfl
theorem dX10_init_61 : decode cX10_init 61 = .ok (.putfield 45, 3) := op_181 (a := 0) (b := 45) kcX10_init (Nat.le_of_ble_eq_true rfl) rfl rfl rfl
theorem dX10_init_64 : decode cX10_init 64 = .ok (.return_, 1) := op_177 kcX10_init (Nat.le_of_ble_eq_true rfl) rfl
set_option maxRecDepth 20000 in
theorem gw_wsX10_begin : (wsX10_begin).all goodWord = true := by decide +kernel
set_option maxRecDepth 20000 in
theorem ggX10_readTape_X10_begin : GoodIn wsX10_readTape wsX10_begin := goodIn_r _ [13, 3, 14, 5, 1, 8, 15, 2, 16, 17, 18, 19, 20, 21, 22, 23, 24, 25, 26, 27, 28, 29, 30, 31, 32, 33, 34, 35, 36, 37, 38, 39, 40, 41, 42, 43, 44, 45, 46, 47, 221, 222, 223, 224, 225, 226, 227, 228, 229, 230, 231, 232, 233, 234, 235, 236, 243, 244, 245, 246, 247, 248, 249, 250, 251, 237, 238, 239, 240, 241, 242] rfl gw_wsX10_begin
set_option maxRecDepth 20000 in
theorem gX10_readTape_X10_begin : GoodIn wsX10_readTape (wsV RX10 49 RX10 yX10_begin wsX10_begin) := goodIn_app (goodIn_of _ (by decide +kernel)) ggX10_readTape_X10_begin
set_option maxRecDepth 20000 in
theorem gw_wsX10_readLine : (wsX10_readLine).all goodWord = true := by decide +kernel
set_option maxRecDepth 20000 in
theorem ggX10_readTape_X10_readLine : GoodIn wsX10_readTape wsX10_readLine := goodIn_r _ [51, 5, 52, 53, 15, 54, 55, 56, 57, 58, 59, 60, 45, 61, 47, 62, 63, 64, 65, 66, 67, 68, 69, 70, 71, 72, 73, 74, 75, 76, 77, 78, 79, 80, 81, 82, 83, 12, 84, 85, 86, 87, 88, 89, 90, 91, 92, 93, 94, 95, 96, 97, 98, 99, 100, 101, 102, 103, 104, 105, 106, 107, 108, 109, 110, 111, 112, 113, 114, 115, 116, 117, 118, 119, 120, 121, 122, 123, 124, 125, 126, 127, 128, 129, 130, 131, 132, 133, 134, 135, 136, 137, 138, 139, 140, 141, 142, 143, 144, 3, 145, 146, 147, 148, 149, 1, 7, 150, 151, 152, 153, 8, 4, 14, 154, 155, 156, 157, 158, 159, 160, 161, 162, 163, 164, 165, 166, 167, 168, 169, 170, 2, 171, 172, 173, 31, 174, 34, 175, 176, 177, 178, 179, 180, 181, 19, 182, 22, 183, 184, 185, 186, 187, 188, 189, 190, 191, 192, 193, 194, 195, 196, 197, 198, 199, 200, 201, 221, 222, 223, 224, 225, 226, 227, 228, 229, 237, 238, 239, 240, 241, 242, 230, 231, 232, 233, 234, 235, 236, 243, 244, 245, 246, 247, 248, 249, 250, 251] rfl gw_wsX10_readLine
set_option maxRecDepth 20000 in
theorem gX10_readTape_X10_readLine : GoodIn wsX10_readTape (wsV RX10 52 RX10 yX10_readLine wsX10_readLine) := goodIn_app (goodIn_of _ (by decide +kernel)) ggX10_readTape_X10_readLine
set_option maxRecDepth 20000 in
theorem gw_wsX10_refuse : (wsX10_refuse).all goodWord = true := by decide +kernel
set_option maxRecDepth 20000 in
theorem ggX10_readTape_X10_refuse : GoodIn wsX10_readTape wsX10_refuse := goodIn_r _ [149, 1, 7, 221, 222, 223, 224, 225, 226, 227, 228, 229] rfl gw_wsX10_refuse
set_option maxRecDepth 20000 in
theorem gX10_readTape_X10_refuse : GoodIn wsX10_readTape (wsV RX10 64 RX10 yX10_refuse wsX10_refuse) := goodIn_app (goodIn_of _ (by decide +kernel)) ggX10_readTape_X10_refuse
set_option maxRecDepth 20000 in
theorem gw_wsX6_workOutStirs : (wsX6_workOutStirs).all goodWord = true := by decide +kernel
set_option maxRecDepth 20000 in
theorem ggX10_readTape_X6_workOutStirs : GoodIn wsX10_readTape wsX6_workOutStirs := goodIn_r _ [205, 22, 21, 206, 207, 208, 209, 19, 210, 183, 184, 185, 211, 212, 213, 214, 215, 216, 217, 218, 219, 220, 230, 231, 232, 233, 234, 235, 236] rfl gw_wsX6_workOutStirs
set_option maxRecDepth 20000 in
theorem gX10_readTape_X6_workOutStirs : GoodIn wsX10_readTape (wsV RX10 68 RX6 yX6_workOutStirs wsX6_workOutStirs) := goodIn_app (goodIn_of _ (by decide +kernel)) ggX10_readTape_X6_workOutStirs
theorem kcX10_readTape : (cX10_readTape).data.toList = cbs 0xac2000b42a4400b60c00b42aac641d00b42af6100b00991900b42a574000b63b00b42d00b42a06102a1100a13800b40c00b42a2600b42a1f009a1900b42aedffa70102843c3400b62a0e00991b1200a34001111c3d033c043100b62a 92 := by decide +kernel
theorem dX10_readTape_0 : decode cX10_readTape 0 = .ok (.aload_n 0, 1) := op_42 kcX10_readTape (Nat.le_of_ble_eq_true rfl) rfl
theorem dX10_readTape_1 : decode cX10_readTape 1 = .ok (.invokevirtual 49, 3) := op_182 (a := 0) (b := 49) kcX10_readTape (Nat.le_of_ble_eq_true rfl) rfl rfl rfl
theorem dX10_readTape_4 : decode cX10_readTape 4 = .ok (.iconst 1, 1) := op_4 kcX10_readTape (Nat.le_of_ble_eq_true rfl) rfl
theorem dX10_readTape_5 : decode cX10_readTape 5 = .ok (.istore_n 1, 1) := op_60 kcX10_readTape (Nat.le_of_ble_eq_true rfl) rfl
theorem dX10_readTape_6 : decode cX10_readTape 6 = .ok (.iconst 0, 1) := op_3 kcX10_readTape (Nat.le_of_ble_eq_true rfl) rfl
theorem dX10_readTape_7 : decode cX10_readTape 7 = .ok (.istore_n 2, 1) := op_61 kcX10_readTape (Nat.le_of_ble_eq_true rfl) rfl
theorem dX10_readTape_8 : decode cX10_readTape 8 = .ok (.iload_n 2, 1) := op_28 kcX10_readTape (Nat.le_of_ble_eq_true rfl) rfl
theorem dX10_readTape_9 : decode cX10_readTape 9 = .ok (.sipush 320, 3) := by decide +kernel
theorem dX10_readTape_12 : decode cX10_readTape 12 = .ok (.if_icmp .gt 18, 3) := op_163 (a := 0) (b := 18) kcX10_readTape (Nat.le_of_ble_eq_true rfl) rfl rfl rfl (by decide)
theorem dX10_readTape_15 : decode cX10_readTape 15 = .ok (.iload_n 1, 1) := op_27 kcX10_readTape (Nat.le_of_ble_eq_true rfl) rfl
theorem dX10_readTape_16 : decode cX10_readTape 16 = .ok (.ifCond .eq 14, 3) := op_153 (a := 0) (b := 14) kcX10_readTape (Nat.le_of_ble_eq_true rfl) rfl rfl rfl (by decide)
theorem dX10_readTape_19 : decode cX10_readTape 19 = .ok (.aload_n 0, 1) := op_42 kcX10_readTape (Nat.le_of_ble_eq_true rfl) rfl
theorem dX10_readTape_20 : decode cX10_readTape 20 = .ok (.invokevirtual 52, 3) := op_182 (a := 0) (b := 52) kcX10_readTape (Nat.le_of_ble_eq_true rfl) rfl rfl rfl
theorem dX10_readTape_23 : decode cX10_readTape 23 = .ok (.istore_n 1, 1) := op_60 kcX10_readTape (Nat.le_of_ble_eq_true rfl) rfl
theorem dX10_readTape_24 : decode cX10_readTape 24 = .ok (.iinc 2 1, 3) := by decide +kernel
theorem dX10_readTape_27 : decode cX10_readTape 27 = .ok (.goto (-19), 3) := op_167 (a := 255) (b := 237) kcX10_readTape (Nat.le_of_ble_eq_true rfl) rfl rfl rfl (by decide)
theorem dX10_readTape_30 : decode cX10_readTape 30 = .ok (.aload_n 0, 1) := op_42 kcX10_readTape (Nat.le_of_ble_eq_true rfl) rfl
theorem dX10_readTape_31 : decode cX10_readTape 31 = .ok (.getfield 25, 3) := op_180 (a := 0) (b := 25) kcX10_readTape (Nat.le_of_ble_eq_true rfl) rfl rfl rfl
theorem dX10_readTape_34 : decode cX10_readTape 34 = .ok (.ifCond .ne 31, 3) := op_154 (a := 0) (b := 31) kcX10_readTape (Nat.le_of_ble_eq_true rfl) rfl rfl rfl (by decide)
theorem dX10_readTape_37 : decode cX10_readTape 37 = .ok (.aload_n 0, 1) := op_42 kcX10_readTape (Nat.le_of_ble_eq_true rfl) rfl
theorem dX10_readTape_38 : decode cX10_readTape 38 = .ok (.getfield 38, 3) := op_180 (a := 0) (b := 38) kcX10_readTape (Nat.le_of_ble_eq_true rfl) rfl rfl rfl
theorem dX10_readTape_41 : decode cX10_readTape 41 = .ok (.aload_n 0, 1) := op_42 kcX10_readTape (Nat.le_of_ble_eq_true rfl) rfl
theorem dX10_readTape_42 : decode cX10_readTape 42 = .ok (.getfield 12, 3) := op_180 (a := 0) (b := 12) kcX10_readTape (Nat.le_of_ble_eq_true rfl) rfl rfl rfl
theorem dX10_readTape_45 : decode cX10_readTape 45 = .ok (.getfield 56, 3) := op_180 (a := 0) (b := 56) kcX10_readTape (Nat.le_of_ble_eq_true rfl) rfl rfl rfl
theorem dX10_readTape_48 : decode cX10_readTape 48 = .ok (.if_icmp .lt 17, 3) := op_161 (a := 0) (b := 17) kcX10_readTape (Nat.le_of_ble_eq_true rfl) rfl rfl rfl (by decide)
theorem dX10_readTape_51 : decode cX10_readTape 51 = .ok (.aload_n 0, 1) := op_42 kcX10_readTape (Nat.le_of_ble_eq_true rfl) rfl
theorem dX10_readTape_52 : decode cX10_readTape 52 = .ok (.bipush 6, 2) := op_16 (a := 6) kcX10_readTape (Nat.le_of_ble_eq_true rfl) rfl rfl (by decide)
theorem dX10_readTape_54 : decode cX10_readTape 54 = .ok (.aload_n 0, 1) := op_42 kcX10_readTape (Nat.le_of_ble_eq_true rfl) rfl
theorem dX10_readTape_55 : decode cX10_readTape 55 = .ok (.getfield 45, 3) := op_180 (a := 0) (b := 45) kcX10_readTape (Nat.le_of_ble_eq_true rfl) rfl rfl rfl
theorem dX10_readTape_58 : decode cX10_readTape 58 = .ok (.getfield 59, 3) := op_180 (a := 0) (b := 59) kcX10_readTape (Nat.le_of_ble_eq_true rfl) rfl rfl rfl
theorem dX10_readTape_61 : decode cX10_readTape 61 = .ok (.invokevirtual 64, 3) := op_182 (a := 0) (b := 64) kcX10_readTape (Nat.le_of_ble_eq_true rfl) rfl rfl rfl
theorem dX10_readTape_64 : decode cX10_readTape 64 = .ok (.pop, 1) := op_87 kcX10_readTape (Nat.le_of_ble_eq_true rfl) rfl
theorem dX10_readTape_65 : decode cX10_readTape 65 = .ok (.aload_n 0, 1) := op_42 kcX10_readTape (Nat.le_of_ble_eq_true rfl) rfl
theorem dX10_readTape_66 : decode cX10_readTape 66 = .ok (.getfield 25, 3) := op_180 (a := 0) (b := 25) kcX10_readTape (Nat.le_of_ble_eq_true rfl) rfl rfl rfl
theorem dX10_readTape_69 : decode cX10_readTape 69 = .ok (.ifCond .eq 11, 3) := op_153 (a := 0) (b := 11) kcX10_readTape (Nat.le_of_ble_eq_true rfl) rfl rfl rfl (by decide)
theorem dX10_readTape_72 : decode cX10_readTape 72 = .ok (.bipush (-10), 2) := op_16 (a := 246) kcX10_readTape (Nat.le_of_ble_eq_true rfl) rfl rfl (by decide)
theorem dX10_readTape_74 : decode cX10_readTape 74 = .ok (.aload_n 0, 1) := op_42 kcX10_readTape (Nat.le_of_ble_eq_true rfl) rfl
theorem dX10_readTape_75 : decode cX10_readTape 75 = .ok (.getfield 29, 3) := op_180 (a := 0) (b := 29) kcX10_readTape (Nat.le_of_ble_eq_true rfl) rfl rfl rfl
theorem dX10_readTape_78 : decode cX10_readTape 78 = .ok (.isub, 1) := op_100 kcX10_readTape (Nat.le_of_ble_eq_true rfl) rfl
theorem dX10_readTape_79 : decode cX10_readTape 79 = .ok (.ireturn, 1) := op_172 kcX10_readTape (Nat.le_of_ble_eq_true rfl) rfl
theorem dX10_readTape_80 : decode cX10_readTape 80 = .ok (.aload_n 0, 1) := op_42 kcX10_readTape (Nat.le_of_ble_eq_true rfl) rfl
theorem dX10_readTape_81 : decode cX10_readTape 81 = .ok (.getfield 12, 3) := op_180 (a := 0) (b := 12) kcX10_readTape (Nat.le_of_ble_eq_true rfl) rfl rfl rfl
theorem dX10_readTape_84 : decode cX10_readTape 84 = .ok (.invokevirtual 68, 3) := op_182 (a := 0) (b := 68) kcX10_readTape (Nat.le_of_ble_eq_true rfl) rfl rfl rfl
theorem dX10_readTape_87 : decode cX10_readTape 87 = .ok (.aload_n 0, 1) := op_42 kcX10_readTape (Nat.le_of_ble_eq_true rfl) rfl
theorem dX10_readTape_88 : decode cX10_readTape 88 = .ok (.getfield 32, 3) := op_180 (a := 0) (b := 32) kcX10_readTape (Nat.le_of_ble_eq_true rfl) rfl rfl rfl
theorem dX10_readTape_91 : decode cX10_readTape 91 = .ok (.ireturn, 1) := op_172 kcX10_readTape (Nat.le_of_ble_eq_true rfl) rfl
set_option maxRecDepth 20000 in
theorem gw_wsX6_reset : (wsX6_reset).all goodWord = true := by decide +kernel
set_option maxRecDepth 20000 in
theorem ggX10_begin_X6_reset : GoodIn wsX10_begin wsX6_reset := goodIn_r _ [12, 13, 14, 15, 16, 17, 18, 19, 49, 50, 51, 52, 53, 54, 55] rfl gw_wsX6_reset
set_option maxRecDepth 20000 in
theorem gX10_begin_X6_reset : GoodIn wsX10_begin (wsV RX10 71 RX6 yX6_reset wsX6_reset) := goodIn_app (goodIn_of _ (by decide +kernel)) ggX10_begin_X6_reset
set_option maxRecDepth 20000 in
theorem gw_wsX8_reset : (wsX8_reset).all goodWord = true := by decide +kernel
set_option maxRecDepth 20000 in
theorem ggX10_begin_X8_reset : GoodIn wsX10_begin wsX8_reset := goodIn_r _ [24, 25, 26, 27, 28, 29, 30, 31, 32, 33, 17, 18, 19, 56, 57, 58, 59, 60, 61, 62, 63, 64] rfl gw_wsX8_reset
set_option maxRecDepth 20000 in
theorem gX10_begin_X8_reset : GoodIn wsX10_begin (wsV RX10 74 RX8 yX8_reset wsX8_reset) := goodIn_app (goodIn_of _ (by decide +kernel)) ggX10_begin_X8_reset
set_option maxRecDepth 20000 in
theorem gw_wsX9_rewind : (wsX9_rewind).all goodWord = true := by decide +kernel
set_option maxRecDepth 20000 in
theorem ggX10_begin_X9_rewind : GoodIn wsX10_begin wsX9_rewind := goodIn_r _ [38, 39, 65, 66, 67, 68, 69, 70] rfl gw_wsX9_rewind
set_option maxRecDepth 20000 in
theorem gX10_begin_X9_rewind : GoodIn wsX10_begin (wsV RX10 75 RX9 yX9_rewind wsX9_rewind) := goodIn_app (goodIn_of _ (by decide +kernel)) ggX10_begin_X9_rewind
theorem kcX10_begin : (cX10_begin).data.toList = cbs 0xb12600b5032a2300b5032a2000b5032a1900b5032a4b00b62d00b42a4a00b61500b42a4700b60c00b42a 42 := by decide +kernel
theorem dX10_begin_0 : decode cX10_begin 0 = .ok (.aload_n 0, 1) := op_42 kcX10_begin (Nat.le_of_ble_eq_true rfl) rfl
theorem dX10_begin_1 : decode cX10_begin 1 = .ok (.getfield 12, 3) := op_180 (a := 0) (b := 12) kcX10_begin (Nat.le_of_ble_eq_true rfl) rfl rfl rfl
theorem dX10_begin_4 : decode cX10_begin 4 = .ok (.invokevirtual 71, 3) := op_182 (a := 0) (b := 71) kcX10_begin (Nat.le_of_ble_eq_true rfl) rfl rfl rfl
theorem dX10_begin_7 : decode cX10_begin 7 = .ok (.aload_n 0, 1) := op_42 kcX10_begin (Nat.le_of_ble_eq_true rfl) rfl
theorem dX10_begin_8 : decode cX10_begin 8 = .ok (.getfield 21, 3) := op_180 (a := 0) (b := 21) kcX10_begin (Nat.le_of_ble_eq_true rfl) rfl rfl rfl
theorem dX10_begin_11 : decode cX10_begin 11 = .ok (.invokevirtual 74, 3) := op_182 (a := 0) (b := 74) kcX10_begin (Nat.le_of_ble_eq_true rfl) rfl rfl rfl
theorem dX10_begin_14 : decode cX10_begin 14 = .ok (.aload_n 0, 1) := op_42 kcX10_begin (Nat.le_of_ble_eq_true rfl) rfl
theorem dX10_begin_15 : decode cX10_begin 15 = .ok (.getfield 45, 3) := op_180 (a := 0) (b := 45) kcX10_begin (Nat.le_of_ble_eq_true rfl) rfl rfl rfl
theorem dX10_begin_18 : decode cX10_begin 18 = .ok (.invokevirtual 75, 3) := op_182 (a := 0) (b := 75) kcX10_begin (Nat.le_of_ble_eq_true rfl) rfl rfl rfl
theorem dX10_begin_21 : decode cX10_begin 21 = .ok (.aload_n 0, 1) := op_42 kcX10_begin (Nat.le_of_ble_eq_true rfl) rfl
theorem dX10_begin_22 : decode cX10_begin 22 = .ok (.iconst 0, 1) := op_3 kcX10_begin (Nat.le_of_ble_eq_true rfl) rfl
theorem dX10_begin_23 : decode cX10_begin 23 = .ok (.putfield 25, 3) := op_181 (a := 0) (b := 25) kcX10_begin (Nat.le_of_ble_eq_true rfl) rfl rfl rfl
theorem dX10_begin_26 : decode cX10_begin 26 = .ok (.aload_n 0, 1) := op_42 kcX10_begin (Nat.le_of_ble_eq_true rfl) rfl
theorem dX10_begin_27 : decode cX10_begin 27 = .ok (.iconst 0, 1) := op_3 kcX10_begin (Nat.le_of_ble_eq_true rfl) rfl
theorem dX10_begin_28 : decode cX10_begin 28 = .ok (.putfield 32, 3) := op_181 (a := 0) (b := 32) kcX10_begin (Nat.le_of_ble_eq_true rfl) rfl rfl rfl
theorem dX10_begin_31 : decode cX10_begin 31 = .ok (.aload_n 0, 1) := op_42 kcX10_begin (Nat.le_of_ble_eq_true rfl) rfl
theorem dX10_begin_32 : decode cX10_begin 32 = .ok (.iconst 0, 1) := op_3 kcX10_begin (Nat.le_of_ble_eq_true rfl) rfl
theorem dX10_begin_33 : decode cX10_begin 33 = .ok (.putfield 35, 3) := op_181 (a := 0) (b := 35) kcX10_begin (Nat.le_of_ble_eq_true rfl) rfl rfl rfl
theorem dX10_begin_36 : decode cX10_begin 36 = .ok (.aload_n 0, 1) := op_42 kcX10_begin (Nat.le_of_ble_eq_true rfl) rfl
theorem dX10_begin_37 : decode cX10_begin 37 = .ok (.iconst 0, 1) := op_3 kcX10_begin (Nat.le_of_ble_eq_true rfl) rfl
theorem dX10_begin_38 : decode cX10_begin 38 = .ok (.putfield 38, 3) := op_181 (a := 0) (b := 38) kcX10_begin (Nat.le_of_ble_eq_true rfl) rfl rfl rfl
theorem dX10_begin_41 : decode cX10_begin 41 = .ok (.return_, 1) := op_177 kcX10_begin (Nat.le_of_ble_eq_true rfl) rfl
theorem kcX10_refuse : (cX10_refuse).data.toList = cbs 0xac031d00b51c2a1900b51b2a 12 := by decide +kernel
theorem dX10_refuse_0 : decode cX10_refuse 0 = .ok (.aload_n 0, 1) := op_42 kcX10_refuse (Nat.le_of_ble_eq_true rfl) rfl
theorem dX10_refuse_1 : decode cX10_refuse 1 = .ok (.iload_n 1, 1) := op_27 kcX10_refuse (Nat.le_of_ble_eq_true rfl) rfl
theorem dX10_refuse_2 : decode cX10_refuse 2 = .ok (.putfield 25, 3) := op_181 (a := 0) (b := 25) kcX10_refuse (Nat.le_of_ble_eq_true rfl) rfl rfl rfl
theorem dX10_refuse_5 : decode cX10_refuse 5 = .ok (.aload_n 0, 1) := op_42 kcX10_refuse (Nat.le_of_ble_eq_true rfl) rfl
theorem dX10_refuse_6 : decode cX10_refuse 6 = .ok (.iload_n 2, 1) := op_28 kcX10_refuse (Nat.le_of_ble_eq_true rfl) rfl
theorem dX10_refuse_7 : decode cX10_refuse 7 = .ok (.putfield 29, 3) := op_181 (a := 0) (b := 29) kcX10_refuse (Nat.le_of_ble_eq_true rfl) rfl rfl rfl
theorem dX10_refuse_10 : decode cX10_refuse 10 = .ok (.iconst 0, 1) := op_3 kcX10_refuse (Nat.le_of_ble_eq_true rfl) rfl
theorem dX10_refuse_11 : decode cX10_refuse 11 = .ok (.ireturn, 1) := op_172 kcX10_refuse (Nat.le_of_ble_eq_true rfl) rfl
set_option maxRecDepth 20000 in
theorem gw_wsX9_readToken : (wsX9_readToken).all goodWord = true := by decide +kernel
set_option maxRecDepth 20000 in
theorem ggX10_readLine_X9_readToken : GoodIn wsX10_readLine wsX9_readToken := goodIn_r _ [13, 14, 15, 16, 17, 18, 19, 20, 12, 21, 22, 23, 24, 25, 26, 27, 28, 29, 30, 31, 32, 33, 176, 177, 178, 179, 180, 181] rfl gw_wsX9_readToken
set_option maxRecDepth 20000 in
theorem gX10_readLine_X9_readToken : GoodIn wsX10_readLine (wsV RX10 78 RX9 yX9_readToken wsX9_readToken) := goodIn_app (goodIn_of _ (by decide +kernel)) ggX10_readLine_X9_readToken
set_option maxRecDepth 20000 in
theorem gw_wsX10_nameRead : (wsX10_nameRead).all goodWord = true := by decide +kernel
set_option maxRecDepth 20000 in
theorem ggX10_readLine_X10_nameRead : GoodIn wsX10_readLine wsX10_nameRead := goodIn_r _ [38, 1, 2, 39, 40, 37, 41, 42, 43, 44, 12, 45, 14, 17, 16, 46, 47, 48, 49, 50, 51, 52, 53, 54, 55, 56, 57, 58, 59, 60, 61, 62, 63, 64, 65, 66, 67, 68, 69, 70, 71, 72, 73, 74, 75, 76, 77, 78, 79, 80, 81, 82, 83, 84, 85, 86, 87, 88, 89, 90, 91, 92, 93, 94, 167, 168, 169, 170, 171, 172, 173, 174, 175, 176, 177, 178, 179, 180, 181] rfl gw_wsX10_nameRead
set_option maxRecDepth 20000 in
theorem gX10_readLine_X10_nameRead : GoodIn wsX10_readLine (wsV RX10 84 RX10 yX10_nameRead wsX10_nameRead) := goodIn_app (goodIn_of _ (by decide +kernel)) ggX10_readLine_X10_nameRead
set_option maxRecDepth 20000 in
theorem gw_wsX10_faultOfName : (wsX10_faultOfName).all goodWord = true := by decide +kernel
set_option maxRecDepth 20000 in
theorem ggX10_readLine_X10_faultOfName : GoodIn wsX10_readLine wsX10_faultOfName := goodIn_r _ [98, 1, 2, 4, 99, 100, 167, 168, 169, 170, 171, 172, 173, 174, 175, 176, 177, 178, 179, 180, 181, 182, 183, 184, 185, 186, 187, 188] rfl gw_wsX10_faultOfName
set_option maxRecDepth 20000 in
theorem gX10_readLine_X10_faultOfName : GoodIn wsX10_readLine (wsV RX10 88 RX10 yX10_faultOfName wsX10_faultOfName) := goodIn_app (goodIn_of _ (by decide +kernel)) ggX10_readLine_X10_faultOfName
set_option maxRecDepth 20000 in
theorem ggX10_readLine_X10_refuse : GoodIn wsX10_readLine wsX10_refuse := goodIn_r _ [104, 105, 106, 167, 168, 169, 170, 171, 172, 173, 174, 175] rfl gw_wsX10_refuse
set_option maxRecDepth 20000 in
theorem gX10_readLine_X10_refuse : GoodIn wsX10_readLine (wsV RX10 64 RX10 yX10_refuse wsX10_refuse) := goodIn_app (goodIn_of _ (by decide +kernel)) ggX10_readLine_X10_refuse
set_option maxRecDepth 20000 in
theorem gw_wsX10_takeLine : (wsX10_takeLine).all goodWord = true := by decide +kernel
set_option maxRecDepth 20000 in
theorem ggX10_readLine_X10_takeLine : GoodIn wsX10_readLine wsX10_takeLine := goodIn_r _ [110, 111, 7, 99, 112, 113, 114, 115, 116, 117, 118, 119, 120, 121, 122, 123, 124, 125, 126, 127, 128, 129, 37, 130, 131, 132, 133, 134, 135, 136, 137, 138, 139, 140, 141, 142, 143, 144, 145, 146, 147, 148, 149, 150, 167, 168, 169, 170, 171, 172, 173, 174, 175, 182, 183, 184, 185, 186, 187, 188, 189, 190, 191, 192, 193, 194, 195, 196, 197] rfl gw_wsX10_takeLine
set_option maxRecDepth 20000 in
theorem gX10_readLine_X10_takeLine : GoodIn wsX10_readLine (wsV RX10 101 RX10 yX10_takeLine wsX10_takeLine) := goodIn_app (goodIn_of _ (by decide +kernel)) ggX10_readLine_X10_takeLine
set_option maxRecDepth 20000 in
theorem gw_wsX10_faultOfNumber : (wsX10_faultOfNumber).all goodWord = true := by decide +kernel
set_option maxRecDepth 20000 in
theorem ggX10_readLine_X10_faultOfNumber : GoodIn wsX10_readLine wsX10_faultOfNumber := goodIn_r _ [154, 1, 2, 5, 155, 156, 157, 158, 8, 159, 160, 161, 37, 162, 7, 113, 163, 164, 165, 135, 166, 137, 167, 168, 169, 170, 171, 172, 173, 174, 175, 176, 177, 178, 179, 180, 181, 189, 190, 191, 192, 193, 194, 195, 196, 197] rfl gw_wsX10_faultOfNumber
set_option maxRecDepth 20000 in
theorem gX10_readLine_X10_faultOfNumber : GoodIn wsX10_readLine (wsV RX10 105 RX10 yX10_faultOfNumber wsX10_faultOfNumber) := goodIn_app (goodIn_of _ (by decide +kernel)) ggX10_readLine_X10_faultOfNumber
theorem kcX10_readLine : (cX10_readLine).data.toList = cbs 0xac03acffa70103844f6d00b42d00b42a1d2900b42aac4000b65c00b42d00b42a1c2a1000991c3d6900b61d1b2aac046500b61d1b2a0b00a12e1b6200b21d1400a0065100b42d00b42a4e00b62d00b42a5100a32e1b5f00b21d3e032300b580781b042300b4592aac4000b65c00b42d00b42a1c2a1000991c3d5800b61b2a3c5400b62aac0305009a5100b42d00b42a4e00b62d00b42a 150 := by decide +kernel
theorem dX10_readLine_0 : decode cX10_readLine 0 = .ok (.aload_n 0, 1) := op_42 kcX10_readLine (Nat.le_of_ble_eq_true rfl) rfl
theorem dX10_readLine_1 : decode cX10_readLine 1 = .ok (.getfield 45, 3) := op_180 (a := 0) (b := 45) kcX10_readLine (Nat.le_of_ble_eq_true rfl) rfl rfl rfl
theorem dX10_readLine_4 : decode cX10_readLine 4 = .ok (.invokevirtual 78, 3) := op_182 (a := 0) (b := 78) kcX10_readLine (Nat.le_of_ble_eq_true rfl) rfl rfl rfl
theorem dX10_readLine_7 : decode cX10_readLine 7 = .ok (.aload_n 0, 1) := op_42 kcX10_readLine (Nat.le_of_ble_eq_true rfl) rfl
theorem dX10_readLine_8 : decode cX10_readLine 8 = .ok (.getfield 45, 3) := op_180 (a := 0) (b := 45) kcX10_readLine (Nat.le_of_ble_eq_true rfl) rfl rfl rfl
theorem dX10_readLine_11 : decode cX10_readLine 11 = .ok (.getfield 81, 3) := op_180 (a := 0) (b := 81) kcX10_readLine (Nat.le_of_ble_eq_true rfl) rfl rfl rfl
theorem dX10_readLine_14 : decode cX10_readLine 14 = .ok (.ifCond .ne 5, 3) := op_154 (a := 0) (b := 5) kcX10_readLine (Nat.le_of_ble_eq_true rfl) rfl rfl rfl (by decide)
theorem dX10_readLine_17 : decode cX10_readLine 17 = .ok (.iconst 0, 1) := op_3 kcX10_readLine (Nat.le_of_ble_eq_true rfl) rfl
theorem dX10_readLine_18 : decode cX10_readLine 18 = .ok (.ireturn, 1) := op_172 kcX10_readLine (Nat.le_of_ble_eq_true rfl) rfl
theorem dX10_readLine_19 : decode cX10_readLine 19 = .ok (.aload_n 0, 1) := op_42 kcX10_readLine (Nat.le_of_ble_eq_true rfl) rfl
theorem dX10_readLine_20 : decode cX10_readLine 20 = .ok (.invokevirtual 84, 3) := op_182 (a := 0) (b := 84) kcX10_readLine (Nat.le_of_ble_eq_true rfl) rfl rfl rfl
theorem dX10_readLine_23 : decode cX10_readLine 23 = .ok (.istore_n 1, 1) := op_60 kcX10_readLine (Nat.le_of_ble_eq_true rfl) rfl
theorem dX10_readLine_24 : decode cX10_readLine 24 = .ok (.aload_n 0, 1) := op_42 kcX10_readLine (Nat.le_of_ble_eq_true rfl) rfl
theorem dX10_readLine_25 : decode cX10_readLine 25 = .ok (.iload_n 1, 1) := op_27 kcX10_readLine (Nat.le_of_ble_eq_true rfl) rfl
theorem dX10_readLine_26 : decode cX10_readLine 26 = .ok (.invokevirtual 88, 3) := op_182 (a := 0) (b := 88) kcX10_readLine (Nat.le_of_ble_eq_true rfl) rfl rfl rfl
theorem dX10_readLine_29 : decode cX10_readLine 29 = .ok (.istore_n 2, 1) := op_61 kcX10_readLine (Nat.le_of_ble_eq_true rfl) rfl
theorem dX10_readLine_30 : decode cX10_readLine 30 = .ok (.iload_n 2, 1) := op_28 kcX10_readLine (Nat.le_of_ble_eq_true rfl) rfl
theorem dX10_readLine_31 : decode cX10_readLine 31 = .ok (.ifCond .eq 16, 3) := op_153 (a := 0) (b := 16) kcX10_readLine (Nat.le_of_ble_eq_true rfl) rfl rfl rfl (by decide)
theorem dX10_readLine_34 : decode cX10_readLine 34 = .ok (.aload_n 0, 1) := op_42 kcX10_readLine (Nat.le_of_ble_eq_true rfl) rfl
theorem dX10_readLine_35 : decode cX10_readLine 35 = .ok (.iload_n 2, 1) := op_28 kcX10_readLine (Nat.le_of_ble_eq_true rfl) rfl
theorem dX10_readLine_36 : decode cX10_readLine 36 = .ok (.aload_n 0, 1) := op_42 kcX10_readLine (Nat.le_of_ble_eq_true rfl) rfl
theorem dX10_readLine_37 : decode cX10_readLine 37 = .ok (.getfield 45, 3) := op_180 (a := 0) (b := 45) kcX10_readLine (Nat.le_of_ble_eq_true rfl) rfl rfl rfl
theorem dX10_readLine_40 : decode cX10_readLine 40 = .ok (.getfield 92, 3) := op_180 (a := 0) (b := 92) kcX10_readLine (Nat.le_of_ble_eq_true rfl) rfl rfl rfl
theorem dX10_readLine_43 : decode cX10_readLine 43 = .ok (.invokevirtual 64, 3) := op_182 (a := 0) (b := 64) kcX10_readLine (Nat.le_of_ble_eq_true rfl) rfl rfl rfl
theorem dX10_readLine_46 : decode cX10_readLine 46 = .ok (.ireturn, 1) := op_172 kcX10_readLine (Nat.le_of_ble_eq_true rfl) rfl
theorem dX10_readLine_47 : decode cX10_readLine 47 = .ok (.aload_n 0, 1) := op_42 kcX10_readLine (Nat.le_of_ble_eq_true rfl) rfl
theorem dX10_readLine_48 : decode cX10_readLine 48 = .ok (.dup, 1) := op_89 kcX10_readLine (Nat.le_of_ble_eq_true rfl) rfl
theorem dX10_readLine_49 : decode cX10_readLine 49 = .ok (.getfield 35, 3) := op_180 (a := 0) (b := 35) kcX10_readLine (Nat.le_of_ble_eq_true rfl) rfl rfl rfl
theorem dX10_readLine_52 : decode cX10_readLine 52 = .ok (.iconst 1, 1) := op_4 kcX10_readLine (Nat.le_of_ble_eq_true rfl) rfl
theorem dX10_readLine_53 : decode cX10_readLine 53 = .ok (.iload_n 1, 1) := op_27 kcX10_readLine (Nat.le_of_ble_eq_true rfl) rfl
theorem dX10_readLine_54 : decode cX10_readLine 54 = .ok (.ishl, 1) := op_120 kcX10_readLine (Nat.le_of_ble_eq_true rfl) rfl
theorem dX10_readLine_55 : decode cX10_readLine 55 = .ok (.ior, 1) := op_128 kcX10_readLine (Nat.le_of_ble_eq_true rfl) rfl
theorem dX10_readLine_56 : decode cX10_readLine 56 = .ok (.putfield 35, 3) := op_181 (a := 0) (b := 35) kcX10_readLine (Nat.le_of_ble_eq_true rfl) rfl rfl rfl
theorem dX10_readLine_59 : decode cX10_readLine 59 = .ok (.iconst 0, 1) := op_3 kcX10_readLine (Nat.le_of_ble_eq_true rfl) rfl
theorem dX10_readLine_60 : decode cX10_readLine 60 = .ok (.istore_n 3, 1) := op_62 kcX10_readLine (Nat.le_of_ble_eq_true rfl) rfl
theorem dX10_readLine_61 : decode cX10_readLine 61 = .ok (.iload_n 3, 1) := op_29 kcX10_readLine (Nat.le_of_ble_eq_true rfl) rfl
theorem dX10_readLine_62 : decode cX10_readLine 62 = .ok (.getstatic 95, 3) := op_178 (a := 0) (b := 95) kcX10_readLine (Nat.le_of_ble_eq_true rfl) rfl rfl rfl
theorem dX10_readLine_65 : decode cX10_readLine 65 = .ok (.iload_n 1, 1) := op_27 kcX10_readLine (Nat.le_of_ble_eq_true rfl) rfl
theorem dX10_readLine_66 : decode cX10_readLine 66 = .ok (.iaload, 1) := op_46 kcX10_readLine (Nat.le_of_ble_eq_true rfl) rfl
theorem dX10_readLine_67 : decode cX10_readLine 67 = .ok (.if_icmp .gt 81, 3) := op_163 (a := 0) (b := 81) kcX10_readLine (Nat.le_of_ble_eq_true rfl) rfl rfl rfl (by decide)
theorem dX10_readLine_70 : decode cX10_readLine 70 = .ok (.aload_n 0, 1) := op_42 kcX10_readLine (Nat.le_of_ble_eq_true rfl) rfl
theorem dX10_readLine_71 : decode cX10_readLine 71 = .ok (.getfield 45, 3) := op_180 (a := 0) (b := 45) kcX10_readLine (Nat.le_of_ble_eq_true rfl) rfl rfl rfl
theorem dX10_readLine_74 : decode cX10_readLine 74 = .ok (.invokevirtual 78, 3) := op_182 (a := 0) (b := 78) kcX10_readLine (Nat.le_of_ble_eq_true rfl) rfl rfl rfl
theorem dX10_readLine_77 : decode cX10_readLine 77 = .ok (.aload_n 0, 1) := op_42 kcX10_readLine (Nat.le_of_ble_eq_true rfl) rfl
theorem dX10_readLine_78 : decode cX10_readLine 78 = .ok (.getfield 45, 3) := op_180 (a := 0) (b := 45) kcX10_readLine (Nat.le_of_ble_eq_true rfl) rfl rfl rfl
theorem dX10_readLine_81 : decode cX10_readLine 81 = .ok (.getfield 81, 3) := op_180 (a := 0) (b := 81) kcX10_readLine (Nat.le_of_ble_eq_true rfl) rfl rfl rfl
theorem dX10_readLine_84 : decode cX10_readLine 84 = .ok (.iconst 3, 1) := op_6 kcX10_readLine (Nat.le_of_ble_eq_true rfl) rfl
theorem dX10_readLine_85 : decode cX10_readLine 85 = .ok (.if_icmp .ne 20, 3) := op_160 (a := 0) (b := 20) kcX10_readLine (Nat.le_of_ble_eq_true rfl) rfl rfl rfl (by decide)
theorem dX10_readLine_88 : decode cX10_readLine 88 = .ok (.iload_n 3, 1) := op_29 kcX10_readLine (Nat.le_of_ble_eq_true rfl) rfl
theorem dX10_readLine_89 : decode cX10_readLine 89 = .ok (.getstatic 98, 3) := op_178 (a := 0) (b := 98) kcX10_readLine (Nat.le_of_ble_eq_true rfl) rfl rfl rfl
theorem dX10_readLine_92 : decode cX10_readLine 92 = .ok (.iload_n 1, 1) := op_27 kcX10_readLine (Nat.le_of_ble_eq_true rfl) rfl
theorem dX10_readLine_93 : decode cX10_readLine 93 = .ok (.iaload, 1) := op_46 kcX10_readLine (Nat.le_of_ble_eq_true rfl) rfl
theorem dX10_readLine_94 : decode cX10_readLine 94 = .ok (.if_icmp .lt 11, 3) := op_161 (a := 0) (b := 11) kcX10_readLine (Nat.le_of_ble_eq_true rfl) rfl rfl rfl (by decide)
theorem dX10_readLine_97 : decode cX10_readLine 97 = .ok (.aload_n 0, 1) := op_42 kcX10_readLine (Nat.le_of_ble_eq_true rfl) rfl
theorem dX10_readLine_98 : decode cX10_readLine 98 = .ok (.iload_n 1, 1) := op_27 kcX10_readLine (Nat.le_of_ble_eq_true rfl) rfl
theorem dX10_readLine_99 : decode cX10_readLine 99 = .ok (.iload_n 3, 1) := op_29 kcX10_readLine (Nat.le_of_ble_eq_true rfl) rfl
theorem dX10_readLine_100 : decode cX10_readLine 100 = .ok (.invokevirtual 101, 3) := op_182 (a := 0) (b := 101) kcX10_readLine (Nat.le_of_ble_eq_true rfl) rfl rfl rfl
theorem dX10_readLine_103 : decode cX10_readLine 103 = .ok (.iconst 1, 1) := op_4 kcX10_readLine (Nat.le_of_ble_eq_true rfl) rfl
theorem dX10_readLine_104 : decode cX10_readLine 104 = .ok (.ireturn, 1) := op_172 kcX10_readLine (Nat.le_of_ble_eq_true rfl) rfl
theorem dX10_readLine_105 : decode cX10_readLine 105 = .ok (.aload_n 0, 1) := op_42 kcX10_readLine (Nat.le_of_ble_eq_true rfl) rfl
theorem dX10_readLine_106 : decode cX10_readLine 106 = .ok (.iload_n 1, 1) := op_27 kcX10_readLine (Nat.le_of_ble_eq_true rfl) rfl
theorem dX10_readLine_107 : decode cX10_readLine 107 = .ok (.iload_n 3, 1) := op_29 kcX10_readLine (Nat.le_of_ble_eq_true rfl) rfl
theorem dX10_readLine_108 : decode cX10_readLine 108 = .ok (.invokevirtual 105, 3) := op_182 (a := 0) (b := 105) kcX10_readLine (Nat.le_of_ble_eq_true rfl) rfl rfl rfl
theorem dX10_readLine_111 : decode cX10_readLine 111 = .ok (.istore_n 2, 1) := op_61 kcX10_readLine (Nat.le_of_ble_eq_true rfl) rfl
theorem dX10_readLine_112 : decode cX10_readLine 112 = .ok (.iload_n 2, 1) := op_28 kcX10_readLine (Nat.le_of_ble_eq_true rfl) rfl
theorem dX10_readLine_113 : decode cX10_readLine 113 = .ok (.ifCond .eq 16, 3) := op_153 (a := 0) (b := 16) kcX10_readLine (Nat.le_of_ble_eq_true rfl) rfl rfl rfl (by decide)
theorem dX10_readLine_116 : decode cX10_readLine 116 = .ok (.aload_n 0, 1) := op_42 kcX10_readLine (Nat.le_of_ble_eq_true rfl) rfl
theorem dX10_readLine_117 : decode cX10_readLine 117 = .ok (.iload_n 2, 1) := op_28 kcX10_readLine (Nat.le_of_ble_eq_true rfl) rfl
theorem dX10_readLine_118 : decode cX10_readLine 118 = .ok (.aload_n 0, 1) := op_42 kcX10_readLine (Nat.le_of_ble_eq_true rfl) rfl
theorem dX10_readLine_119 : decode cX10_readLine 119 = .ok (.getfield 45, 3) := op_180 (a := 0) (b := 45) kcX10_readLine (Nat.le_of_ble_eq_true rfl) rfl rfl rfl
theorem dX10_readLine_122 : decode cX10_readLine 122 = .ok (.getfield 92, 3) := op_180 (a := 0) (b := 92) kcX10_readLine (Nat.le_of_ble_eq_true rfl) rfl rfl rfl
theorem dX10_readLine_125 : decode cX10_readLine 125 = .ok (.invokevirtual 64, 3) := op_182 (a := 0) (b := 64) kcX10_readLine (Nat.le_of_ble_eq_true rfl) rfl rfl rfl
theorem dX10_readLine_128 : decode cX10_readLine 128 = .ok (.ireturn, 1) := op_172 kcX10_readLine (Nat.le_of_ble_eq_true rfl) rfl
theorem dX10_readLine_129 : decode cX10_readLine 129 = .ok (.aload_n 0, 1) := op_42 kcX10_readLine (Nat.le_of_ble_eq_true rfl) rfl
theorem dX10_readLine_130 : decode cX10_readLine 130 = .ok (.getfield 41, 3) := op_180 (a := 0) (b := 41) kcX10_readLine (Nat.le_of_ble_eq_true rfl) rfl rfl rfl
theorem dX10_readLine_133 : decode cX10_readLine 133 = .ok (.iload_n 3, 1) := op_29 kcX10_readLine (Nat.le_of_ble_eq_true rfl) rfl
theorem dX10_readLine_134 : decode cX10_readLine 134 = .ok (.aload_n 0, 1) := op_42 kcX10_readLine (Nat.le_of_ble_eq_true rfl) rfl
theorem dX10_readLine_135 : decode cX10_readLine 135 = .ok (.getfield 45, 3) := op_180 (a := 0) (b := 45) kcX10_readLine (Nat.le_of_ble_eq_true rfl) rfl rfl rfl
theorem dX10_readLine_138 : decode cX10_readLine 138 = .ok (.getfield 109, 3) := op_180 (a := 0) (b := 109) kcX10_readLine (Nat.le_of_ble_eq_true rfl) rfl rfl rfl
theorem dX10_readLine_141 : decode cX10_readLine 141 = .ok (.iastore, 1) := op_79 kcX10_readLine (Nat.le_of_ble_eq_true rfl) rfl
theorem dX10_readLine_142 : decode cX10_readLine 142 = .ok (.iinc 3 1, 3) := by decide +kernel
theorem dX10_readLine_145 : decode cX10_readLine 145 = .ok (.goto (-84), 3) := op_167 (a := 255) (b := 172) kcX10_readLine (Nat.le_of_ble_eq_true rfl) rfl rfl rfl (by decide)
theorem dX10_readLine_148 : decode cX10_readLine 148 = .ok (.iconst 0, 1) := op_3 kcX10_readLine (Nat.le_of_ble_eq_true rfl) rfl
theorem dX10_readLine_149 : decode cX10_readLine 149 = .ok (.ireturn, 1) := op_172 kcX10_readLine (Nat.le_of_ble_eq_true rfl) rfl
set_option maxRecDepth 20000 in
theorem gw_wsX10_nameOf : (wsX10_nameOf).all goodWord = true := by decide +kernel
set_option maxRecDepth 20000 in
theorem ggX10_nameRead_X10_nameOf : GoodIn wsX10_nameRead wsX10_nameOf := goodIn_r _ [6] rfl gw_wsX10_nameOf
set_option maxRecDepth 20000 in
theorem gX10_nameRead_X10_nameOf : GoodIn wsX10_nameRead (va_wsS RX10 112 yX10_nameOf wsX10_nameOf) := goodIn_app (goodIn_of _ (by decide +kernel)) ggX10_nameRead_X10_nameOf
set_option maxRecDepth 20000 in
theorem gw_wsX9_isNamed : (wsX9_isNamed).all goodWord = true := by decide +kernel
set_option maxRecDepth 20000 in
theorem ggX10_nameRead_X9_isNamed : GoodIn wsX10_nameRead wsX9_isNamed := goodIn_r _ [11, 12, 13, 14, 15, 16, 17, 18, 19, 20, 21, 22, 23, 24, 25, 26, 27, 28, 29, 30, 31, 32, 33, 34, 35, 36, 37, 38, 39, 40, 41, 42, 43, 44, 45, 46, 47, 48, 49, 50, 51, 52, 53, 54, 55, 56, 57, 58, 59, 60, 61, 62, 63, 73, 74, 75, 76, 77, 78] rfl gw_wsX9_isNamed
set_option maxRecDepth 20000 in
theorem gX10_nameRead_X9_isNamed : GoodIn wsX10_nameRead (wsV RX10 116 RX9 yX9_isNamed wsX9_isNamed) := goodIn_app (goodIn_of _ (by decide +kernel)) ggX10_nameRead_X9_isNamed
theorem kcX10_nameRead : (cX10_nameRead).data.toList = cbs 0xacfc10dcffa7010184ac1b0500997400b67000b81b2d00b42a1900a0045100b42d00b42a2400a20b101b3c03 44 := by decide +kernel
theorem dX10_nameRead_0 : decode cX10_nameRead 0 = .ok (.iconst 0, 1) := op_3 kcX10_nameRead (Nat.le_of_ble_eq_true rfl) rfl
theorem dX10_nameRead_1 : decode cX10_nameRead 1 = .ok (.istore_n 1, 1) := op_60 kcX10_nameRead (Nat.le_of_ble_eq_true rfl) rfl
theorem dX10_nameRead_2 : decode cX10_nameRead 2 = .ok (.iload_n 1, 1) := op_27 kcX10_nameRead (Nat.le_of_ble_eq_true rfl) rfl
theorem dX10_nameRead_3 : decode cX10_nameRead 3 = .ok (.bipush 11, 2) := op_16 (a := 11) kcX10_nameRead (Nat.le_of_ble_eq_true rfl) rfl rfl (by decide)
theorem dX10_nameRead_5 : decode cX10_nameRead 5 = .ok (.if_icmp .ge 36, 3) := op_162 (a := 0) (b := 36) kcX10_nameRead (Nat.le_of_ble_eq_true rfl) rfl rfl rfl (by decide)
theorem dX10_nameRead_8 : decode cX10_nameRead 8 = .ok (.aload_n 0, 1) := op_42 kcX10_nameRead (Nat.le_of_ble_eq_true rfl) rfl
theorem dX10_nameRead_9 : decode cX10_nameRead 9 = .ok (.getfield 45, 3) := op_180 (a := 0) (b := 45) kcX10_nameRead (Nat.le_of_ble_eq_true rfl) rfl rfl rfl
theorem dX10_nameRead_12 : decode cX10_nameRead 12 = .ok (.getfield 81, 3) := op_180 (a := 0) (b := 81) kcX10_nameRead (Nat.le_of_ble_eq_true rfl) rfl rfl rfl
theorem dX10_nameRead_15 : decode cX10_nameRead 15 = .ok (.iconst 1, 1) := op_4 kcX10_nameRead (Nat.le_of_ble_eq_true rfl) rfl
theorem dX10_nameRead_16 : decode cX10_nameRead 16 = .ok (.if_icmp .ne 25, 3) := op_160 (a := 0) (b := 25) kcX10_nameRead (Nat.le_of_ble_eq_true rfl) rfl rfl rfl (by decide)
theorem dX10_nameRead_19 : decode cX10_nameRead 19 = .ok (.aload_n 0, 1) := op_42 kcX10_nameRead (Nat.le_of_ble_eq_true rfl) rfl
theorem dX10_nameRead_20 : decode cX10_nameRead 20 = .ok (.getfield 45, 3) := op_180 (a := 0) (b := 45) kcX10_nameRead (Nat.le_of_ble_eq_true rfl) rfl rfl rfl
theorem dX10_nameRead_23 : decode cX10_nameRead 23 = .ok (.iload_n 1, 1) := op_27 kcX10_nameRead (Nat.le_of_ble_eq_true rfl) rfl
theorem dX10_nameRead_24 : decode cX10_nameRead 24 = .ok (.invokestatic 112, 3) := op_184 (a := 0) (b := 112) kcX10_nameRead (Nat.le_of_ble_eq_true rfl) rfl rfl rfl
theorem dX10_nameRead_27 : decode cX10_nameRead 27 = .ok (.invokevirtual 116, 3) := op_182 (a := 0) (b := 116) kcX10_nameRead (Nat.le_of_ble_eq_true rfl) rfl rfl rfl
theorem dX10_nameRead_30 : decode cX10_nameRead 30 = .ok (.ifCond .eq 5, 3) := op_153 (a := 0) (b := 5) kcX10_nameRead (Nat.le_of_ble_eq_true rfl) rfl rfl rfl (by decide)
theorem dX10_nameRead_33 : decode cX10_nameRead 33 = .ok (.iload_n 1, 1) := op_27 kcX10_nameRead (Nat.le_of_ble_eq_true rfl) rfl
theorem dX10_nameRead_34 : decode cX10_nameRead 34 = .ok (.ireturn, 1) := op_172 kcX10_nameRead (Nat.le_of_ble_eq_true rfl) rfl
theorem dX10_nameRead_35 : decode cX10_nameRead 35 = .ok (.iinc 1 1, 3) := by decide +kernel
theorem dX10_nameRead_38 : decode cX10_nameRead 38 = .ok (.goto (-36), 3) := op_167 (a := 255) (b := 220) kcX10_nameRead (Nat.le_of_ble_eq_true rfl) rfl rfl rfl (by decide)
theorem dX10_nameRead_41 : decode cX10_nameRead 41 = .ok (.bipush (-4), 2) := op_16 (a := 252) kcX10_nameRead (Nat.le_of_ble_eq_true rfl) rfl rfl (by decide)
theorem dX10_nameRead_43 : decode cX10_nameRead 43 = .ok (.ireturn, 1) := op_172 kcX10_nameRead (Nat.le_of_ble_eq_true rfl) rfl
theorem kcX10_nameOf : (cX10_nameOf).data.toList = cbs 0xb08b12b08912b08712b08512b08312b08112b07f12b07d12b07b12b07912b07812520000004f0000004c000000490000004600000043000000400000003d0000003a000000370000000900000000000000550000000000aa1a 89 := by decide +kernel
theorem dX10_nameOf_0 : decode cX10_nameOf 0 = .ok (.iload_n 0, 1) := op_26 kcX10_nameOf (Nat.le_of_ble_eq_true rfl) rfl
theorem dX10_nameOf_1 : decode cX10_nameOf 1 = .ok (.tableswitch 85 0 9 #[55, 58, 61, 64, 67, 70, 73, 76, 79, 82], 55) := by decide +kernel
theorem dX10_nameOf_56 : decode cX10_nameOf 56 = .ok (.ldc 120, 2) := op_18 (a := 120) kcX10_nameOf (Nat.le_of_ble_eq_true rfl) rfl rfl
theorem dX10_nameOf_58 : decode cX10_nameOf 58 = .ok (.areturn, 1) := op_176 kcX10_nameOf (Nat.le_of_ble_eq_true rfl) rfl
theorem dX10_nameOf_59 : decode cX10_nameOf 59 = .ok (.ldc 121, 2) := op_18 (a := 121) kcX10_nameOf (Nat.le_of_ble_eq_true rfl) rfl rfl
theorem dX10_nameOf_61 : decode cX10_nameOf 61 = .ok (.areturn, 1) := op_176 kcX10_nameOf (Nat.le_of_ble_eq_true rfl) rfl
theorem dX10_nameOf_62 : decode cX10_nameOf 62 = .ok (.ldc 123, 2) := op_18 (a := 123) kcX10_nameOf (Nat.le_of_ble_eq_true rfl) rfl rfl
theorem dX10_nameOf_64 : decode cX10_nameOf 64 = .ok (.areturn, 1) := op_176 kcX10_nameOf (Nat.le_of_ble_eq_true rfl) rfl
theorem dX10_nameOf_65 : decode cX10_nameOf 65 = .ok (.ldc 125, 2) := op_18 (a := 125) kcX10_nameOf (Nat.le_of_ble_eq_true rfl) rfl rfl
theorem dX10_nameOf_67 : decode cX10_nameOf 67 = .ok (.areturn, 1) := op_176 kcX10_nameOf (Nat.le_of_ble_eq_true rfl) rfl
theorem dX10_nameOf_68 : decode cX10_nameOf 68 = .ok (.ldc 127, 2) := op_18 (a := 127) kcX10_nameOf (Nat.le_of_ble_eq_true rfl) rfl rfl
theorem dX10_nameOf_70 : decode cX10_nameOf 70 = .ok (.areturn, 1) := op_176 kcX10_nameOf (Nat.le_of_ble_eq_true rfl) rfl
theorem dX10_nameOf_71 : decode cX10_nameOf 71 = .ok (.ldc 129, 2) := op_18 (a := 129) kcX10_nameOf (Nat.le_of_ble_eq_true rfl) rfl rfl
theorem dX10_nameOf_73 : decode cX10_nameOf 73 = .ok (.areturn, 1) := op_176 kcX10_nameOf (Nat.le_of_ble_eq_true rfl) rfl
theorem dX10_nameOf_74 : decode cX10_nameOf 74 = .ok (.ldc 131, 2) := op_18 (a := 131) kcX10_nameOf (Nat.le_of_ble_eq_true rfl) rfl rfl
theorem dX10_nameOf_76 : decode cX10_nameOf 76 = .ok (.areturn, 1) := op_176 kcX10_nameOf (Nat.le_of_ble_eq_true rfl) rfl
theorem dX10_nameOf_77 : decode cX10_nameOf 77 = .ok (.ldc 133, 2) := op_18 (a := 133) kcX10_nameOf (Nat.le_of_ble_eq_true rfl) rfl rfl
theorem dX10_nameOf_79 : decode cX10_nameOf 79 = .ok (.areturn, 1) := op_176 kcX10_nameOf (Nat.le_of_ble_eq_true rfl) rfl
theorem dX10_nameOf_80 : decode cX10_nameOf 80 = .ok (.ldc 135, 2) := op_18 (a := 135) kcX10_nameOf (Nat.le_of_ble_eq_true rfl) rfl rfl
theorem dX10_nameOf_82 : decode cX10_nameOf 82 = .ok (.areturn, 1) := op_176 kcX10_nameOf (Nat.le_of_ble_eq_true rfl) rfl
theorem dX10_nameOf_83 : decode cX10_nameOf 83 = .ok (.ldc 137, 2) := op_18 (a := 137) kcX10_nameOf (Nat.le_of_ble_eq_true rfl) rfl rfl
theorem dX10_nameOf_85 : decode cX10_nameOf 85 = .ok (.areturn, 1) := op_176 kcX10_nameOf (Nat.le_of_ble_eq_true rfl) rfl
theorem dX10_nameOf_86 : decode cX10_nameOf 86 = .ok (.ldc 139, 2) := op_18 (a := 139) kcX10_nameOf (Nat.le_of_ble_eq_true rfl) rfl rfl
theorem dX10_nameOf_88 : decode cX10_nameOf 88 = .ok (.areturn, 1) := op_176 kcX10_nameOf (Nat.le_of_ble_eq_true rfl) rfl
theorem kcX10_faultOfName : (cX10_faultOfName).data.toList = cbs 0xac030400a7080700a1088d00b40c00b42a1200a107101bac070500997e047a1b2300b42a1000a3061bac050500a0fc101bac040500a0075100b42d00b42a 62 := by decide +kernel
theorem dX10_faultOfName_0 : decode cX10_faultOfName 0 = .ok (.aload_n 0, 1) := op_42 kcX10_faultOfName (Nat.le_of_ble_eq_true rfl) rfl
theorem dX10_faultOfName_1 : decode cX10_faultOfName 1 = .ok (.getfield 45, 3) := op_180 (a := 0) (b := 45) kcX10_faultOfName (Nat.le_of_ble_eq_true rfl) rfl rfl rfl
theorem dX10_faultOfName_4 : decode cX10_faultOfName 4 = .ok (.getfield 81, 3) := op_180 (a := 0) (b := 81) kcX10_faultOfName (Nat.le_of_ble_eq_true rfl) rfl rfl rfl
theorem dX10_faultOfName_7 : decode cX10_faultOfName 7 = .ok (.iconst 4, 1) := op_7 kcX10_faultOfName (Nat.le_of_ble_eq_true rfl) rfl
theorem dX10_faultOfName_8 : decode cX10_faultOfName 8 = .ok (.if_icmp .ne 5, 3) := op_160 (a := 0) (b := 5) kcX10_faultOfName (Nat.le_of_ble_eq_true rfl) rfl rfl rfl (by decide)
theorem dX10_faultOfName_11 : decode cX10_faultOfName 11 = .ok (.iconst 1, 1) := op_4 kcX10_faultOfName (Nat.le_of_ble_eq_true rfl) rfl
theorem dX10_faultOfName_12 : decode cX10_faultOfName 12 = .ok (.ireturn, 1) := op_172 kcX10_faultOfName (Nat.le_of_ble_eq_true rfl) rfl
theorem dX10_faultOfName_13 : decode cX10_faultOfName 13 = .ok (.iload_n 1, 1) := op_27 kcX10_faultOfName (Nat.le_of_ble_eq_true rfl) rfl
theorem dX10_faultOfName_14 : decode cX10_faultOfName 14 = .ok (.bipush (-4), 2) := op_16 (a := 252) kcX10_faultOfName (Nat.le_of_ble_eq_true rfl) rfl rfl (by decide)
theorem dX10_faultOfName_16 : decode cX10_faultOfName 16 = .ok (.if_icmp .ne 5, 3) := op_160 (a := 0) (b := 5) kcX10_faultOfName (Nat.le_of_ble_eq_true rfl) rfl rfl rfl (by decide)
theorem dX10_faultOfName_19 : decode cX10_faultOfName 19 = .ok (.iconst 2, 1) := op_5 kcX10_faultOfName (Nat.le_of_ble_eq_true rfl) rfl
theorem dX10_faultOfName_20 : decode cX10_faultOfName 20 = .ok (.ireturn, 1) := op_172 kcX10_faultOfName (Nat.le_of_ble_eq_true rfl) rfl
theorem dX10_faultOfName_21 : decode cX10_faultOfName 21 = .ok (.iload_n 1, 1) := op_27 kcX10_faultOfName (Nat.le_of_ble_eq_true rfl) rfl
theorem dX10_faultOfName_22 : decode cX10_faultOfName 22 = .ok (.iconst 3, 1) := op_6 kcX10_faultOfName (Nat.le_of_ble_eq_true rfl) rfl
theorem dX10_faultOfName_23 : decode cX10_faultOfName 23 = .ok (.if_icmp .gt 16, 3) := op_163 (a := 0) (b := 16) kcX10_faultOfName (Nat.le_of_ble_eq_true rfl) rfl rfl rfl (by decide)
theorem dX10_faultOfName_26 : decode cX10_faultOfName 26 = .ok (.aload_n 0, 1) := op_42 kcX10_faultOfName (Nat.le_of_ble_eq_true rfl) rfl
theorem dX10_faultOfName_27 : decode cX10_faultOfName 27 = .ok (.getfield 35, 3) := op_180 (a := 0) (b := 35) kcX10_faultOfName (Nat.le_of_ble_eq_true rfl) rfl rfl rfl
theorem dX10_faultOfName_30 : decode cX10_faultOfName 30 = .ok (.iload_n 1, 1) := op_27 kcX10_faultOfName (Nat.le_of_ble_eq_true rfl) rfl
theorem dX10_faultOfName_31 : decode cX10_faultOfName 31 = .ok (.ishr, 1) := op_122 kcX10_faultOfName (Nat.le_of_ble_eq_true rfl) rfl
theorem dX10_faultOfName_32 : decode cX10_faultOfName 32 = .ok (.iconst 1, 1) := op_4 kcX10_faultOfName (Nat.le_of_ble_eq_true rfl) rfl
theorem dX10_faultOfName_33 : decode cX10_faultOfName 33 = .ok (.iand, 1) := op_126 kcX10_faultOfName (Nat.le_of_ble_eq_true rfl) rfl
theorem dX10_faultOfName_34 : decode cX10_faultOfName 34 = .ok (.ifCond .eq 5, 3) := op_153 (a := 0) (b := 5) kcX10_faultOfName (Nat.le_of_ble_eq_true rfl) rfl rfl rfl (by decide)
theorem dX10_faultOfName_37 : decode cX10_faultOfName 37 = .ok (.iconst 4, 1) := op_7 kcX10_faultOfName (Nat.le_of_ble_eq_true rfl) rfl
theorem dX10_faultOfName_38 : decode cX10_faultOfName 38 = .ok (.ireturn, 1) := op_172 kcX10_faultOfName (Nat.le_of_ble_eq_true rfl) rfl
theorem dX10_faultOfName_39 : decode cX10_faultOfName 39 = .ok (.iload_n 1, 1) := op_27 kcX10_faultOfName (Nat.le_of_ble_eq_true rfl) rfl
theorem dX10_faultOfName_40 : decode cX10_faultOfName 40 = .ok (.bipush 7, 2) := op_16 (a := 7) kcX10_faultOfName (Nat.le_of_ble_eq_true rfl) rfl rfl (by decide)
theorem dX10_faultOfName_42 : decode cX10_faultOfName 42 = .ok (.if_icmp .lt 18, 3) := op_161 (a := 0) (b := 18) kcX10_faultOfName (Nat.le_of_ble_eq_true rfl) rfl rfl rfl (by decide)
theorem dX10_faultOfName_45 : decode cX10_faultOfName 45 = .ok (.aload_n 0, 1) := op_42 kcX10_faultOfName (Nat.le_of_ble_eq_true rfl) rfl
theorem dX10_faultOfName_46 : decode cX10_faultOfName 46 = .ok (.getfield 12, 3) := op_180 (a := 0) (b := 12) kcX10_faultOfName (Nat.le_of_ble_eq_true rfl) rfl rfl rfl
theorem dX10_faultOfName_49 : decode cX10_faultOfName 49 = .ok (.getfield 141, 3) := op_180 (a := 0) (b := 141) kcX10_faultOfName (Nat.le_of_ble_eq_true rfl) rfl rfl rfl
theorem dX10_faultOfName_52 : decode cX10_faultOfName 52 = .ok (.iconst 5, 1) := op_8 kcX10_faultOfName (Nat.le_of_ble_eq_true rfl) rfl
theorem dX10_faultOfName_53 : decode cX10_faultOfName 53 = .ok (.if_icmp .lt 7, 3) := op_161 (a := 0) (b := 7) kcX10_faultOfName (Nat.le_of_ble_eq_true rfl) rfl rfl rfl (by decide)
theorem dX10_faultOfName_56 : decode cX10_faultOfName 56 = .ok (.iconst 5, 1) := op_8 kcX10_faultOfName (Nat.le_of_ble_eq_true rfl) rfl
theorem dX10_faultOfName_57 : decode cX10_faultOfName 57 = .ok (.goto 4, 3) := op_167 (a := 0) (b := 4) kcX10_faultOfName (Nat.le_of_ble_eq_true rfl) rfl rfl rfl (by decide)
theorem dX10_faultOfName_60 : decode cX10_faultOfName 60 = .ok (.iconst 0, 1) := op_3 kcX10_faultOfName (Nat.le_of_ble_eq_true rfl) rfl
theorem dX10_faultOfName_61 : decode cX10_faultOfName 61 = .ok (.ireturn, 1) := op_172 kcX10_faultOfName (Nat.le_of_ble_eq_true rfl) rfl
set_option maxRecDepth 20000 in
theorem gw_wsX10_isAgain : (wsX10_isAgain).all goodWord = true := by decide +kernel
set_option maxRecDepth 20000 in
theorem ggX10_faultOfNumber_X10_isAgain : GoodIn wsX10_faultOfNumber wsX10_isAgain := goodIn_r _ [13, 1, 8, 14, 15, 16, 17, 18, 19, 20, 21, 22, 23, 24, 25, 26, 27, 28, 29, 30, 31, 32, 33, 34, 35, 36, 37, 38, 39, 40, 41, 42, 43, 44, 45] rfl gw_wsX10_isAgain
set_option maxRecDepth 20000 in
theorem gX10_faultOfNumber_X10_isAgain : GoodIn wsX10_faultOfNumber (wsV RX10 156 RX10 yX10_isAgain wsX10_isAgain) := goodIn_app (goodIn_of _ (by decide +kernel)) ggX10_faultOfNumber_X10_isAgain
theorem kcX10_faultOfNumber : (cX10_faultOfNumber).data.toList = cbs 0xac030400a7080700a12e1b5f00b21cac070500999c00b61b2a0d00a0041cac060500a405156d00b42d00b42a0f00a104156d00b42d00b42a05362e1b9900b20800a72e1b9600b20b009a1c04362e1b9300b20800a72e1b9000b20b009a1cac0505009a1d0700a0055100b42d00b42a3e030400a7040700a0041b0800a12e1b5f00b21cac040500a0075100b42d00b42a 144 := by decide +kernel
theorem dX10_faultOfNumber_0 : decode cX10_faultOfNumber 0 = .ok (.aload_n 0, 1) := op_42 kcX10_faultOfNumber (Nat.le_of_ble_eq_true rfl) rfl
theorem dX10_faultOfNumber_1 : decode cX10_faultOfNumber 1 = .ok (.getfield 45, 3) := op_180 (a := 0) (b := 45) kcX10_faultOfNumber (Nat.le_of_ble_eq_true rfl) rfl rfl rfl
theorem dX10_faultOfNumber_4 : decode cX10_faultOfNumber 4 = .ok (.getfield 81, 3) := op_180 (a := 0) (b := 81) kcX10_faultOfNumber (Nat.le_of_ble_eq_true rfl) rfl rfl rfl
theorem dX10_faultOfNumber_7 : decode cX10_faultOfNumber 7 = .ok (.iconst 4, 1) := op_7 kcX10_faultOfNumber (Nat.le_of_ble_eq_true rfl) rfl
theorem dX10_faultOfNumber_8 : decode cX10_faultOfNumber 8 = .ok (.if_icmp .ne 5, 3) := op_160 (a := 0) (b := 5) kcX10_faultOfNumber (Nat.le_of_ble_eq_true rfl) rfl rfl rfl (by decide)
theorem dX10_faultOfNumber_11 : decode cX10_faultOfNumber 11 = .ok (.iconst 1, 1) := op_4 kcX10_faultOfNumber (Nat.le_of_ble_eq_true rfl) rfl
theorem dX10_faultOfNumber_12 : decode cX10_faultOfNumber 12 = .ok (.ireturn, 1) := op_172 kcX10_faultOfNumber (Nat.le_of_ble_eq_true rfl) rfl
theorem dX10_faultOfNumber_13 : decode cX10_faultOfNumber 13 = .ok (.iload_n 2, 1) := op_28 kcX10_faultOfNumber (Nat.le_of_ble_eq_true rfl) rfl
theorem dX10_faultOfNumber_14 : decode cX10_faultOfNumber 14 = .ok (.getstatic 95, 3) := op_178 (a := 0) (b := 95) kcX10_faultOfNumber (Nat.le_of_ble_eq_true rfl) rfl rfl rfl
theorem dX10_faultOfNumber_17 : decode cX10_faultOfNumber 17 = .ok (.iload_n 1, 1) := op_27 kcX10_faultOfNumber (Nat.le_of_ble_eq_true rfl) rfl
theorem dX10_faultOfNumber_18 : decode cX10_faultOfNumber 18 = .ok (.iaload, 1) := op_46 kcX10_faultOfNumber (Nat.le_of_ble_eq_true rfl) rfl
theorem dX10_faultOfNumber_19 : decode cX10_faultOfNumber 19 = .ok (.if_icmp .lt 8, 3) := op_161 (a := 0) (b := 8) kcX10_faultOfNumber (Nat.le_of_ble_eq_true rfl) rfl rfl rfl (by decide)
theorem dX10_faultOfNumber_22 : decode cX10_faultOfNumber 22 = .ok (.iload_n 1, 1) := op_27 kcX10_faultOfNumber (Nat.le_of_ble_eq_true rfl) rfl
theorem dX10_faultOfNumber_23 : decode cX10_faultOfNumber 23 = .ok (.iconst 1, 1) := op_4 kcX10_faultOfNumber (Nat.le_of_ble_eq_true rfl) rfl
theorem dX10_faultOfNumber_24 : decode cX10_faultOfNumber 24 = .ok (.if_icmp .ne 7, 3) := op_160 (a := 0) (b := 7) kcX10_faultOfNumber (Nat.le_of_ble_eq_true rfl) rfl rfl rfl (by decide)
theorem dX10_faultOfNumber_27 : decode cX10_faultOfNumber 27 = .ok (.iconst 1, 1) := op_4 kcX10_faultOfNumber (Nat.le_of_ble_eq_true rfl) rfl
theorem dX10_faultOfNumber_28 : decode cX10_faultOfNumber 28 = .ok (.goto 4, 3) := op_167 (a := 0) (b := 4) kcX10_faultOfNumber (Nat.le_of_ble_eq_true rfl) rfl rfl rfl (by decide)
theorem dX10_faultOfNumber_31 : decode cX10_faultOfNumber 31 = .ok (.iconst 0, 1) := op_3 kcX10_faultOfNumber (Nat.le_of_ble_eq_true rfl) rfl
theorem dX10_faultOfNumber_32 : decode cX10_faultOfNumber 32 = .ok (.istore_n 3, 1) := op_62 kcX10_faultOfNumber (Nat.le_of_ble_eq_true rfl) rfl
theorem dX10_faultOfNumber_33 : decode cX10_faultOfNumber 33 = .ok (.aload_n 0, 1) := op_42 kcX10_faultOfNumber (Nat.le_of_ble_eq_true rfl) rfl
theorem dX10_faultOfNumber_34 : decode cX10_faultOfNumber 34 = .ok (.getfield 45, 3) := op_180 (a := 0) (b := 45) kcX10_faultOfNumber (Nat.le_of_ble_eq_true rfl) rfl rfl rfl
theorem dX10_faultOfNumber_37 : decode cX10_faultOfNumber 37 = .ok (.getfield 81, 3) := op_180 (a := 0) (b := 81) kcX10_faultOfNumber (Nat.le_of_ble_eq_true rfl) rfl rfl rfl
theorem dX10_faultOfNumber_40 : decode cX10_faultOfNumber 40 = .ok (.iconst 2, 1) := op_5 kcX10_faultOfNumber (Nat.le_of_ble_eq_true rfl) rfl
theorem dX10_faultOfNumber_41 : decode cX10_faultOfNumber 41 = .ok (.if_icmp .ne 7, 3) := op_160 (a := 0) (b := 7) kcX10_faultOfNumber (Nat.le_of_ble_eq_true rfl) rfl rfl rfl (by decide)
theorem dX10_faultOfNumber_44 : decode cX10_faultOfNumber 44 = .ok (.iload_n 3, 1) := op_29 kcX10_faultOfNumber (Nat.le_of_ble_eq_true rfl) rfl
theorem dX10_faultOfNumber_45 : decode cX10_faultOfNumber 45 = .ok (.ifCond .ne 5, 3) := op_154 (a := 0) (b := 5) kcX10_faultOfNumber (Nat.le_of_ble_eq_true rfl) rfl rfl rfl (by decide)
theorem dX10_faultOfNumber_48 : decode cX10_faultOfNumber 48 = .ok (.iconst 2, 1) := op_5 kcX10_faultOfNumber (Nat.le_of_ble_eq_true rfl) rfl
theorem dX10_faultOfNumber_49 : decode cX10_faultOfNumber 49 = .ok (.ireturn, 1) := op_172 kcX10_faultOfNumber (Nat.le_of_ble_eq_true rfl) rfl
theorem dX10_faultOfNumber_50 : decode cX10_faultOfNumber 50 = .ok (.iload_n 2, 1) := op_28 kcX10_faultOfNumber (Nat.le_of_ble_eq_true rfl) rfl
theorem dX10_faultOfNumber_51 : decode cX10_faultOfNumber 51 = .ok (.ifCond .ne 11, 3) := op_154 (a := 0) (b := 11) kcX10_faultOfNumber (Nat.le_of_ble_eq_true rfl) rfl rfl rfl (by decide)
theorem dX10_faultOfNumber_54 : decode cX10_faultOfNumber 54 = .ok (.getstatic 144, 3) := op_178 (a := 0) (b := 144) kcX10_faultOfNumber (Nat.le_of_ble_eq_true rfl) rfl rfl rfl
theorem dX10_faultOfNumber_57 : decode cX10_faultOfNumber 57 = .ok (.iload_n 1, 1) := op_27 kcX10_faultOfNumber (Nat.le_of_ble_eq_true rfl) rfl
theorem dX10_faultOfNumber_58 : decode cX10_faultOfNumber 58 = .ok (.iaload, 1) := op_46 kcX10_faultOfNumber (Nat.le_of_ble_eq_true rfl) rfl
theorem dX10_faultOfNumber_59 : decode cX10_faultOfNumber 59 = .ok (.goto 8, 3) := op_167 (a := 0) (b := 8) kcX10_faultOfNumber (Nat.le_of_ble_eq_true rfl) rfl rfl rfl (by decide)
theorem dX10_faultOfNumber_62 : decode cX10_faultOfNumber 62 = .ok (.getstatic 147, 3) := op_178 (a := 0) (b := 147) kcX10_faultOfNumber (Nat.le_of_ble_eq_true rfl) rfl rfl rfl
theorem dX10_faultOfNumber_65 : decode cX10_faultOfNumber 65 = .ok (.iload_n 1, 1) := op_27 kcX10_faultOfNumber (Nat.le_of_ble_eq_true rfl) rfl
theorem dX10_faultOfNumber_66 : decode cX10_faultOfNumber 66 = .ok (.iaload, 1) := op_46 kcX10_faultOfNumber (Nat.le_of_ble_eq_true rfl) rfl
theorem dX10_faultOfNumber_67 : decode cX10_faultOfNumber 67 = .ok (.istore 4, 2) := op_54 (a := 4) kcX10_faultOfNumber (Nat.le_of_ble_eq_true rfl) rfl rfl
theorem dX10_faultOfNumber_69 : decode cX10_faultOfNumber 69 = .ok (.iload_n 2, 1) := op_28 kcX10_faultOfNumber (Nat.le_of_ble_eq_true rfl) rfl
theorem dX10_faultOfNumber_70 : decode cX10_faultOfNumber 70 = .ok (.ifCond .ne 11, 3) := op_154 (a := 0) (b := 11) kcX10_faultOfNumber (Nat.le_of_ble_eq_true rfl) rfl rfl rfl (by decide)
theorem dX10_faultOfNumber_73 : decode cX10_faultOfNumber 73 = .ok (.getstatic 150, 3) := op_178 (a := 0) (b := 150) kcX10_faultOfNumber (Nat.le_of_ble_eq_true rfl) rfl rfl rfl
theorem dX10_faultOfNumber_76 : decode cX10_faultOfNumber 76 = .ok (.iload_n 1, 1) := op_27 kcX10_faultOfNumber (Nat.le_of_ble_eq_true rfl) rfl
theorem dX10_faultOfNumber_77 : decode cX10_faultOfNumber 77 = .ok (.iaload, 1) := op_46 kcX10_faultOfNumber (Nat.le_of_ble_eq_true rfl) rfl
theorem dX10_faultOfNumber_78 : decode cX10_faultOfNumber 78 = .ok (.goto 8, 3) := op_167 (a := 0) (b := 8) kcX10_faultOfNumber (Nat.le_of_ble_eq_true rfl) rfl rfl rfl (by decide)
theorem dX10_faultOfNumber_81 : decode cX10_faultOfNumber 81 = .ok (.getstatic 153, 3) := op_178 (a := 0) (b := 153) kcX10_faultOfNumber (Nat.le_of_ble_eq_true rfl) rfl rfl rfl
theorem dX10_faultOfNumber_84 : decode cX10_faultOfNumber 84 = .ok (.iload_n 1, 1) := op_27 kcX10_faultOfNumber (Nat.le_of_ble_eq_true rfl) rfl
theorem dX10_faultOfNumber_85 : decode cX10_faultOfNumber 85 = .ok (.iaload, 1) := op_46 kcX10_faultOfNumber (Nat.le_of_ble_eq_true rfl) rfl
theorem dX10_faultOfNumber_86 : decode cX10_faultOfNumber 86 = .ok (.istore 5, 2) := op_54 (a := 5) kcX10_faultOfNumber (Nat.le_of_ble_eq_true rfl) rfl rfl
theorem dX10_faultOfNumber_88 : decode cX10_faultOfNumber 88 = .ok (.aload_n 0, 1) := op_42 kcX10_faultOfNumber (Nat.le_of_ble_eq_true rfl) rfl
theorem dX10_faultOfNumber_89 : decode cX10_faultOfNumber 89 = .ok (.getfield 45, 3) := op_180 (a := 0) (b := 45) kcX10_faultOfNumber (Nat.le_of_ble_eq_true rfl) rfl rfl rfl
theorem dX10_faultOfNumber_92 : decode cX10_faultOfNumber 92 = .ok (.getfield 109, 3) := op_180 (a := 0) (b := 109) kcX10_faultOfNumber (Nat.le_of_ble_eq_true rfl) rfl rfl rfl
theorem dX10_faultOfNumber_95 : decode cX10_faultOfNumber 95 = .ok (.iload 4, 2) := op_21 (a := 4) kcX10_faultOfNumber (Nat.le_of_ble_eq_true rfl) rfl rfl
theorem dX10_faultOfNumber_97 : decode cX10_faultOfNumber 97 = .ok (.if_icmp .lt 15, 3) := op_161 (a := 0) (b := 15) kcX10_faultOfNumber (Nat.le_of_ble_eq_true rfl) rfl rfl rfl (by decide)
theorem dX10_faultOfNumber_100 : decode cX10_faultOfNumber 100 = .ok (.aload_n 0, 1) := op_42 kcX10_faultOfNumber (Nat.le_of_ble_eq_true rfl) rfl
theorem dX10_faultOfNumber_101 : decode cX10_faultOfNumber 101 = .ok (.getfield 45, 3) := op_180 (a := 0) (b := 45) kcX10_faultOfNumber (Nat.le_of_ble_eq_true rfl) rfl rfl rfl
theorem dX10_faultOfNumber_104 : decode cX10_faultOfNumber 104 = .ok (.getfield 109, 3) := op_180 (a := 0) (b := 109) kcX10_faultOfNumber (Nat.le_of_ble_eq_true rfl) rfl rfl rfl
theorem dX10_faultOfNumber_107 : decode cX10_faultOfNumber 107 = .ok (.iload 5, 2) := op_21 (a := 5) kcX10_faultOfNumber (Nat.le_of_ble_eq_true rfl) rfl rfl
theorem dX10_faultOfNumber_109 : decode cX10_faultOfNumber 109 = .ok (.if_icmp .le 5, 3) := op_164 (a := 0) (b := 5) kcX10_faultOfNumber (Nat.le_of_ble_eq_true rfl) rfl rfl rfl (by decide)
theorem dX10_faultOfNumber_112 : decode cX10_faultOfNumber 112 = .ok (.iconst 3, 1) := op_6 kcX10_faultOfNumber (Nat.le_of_ble_eq_true rfl) rfl
theorem dX10_faultOfNumber_113 : decode cX10_faultOfNumber 113 = .ok (.ireturn, 1) := op_172 kcX10_faultOfNumber (Nat.le_of_ble_eq_true rfl) rfl
theorem dX10_faultOfNumber_114 : decode cX10_faultOfNumber 114 = .ok (.iload_n 2, 1) := op_28 kcX10_faultOfNumber (Nat.le_of_ble_eq_true rfl) rfl
theorem dX10_faultOfNumber_115 : decode cX10_faultOfNumber 115 = .ok (.iconst 1, 1) := op_4 kcX10_faultOfNumber (Nat.le_of_ble_eq_true rfl) rfl
theorem dX10_faultOfNumber_116 : decode cX10_faultOfNumber 116 = .ok (.if_icmp .ne 13, 3) := op_160 (a := 0) (b := 13) kcX10_faultOfNumber (Nat.le_of_ble_eq_true rfl) rfl rfl rfl (by decide)
theorem dX10_faultOfNumber_119 : decode cX10_faultOfNumber 119 = .ok (.aload_n 0, 1) := op_42 kcX10_faultOfNumber (Nat.le_of_ble_eq_true rfl) rfl
theorem dX10_faultOfNumber_120 : decode cX10_faultOfNumber 120 = .ok (.iload_n 1, 1) := op_27 kcX10_faultOfNumber (Nat.le_of_ble_eq_true rfl) rfl
theorem dX10_faultOfNumber_121 : decode cX10_faultOfNumber 121 = .ok (.invokevirtual 156, 3) := op_182 (a := 0) (b := 156) kcX10_faultOfNumber (Nat.le_of_ble_eq_true rfl) rfl rfl rfl
theorem dX10_faultOfNumber_124 : decode cX10_faultOfNumber 124 = .ok (.ifCond .eq 5, 3) := op_153 (a := 0) (b := 5) kcX10_faultOfNumber (Nat.le_of_ble_eq_true rfl) rfl rfl rfl (by decide)
theorem dX10_faultOfNumber_127 : decode cX10_faultOfNumber 127 = .ok (.iconst 4, 1) := op_7 kcX10_faultOfNumber (Nat.le_of_ble_eq_true rfl) rfl
theorem dX10_faultOfNumber_128 : decode cX10_faultOfNumber 128 = .ok (.ireturn, 1) := op_172 kcX10_faultOfNumber (Nat.le_of_ble_eq_true rfl) rfl
theorem dX10_faultOfNumber_129 : decode cX10_faultOfNumber 129 = .ok (.iload_n 2, 1) := op_28 kcX10_faultOfNumber (Nat.le_of_ble_eq_true rfl) rfl
theorem dX10_faultOfNumber_130 : decode cX10_faultOfNumber 130 = .ok (.getstatic 95, 3) := op_178 (a := 0) (b := 95) kcX10_faultOfNumber (Nat.le_of_ble_eq_true rfl) rfl rfl rfl
theorem dX10_faultOfNumber_133 : decode cX10_faultOfNumber 133 = .ok (.iload_n 1, 1) := op_27 kcX10_faultOfNumber (Nat.le_of_ble_eq_true rfl) rfl
theorem dX10_faultOfNumber_134 : decode cX10_faultOfNumber 134 = .ok (.iaload, 1) := op_46 kcX10_faultOfNumber (Nat.le_of_ble_eq_true rfl) rfl
theorem dX10_faultOfNumber_135 : decode cX10_faultOfNumber 135 = .ok (.if_icmp .lt 7, 3) := op_161 (a := 0) (b := 7) kcX10_faultOfNumber (Nat.le_of_ble_eq_true rfl) rfl rfl rfl (by decide)
theorem dX10_faultOfNumber_138 : decode cX10_faultOfNumber 138 = .ok (.iconst 5, 1) := op_8 kcX10_faultOfNumber (Nat.le_of_ble_eq_true rfl) rfl
theorem dX10_faultOfNumber_139 : decode cX10_faultOfNumber 139 = .ok (.goto 4, 3) := op_167 (a := 0) (b := 4) kcX10_faultOfNumber (Nat.le_of_ble_eq_true rfl) rfl rfl rfl (by decide)
theorem dX10_faultOfNumber_142 : decode cX10_faultOfNumber 142 = .ok (.iconst 0, 1) := op_3 kcX10_faultOfNumber (Nat.le_of_ble_eq_true rfl) rfl
theorem dX10_faultOfNumber_143 : decode cX10_faultOfNumber 143 = .ok (.ireturn, 1) := op_172 kcX10_faultOfNumber (Nat.le_of_ble_eq_true rfl) rfl
set_option maxRecDepth 20000 in
theorem ggX10_isAgain_X8_isFriend : GoodIn wsX10_isAgain wsX8_isFriend := goodIn_r _ [9, 10, 26, 27, 28, 29, 30, 31, 32, 33, 34] rfl gw_wsX8_isFriend
set_option maxRecDepth 20000 in
theorem gX10_isAgain_X8_isFriend : GoodIn wsX10_isAgain (wsV RX10 160 RX8 yX8_isFriend wsX8_isFriend) := goodIn_app (goodIn_of _ (by decide +kernel)) ggX10_isAgain_X8_isFriend
theorem kcX10_isAgain : (cX10_isAgain).data.toList = cbs 0xac030400a7040700991c0b00a009101bac030400a704070099a000b66d00b42d00b42a2e032900b42a1500b42a1a009a1c2400a0071b3d030400a7040700a02e032900b42a6d00b42d00b42a 76 := by decide +kernel
theorem dX10_isAgain_0 : decode cX10_isAgain 0 = .ok (.aload_n 0, 1) := op_42 kcX10_isAgain (Nat.le_of_ble_eq_true rfl) rfl
theorem dX10_isAgain_1 : decode cX10_isAgain 1 = .ok (.getfield 45, 3) := op_180 (a := 0) (b := 45) kcX10_isAgain (Nat.le_of_ble_eq_true rfl) rfl rfl rfl
theorem dX10_isAgain_4 : decode cX10_isAgain 4 = .ok (.getfield 109, 3) := op_180 (a := 0) (b := 109) kcX10_isAgain (Nat.le_of_ble_eq_true rfl) rfl rfl rfl
theorem dX10_isAgain_7 : decode cX10_isAgain 7 = .ok (.aload_n 0, 1) := op_42 kcX10_isAgain (Nat.le_of_ble_eq_true rfl) rfl
theorem dX10_isAgain_8 : decode cX10_isAgain 8 = .ok (.getfield 41, 3) := op_180 (a := 0) (b := 41) kcX10_isAgain (Nat.le_of_ble_eq_true rfl) rfl rfl rfl
theorem dX10_isAgain_11 : decode cX10_isAgain 11 = .ok (.iconst 0, 1) := op_3 kcX10_isAgain (Nat.le_of_ble_eq_true rfl) rfl
theorem dX10_isAgain_12 : decode cX10_isAgain 12 = .ok (.iaload, 1) := op_46 kcX10_isAgain (Nat.le_of_ble_eq_true rfl) rfl
theorem dX10_isAgain_13 : decode cX10_isAgain 13 = .ok (.if_icmp .ne 7, 3) := op_160 (a := 0) (b := 7) kcX10_isAgain (Nat.le_of_ble_eq_true rfl) rfl rfl rfl (by decide)
theorem dX10_isAgain_16 : decode cX10_isAgain 16 = .ok (.iconst 1, 1) := op_4 kcX10_isAgain (Nat.le_of_ble_eq_true rfl) rfl
theorem dX10_isAgain_17 : decode cX10_isAgain 17 = .ok (.goto 4, 3) := op_167 (a := 0) (b := 4) kcX10_isAgain (Nat.le_of_ble_eq_true rfl) rfl rfl rfl (by decide)
theorem dX10_isAgain_20 : decode cX10_isAgain 20 = .ok (.iconst 0, 1) := op_3 kcX10_isAgain (Nat.le_of_ble_eq_true rfl) rfl
theorem dX10_isAgain_21 : decode cX10_isAgain 21 = .ok (.istore_n 2, 1) := op_61 kcX10_isAgain (Nat.le_of_ble_eq_true rfl) rfl
theorem dX10_isAgain_22 : decode cX10_isAgain 22 = .ok (.iload_n 1, 1) := op_27 kcX10_isAgain (Nat.le_of_ble_eq_true rfl) rfl
theorem dX10_isAgain_23 : decode cX10_isAgain 23 = .ok (.iconst 4, 1) := op_7 kcX10_isAgain (Nat.le_of_ble_eq_true rfl) rfl
theorem dX10_isAgain_24 : decode cX10_isAgain 24 = .ok (.if_icmp .ne 36, 3) := op_160 (a := 0) (b := 36) kcX10_isAgain (Nat.le_of_ble_eq_true rfl) rfl rfl rfl (by decide)
theorem dX10_isAgain_27 : decode cX10_isAgain 27 = .ok (.iload_n 2, 1) := op_28 kcX10_isAgain (Nat.le_of_ble_eq_true rfl) rfl
theorem dX10_isAgain_28 : decode cX10_isAgain 28 = .ok (.ifCond .ne 26, 3) := op_154 (a := 0) (b := 26) kcX10_isAgain (Nat.le_of_ble_eq_true rfl) rfl rfl rfl (by decide)
theorem dX10_isAgain_31 : decode cX10_isAgain 31 = .ok (.aload_n 0, 1) := op_42 kcX10_isAgain (Nat.le_of_ble_eq_true rfl) rfl
theorem dX10_isAgain_32 : decode cX10_isAgain 32 = .ok (.getfield 21, 3) := op_180 (a := 0) (b := 21) kcX10_isAgain (Nat.le_of_ble_eq_true rfl) rfl rfl rfl
theorem dX10_isAgain_35 : decode cX10_isAgain 35 = .ok (.aload_n 0, 1) := op_42 kcX10_isAgain (Nat.le_of_ble_eq_true rfl) rfl
theorem dX10_isAgain_36 : decode cX10_isAgain 36 = .ok (.getfield 41, 3) := op_180 (a := 0) (b := 41) kcX10_isAgain (Nat.le_of_ble_eq_true rfl) rfl rfl rfl
theorem dX10_isAgain_39 : decode cX10_isAgain 39 = .ok (.iconst 0, 1) := op_3 kcX10_isAgain (Nat.le_of_ble_eq_true rfl) rfl
theorem dX10_isAgain_40 : decode cX10_isAgain 40 = .ok (.iaload, 1) := op_46 kcX10_isAgain (Nat.le_of_ble_eq_true rfl) rfl
theorem dX10_isAgain_41 : decode cX10_isAgain 41 = .ok (.aload_n 0, 1) := op_42 kcX10_isAgain (Nat.le_of_ble_eq_true rfl) rfl
theorem dX10_isAgain_42 : decode cX10_isAgain 42 = .ok (.getfield 45, 3) := op_180 (a := 0) (b := 45) kcX10_isAgain (Nat.le_of_ble_eq_true rfl) rfl rfl rfl
theorem dX10_isAgain_45 : decode cX10_isAgain 45 = .ok (.getfield 109, 3) := op_180 (a := 0) (b := 109) kcX10_isAgain (Nat.le_of_ble_eq_true rfl) rfl rfl rfl
theorem dX10_isAgain_48 : decode cX10_isAgain 48 = .ok (.invokevirtual 160, 3) := op_182 (a := 0) (b := 160) kcX10_isAgain (Nat.le_of_ble_eq_true rfl) rfl rfl rfl
theorem dX10_isAgain_51 : decode cX10_isAgain 51 = .ok (.ifCond .eq 7, 3) := op_153 (a := 0) (b := 7) kcX10_isAgain (Nat.le_of_ble_eq_true rfl) rfl rfl rfl (by decide)
theorem dX10_isAgain_54 : decode cX10_isAgain 54 = .ok (.iconst 1, 1) := op_4 kcX10_isAgain (Nat.le_of_ble_eq_true rfl) rfl
theorem dX10_isAgain_55 : decode cX10_isAgain 55 = .ok (.goto 4, 3) := op_167 (a := 0) (b := 4) kcX10_isAgain (Nat.le_of_ble_eq_true rfl) rfl rfl rfl (by decide)
theorem dX10_isAgain_58 : decode cX10_isAgain 58 = .ok (.iconst 0, 1) := op_3 kcX10_isAgain (Nat.le_of_ble_eq_true rfl) rfl
theorem dX10_isAgain_59 : decode cX10_isAgain 59 = .ok (.ireturn, 1) := op_172 kcX10_isAgain (Nat.le_of_ble_eq_true rfl) rfl
theorem dX10_isAgain_60 : decode cX10_isAgain 60 = .ok (.iload_n 1, 1) := op_27 kcX10_isAgain (Nat.le_of_ble_eq_true rfl) rfl
theorem dX10_isAgain_61 : decode cX10_isAgain 61 = .ok (.bipush 9, 2) := op_16 (a := 9) kcX10_isAgain (Nat.le_of_ble_eq_true rfl) rfl rfl (by decide)
theorem dX10_isAgain_63 : decode cX10_isAgain 63 = .ok (.if_icmp .ne 11, 3) := op_160 (a := 0) (b := 11) kcX10_isAgain (Nat.le_of_ble_eq_true rfl) rfl rfl rfl (by decide)
theorem dX10_isAgain_66 : decode cX10_isAgain 66 = .ok (.iload_n 2, 1) := op_28 kcX10_isAgain (Nat.le_of_ble_eq_true rfl) rfl
theorem dX10_isAgain_67 : decode cX10_isAgain 67 = .ok (.ifCond .eq 7, 3) := op_153 (a := 0) (b := 7) kcX10_isAgain (Nat.le_of_ble_eq_true rfl) rfl rfl rfl (by decide)
theorem dX10_isAgain_70 : decode cX10_isAgain 70 = .ok (.iconst 1, 1) := op_4 kcX10_isAgain (Nat.le_of_ble_eq_true rfl) rfl
theorem dX10_isAgain_71 : decode cX10_isAgain 71 = .ok (.goto 4, 3) := op_167 (a := 0) (b := 4) kcX10_isAgain (Nat.le_of_ble_eq_true rfl) rfl rfl rfl (by decide)
theorem dX10_isAgain_74 : decode cX10_isAgain 74 = .ok (.iconst 0, 1) := op_3 kcX10_isAgain (Nat.le_of_ble_eq_true rfl) rfl
theorem dX10_isAgain_75 : decode cX10_isAgain 75 = .ok (.ireturn, 1) := op_172 kcX10_isAgain (Nat.le_of_ble_eq_true rfl) rfl
set_option maxRecDepth 20000 in
theorem gw_wsX10_heed : (wsX10_heed).all goodWord = true := by decide +kernel
set_option maxRecDepth 20000 in
theorem ggX10_takeLine_X10_heed : GoodIn wsX10_takeLine wsX10_heed := goodIn_r _ [23, 24, 13, 14, 15, 16, 44, 45, 46, 47, 48, 49, 50, 51, 52] rfl gw_wsX10_heed
set_option maxRecDepth 20000 in
theorem gX10_takeLine_X10_heed : GoodIn wsX10_takeLine (wsV RX10 172 RX10 yX10_heed wsX10_heed) := goodIn_app (goodIn_of _ (by decide +kernel)) ggX10_takeLine_X10_heed
set_option maxRecDepth 20000 in
theorem gw_wsX8_setFriend : (wsX8_setFriend).all goodWord = true := by decide +kernel
set_option maxRecDepth 20000 in
theorem ggX10_takeLine_X8_setFriend : GoodIn wsX10_takeLine wsX8_setFriend := goodIn_r _ [29, 30, 60, 61, 62, 63, 64, 65, 66, 67, 68] rfl gw_wsX8_setFriend
set_option maxRecDepth 20000 in
theorem gX10_takeLine_X8_setFriend : GoodIn wsX10_takeLine (wsV RX10 180 RX8 yX8_setFriend wsX8_setFriend) := goodIn_app (goodIn_of _ (by decide +kernel)) ggX10_takeLine_X8_setFriend
set_option maxRecDepth 20000 in
theorem gw_wsX10_takeStir : (wsX10_takeStir).all goodWord = true := by decide +kernel
set_option maxRecDepth 20000 in
theorem ggX10_takeLine_X10_takeStir : GoodIn wsX10_takeLine wsX10_takeStir := goodIn_r _ [34, 3, 13, 14, 15, 16, 35, 36, 37, 38, 39, 40, 41, 42, 43, 19, 20, 21, 22, 23, 24, 44, 45, 46, 47, 48, 49, 50, 51, 52, 53, 54, 55, 56, 57, 58, 59] rfl gw_wsX10_takeStir
set_option maxRecDepth 20000 in
theorem gX10_takeLine_X10_takeStir : GoodIn wsX10_takeLine (wsV RX10 193 RX10 yX10_takeStir wsX10_takeStir) := goodIn_app (goodIn_of _ (by decide +kernel)) ggX10_takeLine_X10_takeStir
theorem kcX10_takeLine : (cX10_takeLine).data.toList = cbs 0xb1c100b604151d1b2a0b00a7ac00b61d2a4f04151dbf00b40c00b42a1e00a7ac00b61d2a4f04151dbd00b41500b42a3100a7ac00b6b800b804151d2ab400b60404151d1500b42a4900a7ac00b61d2ab200b51d1500b42a5900a7ac00b61d2ab000b51d1500b42a6900a7ac00b664041c2aa600b81c03a300b41500b42a032900b42a8400a73800b51d0c00b42a9b00000088000000700000006000000050000000350000002a0000000600000000000000ae00000000aa1b04362e042900b42a3e2e032900b42a2000b560042000b4592a 209 := by decide +kernel
theorem dX10_takeLine_0 : decode cX10_takeLine 0 = .ok (.aload_n 0, 1) := op_42 kcX10_takeLine (Nat.le_of_ble_eq_true rfl) rfl
theorem dX10_takeLine_1 : decode cX10_takeLine 1 = .ok (.dup, 1) := op_89 kcX10_takeLine (Nat.le_of_ble_eq_true rfl) rfl
theorem dX10_takeLine_2 : decode cX10_takeLine 2 = .ok (.getfield 32, 3) := op_180 (a := 0) (b := 32) kcX10_takeLine (Nat.le_of_ble_eq_true rfl) rfl rfl rfl
theorem dX10_takeLine_5 : decode cX10_takeLine 5 = .ok (.iconst 1, 1) := op_4 kcX10_takeLine (Nat.le_of_ble_eq_true rfl) rfl
theorem dX10_takeLine_6 : decode cX10_takeLine 6 = .ok (.iadd, 1) := op_96 kcX10_takeLine (Nat.le_of_ble_eq_true rfl) rfl
theorem dX10_takeLine_7 : decode cX10_takeLine 7 = .ok (.putfield 32, 3) := op_181 (a := 0) (b := 32) kcX10_takeLine (Nat.le_of_ble_eq_true rfl) rfl rfl rfl
theorem dX10_takeLine_10 : decode cX10_takeLine 10 = .ok (.aload_n 0, 1) := op_42 kcX10_takeLine (Nat.le_of_ble_eq_true rfl) rfl
theorem dX10_takeLine_11 : decode cX10_takeLine 11 = .ok (.getfield 41, 3) := op_180 (a := 0) (b := 41) kcX10_takeLine (Nat.le_of_ble_eq_true rfl) rfl rfl rfl
theorem dX10_takeLine_14 : decode cX10_takeLine 14 = .ok (.iconst 0, 1) := op_3 kcX10_takeLine (Nat.le_of_ble_eq_true rfl) rfl
theorem dX10_takeLine_15 : decode cX10_takeLine 15 = .ok (.iaload, 1) := op_46 kcX10_takeLine (Nat.le_of_ble_eq_true rfl) rfl
theorem dX10_takeLine_16 : decode cX10_takeLine 16 = .ok (.istore_n 3, 1) := op_62 kcX10_takeLine (Nat.le_of_ble_eq_true rfl) rfl
theorem dX10_takeLine_17 : decode cX10_takeLine 17 = .ok (.aload_n 0, 1) := op_42 kcX10_takeLine (Nat.le_of_ble_eq_true rfl) rfl
theorem dX10_takeLine_18 : decode cX10_takeLine 18 = .ok (.getfield 41, 3) := op_180 (a := 0) (b := 41) kcX10_takeLine (Nat.le_of_ble_eq_true rfl) rfl rfl rfl
theorem dX10_takeLine_21 : decode cX10_takeLine 21 = .ok (.iconst 1, 1) := op_4 kcX10_takeLine (Nat.le_of_ble_eq_true rfl) rfl
theorem dX10_takeLine_22 : decode cX10_takeLine 22 = .ok (.iaload, 1) := op_46 kcX10_takeLine (Nat.le_of_ble_eq_true rfl) rfl
theorem dX10_takeLine_23 : decode cX10_takeLine 23 = .ok (.istore 4, 2) := op_54 (a := 4) kcX10_takeLine (Nat.le_of_ble_eq_true rfl) rfl rfl
theorem dX10_takeLine_25 : decode cX10_takeLine 25 = .ok (.iload_n 1, 1) := op_27 kcX10_takeLine (Nat.le_of_ble_eq_true rfl) rfl
theorem dX10_takeLine_26 : decode cX10_takeLine 26 = .ok (.tableswitch 174 0 6 #[42, 53, 80, 96, 112, 136, 155], 42) := by decide +kernel
theorem dX10_takeLine_68 : decode cX10_takeLine 68 = .ok (.aload_n 0, 1) := op_42 kcX10_takeLine (Nat.le_of_ble_eq_true rfl) rfl
theorem dX10_takeLine_69 : decode cX10_takeLine 69 = .ok (.getfield 12, 3) := op_180 (a := 0) (b := 12) kcX10_takeLine (Nat.le_of_ble_eq_true rfl) rfl rfl rfl
theorem dX10_takeLine_72 : decode cX10_takeLine 72 = .ok (.iload_n 3, 1) := op_29 kcX10_takeLine (Nat.le_of_ble_eq_true rfl) rfl
theorem dX10_takeLine_73 : decode cX10_takeLine 73 = .ok (.putfield 56, 3) := op_181 (a := 0) (b := 56) kcX10_takeLine (Nat.le_of_ble_eq_true rfl) rfl rfl rfl
theorem dX10_takeLine_76 : decode cX10_takeLine 76 = .ok (.goto 132, 3) := op_167 (a := 0) (b := 132) kcX10_takeLine (Nat.le_of_ble_eq_true rfl) rfl rfl rfl (by decide)
theorem dX10_takeLine_79 : decode cX10_takeLine 79 = .ok (.aload_n 0, 1) := op_42 kcX10_takeLine (Nat.le_of_ble_eq_true rfl) rfl
theorem dX10_takeLine_80 : decode cX10_takeLine 80 = .ok (.getfield 41, 3) := op_180 (a := 0) (b := 41) kcX10_takeLine (Nat.le_of_ble_eq_true rfl) rfl rfl rfl
theorem dX10_takeLine_83 : decode cX10_takeLine 83 = .ok (.iconst 0, 1) := op_3 kcX10_takeLine (Nat.le_of_ble_eq_true rfl) rfl
theorem dX10_takeLine_84 : decode cX10_takeLine 84 = .ok (.aload_n 0, 1) := op_42 kcX10_takeLine (Nat.le_of_ble_eq_true rfl) rfl
theorem dX10_takeLine_85 : decode cX10_takeLine 85 = .ok (.getfield 21, 3) := op_180 (a := 0) (b := 21) kcX10_takeLine (Nat.le_of_ble_eq_true rfl) rfl rfl rfl
theorem dX10_takeLine_88 : decode cX10_takeLine 88 = .ok (.getfield 163, 3) := op_180 (a := 0) (b := 163) kcX10_takeLine (Nat.le_of_ble_eq_true rfl) rfl rfl rfl
theorem dX10_takeLine_91 : decode cX10_takeLine 91 = .ok (.iconst 0, 1) := op_3 kcX10_takeLine (Nat.le_of_ble_eq_true rfl) rfl
theorem dX10_takeLine_92 : decode cX10_takeLine 92 = .ok (.iload_n 2, 1) := op_28 kcX10_takeLine (Nat.le_of_ble_eq_true rfl) rfl
theorem dX10_takeLine_93 : decode cX10_takeLine 93 = .ok (.invokestatic 166, 3) := op_184 (a := 0) (b := 166) kcX10_takeLine (Nat.le_of_ble_eq_true rfl) rfl rfl rfl
theorem dX10_takeLine_96 : decode cX10_takeLine 96 = .ok (.aload_n 0, 1) := op_42 kcX10_takeLine (Nat.le_of_ble_eq_true rfl) rfl
theorem dX10_takeLine_97 : decode cX10_takeLine 97 = .ok (.iload_n 2, 1) := op_28 kcX10_takeLine (Nat.le_of_ble_eq_true rfl) rfl
theorem dX10_takeLine_98 : decode cX10_takeLine 98 = .ok (.iconst 1, 1) := op_4 kcX10_takeLine (Nat.le_of_ble_eq_true rfl) rfl
theorem dX10_takeLine_99 : decode cX10_takeLine 99 = .ok (.isub, 1) := op_100 kcX10_takeLine (Nat.le_of_ble_eq_true rfl) rfl
theorem dX10_takeLine_100 : decode cX10_takeLine 100 = .ok (.invokevirtual 172, 3) := op_182 (a := 0) (b := 172) kcX10_takeLine (Nat.le_of_ble_eq_true rfl) rfl rfl rfl
theorem dX10_takeLine_103 : decode cX10_takeLine 103 = .ok (.goto 105, 3) := op_167 (a := 0) (b := 105) kcX10_takeLine (Nat.le_of_ble_eq_true rfl) rfl rfl rfl (by decide)
theorem dX10_takeLine_106 : decode cX10_takeLine 106 = .ok (.aload_n 0, 1) := op_42 kcX10_takeLine (Nat.le_of_ble_eq_true rfl) rfl
theorem dX10_takeLine_107 : decode cX10_takeLine 107 = .ok (.getfield 21, 3) := op_180 (a := 0) (b := 21) kcX10_takeLine (Nat.le_of_ble_eq_true rfl) rfl rfl rfl
theorem dX10_takeLine_110 : decode cX10_takeLine 110 = .ok (.iload_n 3, 1) := op_29 kcX10_takeLine (Nat.le_of_ble_eq_true rfl) rfl
theorem dX10_takeLine_111 : decode cX10_takeLine 111 = .ok (.putfield 176, 3) := op_181 (a := 0) (b := 176) kcX10_takeLine (Nat.le_of_ble_eq_true rfl) rfl rfl rfl
theorem dX10_takeLine_114 : decode cX10_takeLine 114 = .ok (.aload_n 0, 1) := op_42 kcX10_takeLine (Nat.le_of_ble_eq_true rfl) rfl
theorem dX10_takeLine_115 : decode cX10_takeLine 115 = .ok (.iload_n 3, 1) := op_29 kcX10_takeLine (Nat.le_of_ble_eq_true rfl) rfl
theorem dX10_takeLine_116 : decode cX10_takeLine 116 = .ok (.invokevirtual 172, 3) := op_182 (a := 0) (b := 172) kcX10_takeLine (Nat.le_of_ble_eq_true rfl) rfl rfl rfl
theorem dX10_takeLine_119 : decode cX10_takeLine 119 = .ok (.goto 89, 3) := op_167 (a := 0) (b := 89) kcX10_takeLine (Nat.le_of_ble_eq_true rfl) rfl rfl rfl (by decide)
theorem dX10_takeLine_122 : decode cX10_takeLine 122 = .ok (.aload_n 0, 1) := op_42 kcX10_takeLine (Nat.le_of_ble_eq_true rfl) rfl
theorem dX10_takeLine_123 : decode cX10_takeLine 123 = .ok (.getfield 21, 3) := op_180 (a := 0) (b := 21) kcX10_takeLine (Nat.le_of_ble_eq_true rfl) rfl rfl rfl
theorem dX10_takeLine_126 : decode cX10_takeLine 126 = .ok (.iload_n 3, 1) := op_29 kcX10_takeLine (Nat.le_of_ble_eq_true rfl) rfl
theorem dX10_takeLine_127 : decode cX10_takeLine 127 = .ok (.putfield 178, 3) := op_181 (a := 0) (b := 178) kcX10_takeLine (Nat.le_of_ble_eq_true rfl) rfl rfl rfl
theorem dX10_takeLine_130 : decode cX10_takeLine 130 = .ok (.aload_n 0, 1) := op_42 kcX10_takeLine (Nat.le_of_ble_eq_true rfl) rfl
theorem dX10_takeLine_131 : decode cX10_takeLine 131 = .ok (.iload_n 3, 1) := op_29 kcX10_takeLine (Nat.le_of_ble_eq_true rfl) rfl
theorem dX10_takeLine_132 : decode cX10_takeLine 132 = .ok (.invokevirtual 172, 3) := op_182 (a := 0) (b := 172) kcX10_takeLine (Nat.le_of_ble_eq_true rfl) rfl rfl rfl
theorem dX10_takeLine_135 : decode cX10_takeLine 135 = .ok (.goto 73, 3) := op_167 (a := 0) (b := 73) kcX10_takeLine (Nat.le_of_ble_eq_true rfl) rfl rfl rfl (by decide)
theorem dX10_takeLine_138 : decode cX10_takeLine 138 = .ok (.aload_n 0, 1) := op_42 kcX10_takeLine (Nat.le_of_ble_eq_true rfl) rfl
theorem dX10_takeLine_139 : decode cX10_takeLine 139 = .ok (.getfield 21, 3) := op_180 (a := 0) (b := 21) kcX10_takeLine (Nat.le_of_ble_eq_true rfl) rfl rfl rfl
theorem dX10_takeLine_142 : decode cX10_takeLine 142 = .ok (.iload_n 3, 1) := op_29 kcX10_takeLine (Nat.le_of_ble_eq_true rfl) rfl
theorem dX10_takeLine_143 : decode cX10_takeLine 143 = .ok (.iload 4, 2) := op_21 (a := 4) kcX10_takeLine (Nat.le_of_ble_eq_true rfl) rfl rfl
theorem dX10_takeLine_145 : decode cX10_takeLine 145 = .ok (.iconst 1, 1) := op_4 kcX10_takeLine (Nat.le_of_ble_eq_true rfl) rfl
theorem dX10_takeLine_146 : decode cX10_takeLine 146 = .ok (.invokevirtual 180, 3) := op_182 (a := 0) (b := 180) kcX10_takeLine (Nat.le_of_ble_eq_true rfl) rfl rfl rfl
theorem dX10_takeLine_149 : decode cX10_takeLine 149 = .ok (.aload_n 0, 1) := op_42 kcX10_takeLine (Nat.le_of_ble_eq_true rfl) rfl
theorem dX10_takeLine_150 : decode cX10_takeLine 150 = .ok (.iload_n 3, 1) := op_29 kcX10_takeLine (Nat.le_of_ble_eq_true rfl) rfl
theorem dX10_takeLine_151 : decode cX10_takeLine 151 = .ok (.iload 4, 2) := op_21 (a := 4) kcX10_takeLine (Nat.le_of_ble_eq_true rfl) rfl rfl
theorem dX10_takeLine_153 : decode cX10_takeLine 153 = .ok (.invokestatic 184, 3) := op_184 (a := 0) (b := 184) kcX10_takeLine (Nat.le_of_ble_eq_true rfl) rfl rfl rfl
theorem dX10_takeLine_156 : decode cX10_takeLine 156 = .ok (.invokevirtual 172, 3) := op_182 (a := 0) (b := 172) kcX10_takeLine (Nat.le_of_ble_eq_true rfl) rfl rfl rfl
theorem dX10_takeLine_159 : decode cX10_takeLine 159 = .ok (.goto 49, 3) := op_167 (a := 0) (b := 49) kcX10_takeLine (Nat.le_of_ble_eq_true rfl) rfl rfl rfl (by decide)
theorem dX10_takeLine_162 : decode cX10_takeLine 162 = .ok (.aload_n 0, 1) := op_42 kcX10_takeLine (Nat.le_of_ble_eq_true rfl) rfl
theorem dX10_takeLine_163 : decode cX10_takeLine 163 = .ok (.getfield 21, 3) := op_180 (a := 0) (b := 21) kcX10_takeLine (Nat.le_of_ble_eq_true rfl) rfl rfl rfl
theorem dX10_takeLine_166 : decode cX10_takeLine 166 = .ok (.getfield 189, 3) := op_180 (a := 0) (b := 189) kcX10_takeLine (Nat.le_of_ble_eq_true rfl) rfl rfl rfl
theorem dX10_takeLine_169 : decode cX10_takeLine 169 = .ok (.iload_n 3, 1) := op_29 kcX10_takeLine (Nat.le_of_ble_eq_true rfl) rfl
theorem dX10_takeLine_170 : decode cX10_takeLine 170 = .ok (.iload 4, 2) := op_21 (a := 4) kcX10_takeLine (Nat.le_of_ble_eq_true rfl) rfl rfl
theorem dX10_takeLine_172 : decode cX10_takeLine 172 = .ok (.iastore, 1) := op_79 kcX10_takeLine (Nat.le_of_ble_eq_true rfl) rfl
theorem dX10_takeLine_173 : decode cX10_takeLine 173 = .ok (.aload_n 0, 1) := op_42 kcX10_takeLine (Nat.le_of_ble_eq_true rfl) rfl
theorem dX10_takeLine_174 : decode cX10_takeLine 174 = .ok (.iload_n 3, 1) := op_29 kcX10_takeLine (Nat.le_of_ble_eq_true rfl) rfl
theorem dX10_takeLine_175 : decode cX10_takeLine 175 = .ok (.invokevirtual 172, 3) := op_182 (a := 0) (b := 172) kcX10_takeLine (Nat.le_of_ble_eq_true rfl) rfl rfl rfl
theorem dX10_takeLine_178 : decode cX10_takeLine 178 = .ok (.goto 30, 3) := op_167 (a := 0) (b := 30) kcX10_takeLine (Nat.le_of_ble_eq_true rfl) rfl rfl rfl (by decide)
theorem dX10_takeLine_181 : decode cX10_takeLine 181 = .ok (.aload_n 0, 1) := op_42 kcX10_takeLine (Nat.le_of_ble_eq_true rfl) rfl
theorem dX10_takeLine_182 : decode cX10_takeLine 182 = .ok (.getfield 12, 3) := op_180 (a := 0) (b := 12) kcX10_takeLine (Nat.le_of_ble_eq_true rfl) rfl rfl rfl
theorem dX10_takeLine_185 : decode cX10_takeLine 185 = .ok (.getfield 191, 3) := op_180 (a := 0) (b := 191) kcX10_takeLine (Nat.le_of_ble_eq_true rfl) rfl rfl rfl
theorem dX10_takeLine_188 : decode cX10_takeLine 188 = .ok (.iload_n 3, 1) := op_29 kcX10_takeLine (Nat.le_of_ble_eq_true rfl) rfl
theorem dX10_takeLine_189 : decode cX10_takeLine 189 = .ok (.iload 4, 2) := op_21 (a := 4) kcX10_takeLine (Nat.le_of_ble_eq_true rfl) rfl rfl
theorem dX10_takeLine_191 : decode cX10_takeLine 191 = .ok (.iastore, 1) := op_79 kcX10_takeLine (Nat.le_of_ble_eq_true rfl) rfl
theorem dX10_takeLine_192 : decode cX10_takeLine 192 = .ok (.aload_n 0, 1) := op_42 kcX10_takeLine (Nat.le_of_ble_eq_true rfl) rfl
theorem dX10_takeLine_193 : decode cX10_takeLine 193 = .ok (.iload_n 3, 1) := op_29 kcX10_takeLine (Nat.le_of_ble_eq_true rfl) rfl
theorem dX10_takeLine_194 : decode cX10_takeLine 194 = .ok (.invokevirtual 172, 3) := op_182 (a := 0) (b := 172) kcX10_takeLine (Nat.le_of_ble_eq_true rfl) rfl rfl rfl
theorem dX10_takeLine_197 : decode cX10_takeLine 197 = .ok (.goto 11, 3) := op_167 (a := 0) (b := 11) kcX10_takeLine (Nat.le_of_ble_eq_true rfl) rfl rfl rfl (by decide)
theorem dX10_takeLine_200 : decode cX10_takeLine 200 = .ok (.aload_n 0, 1) := op_42 kcX10_takeLine (Nat.le_of_ble_eq_true rfl) rfl
theorem dX10_takeLine_201 : decode cX10_takeLine 201 = .ok (.iload_n 1, 1) := op_27 kcX10_takeLine (Nat.le_of_ble_eq_true rfl) rfl
theorem dX10_takeLine_202 : decode cX10_takeLine 202 = .ok (.iload_n 3, 1) := op_29 kcX10_takeLine (Nat.le_of_ble_eq_true rfl) rfl
theorem dX10_takeLine_203 : decode cX10_takeLine 203 = .ok (.iload 4, 2) := op_21 (a := 4) kcX10_takeLine (Nat.le_of_ble_eq_true rfl) rfl rfl
theorem dX10_takeLine_205 : decode cX10_takeLine 205 = .ok (.invokevirtual 193, 3) := op_182 (a := 0) (b := 193) kcX10_takeLine (Nat.le_of_ble_eq_true rfl) rfl rfl rfl
theorem dX10_takeLine_208 : decode cX10_takeLine 208 = .ok (.return_, 1) := op_177 kcX10_takeLine (Nat.le_of_ble_eq_true rfl) rfl
set_option maxRecDepth 20000 in
theorem gw_wsX6_addStir : (wsX6_addStir).all goodWord = true := by decide +kernel
set_option maxRecDepth 20000 in
theorem ggX10_takeStir_X6_addStir : GoodIn wsX10_takeStir wsX6_addStir := goodIn_r _ [10, 11, 12, 13, 14, 30, 31, 32, 33, 34, 35, 36] rfl gw_wsX6_addStir
set_option maxRecDepth 20000 in
theorem gX10_takeStir_X6_addStir : GoodIn wsX10_takeStir (wsV RX10 197 RX6 yX6_addStir wsX6_addStir) := goodIn_app (goodIn_of _ (by decide +kernel)) ggX10_takeStir_X6_addStir
set_option maxRecDepth 20000 in
theorem ggX10_takeStir_X10_heed : GoodIn wsX10_takeStir wsX10_heed := goodIn_r _ [19, 20, 2, 3, 4, 5, 21, 22, 23, 24, 25, 26, 27, 28, 29] rfl gw_wsX10_heed
set_option maxRecDepth 20000 in
theorem gX10_takeStir_X10_heed : GoodIn wsX10_takeStir (wsV RX10 172 RX10 yX10_heed wsX10_heed) := goodIn_app (goodIn_of _ (by decide +kernel)) ggX10_takeStir_X10_heed
theorem kcX10_takeStir : (cX10_takeStir).data.toList = cbs 0xb1ac00b61c2a0800a00a101b0e00a7ac00b6b800b81d1c2a0f00a009101bc500b61d1c1b0c00b42a 40 := by decide +kernel
theorem dX10_takeStir_0 : decode cX10_takeStir 0 = .ok (.aload_n 0, 1) := op_42 kcX10_takeStir (Nat.le_of_ble_eq_true rfl) rfl
theorem dX10_takeStir_1 : decode cX10_takeStir 1 = .ok (.getfield 12, 3) := op_180 (a := 0) (b := 12) kcX10_takeStir (Nat.le_of_ble_eq_true rfl) rfl rfl rfl
theorem dX10_takeStir_4 : decode cX10_takeStir 4 = .ok (.iload_n 1, 1) := op_27 kcX10_takeStir (Nat.le_of_ble_eq_true rfl) rfl
theorem dX10_takeStir_5 : decode cX10_takeStir 5 = .ok (.iload_n 2, 1) := op_28 kcX10_takeStir (Nat.le_of_ble_eq_true rfl) rfl
theorem dX10_takeStir_6 : decode cX10_takeStir 6 = .ok (.iload_n 3, 1) := op_29 kcX10_takeStir (Nat.le_of_ble_eq_true rfl) rfl
theorem dX10_takeStir_7 : decode cX10_takeStir 7 = .ok (.invokevirtual 197, 3) := op_182 (a := 0) (b := 197) kcX10_takeStir (Nat.le_of_ble_eq_true rfl) rfl rfl rfl
theorem dX10_takeStir_10 : decode cX10_takeStir 10 = .ok (.iload_n 1, 1) := op_27 kcX10_takeStir (Nat.le_of_ble_eq_true rfl) rfl
theorem dX10_takeStir_11 : decode cX10_takeStir 11 = .ok (.bipush 9, 2) := op_16 (a := 9) kcX10_takeStir (Nat.le_of_ble_eq_true rfl) rfl rfl (by decide)
theorem dX10_takeStir_13 : decode cX10_takeStir 13 = .ok (.if_icmp .ne 15, 3) := op_160 (a := 0) (b := 15) kcX10_takeStir (Nat.le_of_ble_eq_true rfl) rfl rfl rfl (by decide)
theorem dX10_takeStir_16 : decode cX10_takeStir 16 = .ok (.aload_n 0, 1) := op_42 kcX10_takeStir (Nat.le_of_ble_eq_true rfl) rfl
theorem dX10_takeStir_17 : decode cX10_takeStir 17 = .ok (.iload_n 2, 1) := op_28 kcX10_takeStir (Nat.le_of_ble_eq_true rfl) rfl
theorem dX10_takeStir_18 : decode cX10_takeStir 18 = .ok (.iload_n 3, 1) := op_29 kcX10_takeStir (Nat.le_of_ble_eq_true rfl) rfl
theorem dX10_takeStir_19 : decode cX10_takeStir 19 = .ok (.invokestatic 184, 3) := op_184 (a := 0) (b := 184) kcX10_takeStir (Nat.le_of_ble_eq_true rfl) rfl rfl rfl
theorem dX10_takeStir_22 : decode cX10_takeStir 22 = .ok (.invokevirtual 172, 3) := op_182 (a := 0) (b := 172) kcX10_takeStir (Nat.le_of_ble_eq_true rfl) rfl rfl rfl
theorem dX10_takeStir_25 : decode cX10_takeStir 25 = .ok (.goto 14, 3) := op_167 (a := 0) (b := 14) kcX10_takeStir (Nat.le_of_ble_eq_true rfl) rfl rfl rfl (by decide)
theorem dX10_takeStir_28 : decode cX10_takeStir 28 = .ok (.iload_n 1, 1) := op_27 kcX10_takeStir (Nat.le_of_ble_eq_true rfl) rfl
theorem dX10_takeStir_29 : decode cX10_takeStir 29 = .ok (.bipush 10, 2) := op_16 (a := 10) kcX10_takeStir (Nat.le_of_ble_eq_true rfl) rfl rfl (by decide)
theorem dX10_takeStir_31 : decode cX10_takeStir 31 = .ok (.if_icmp .ne 8, 3) := op_160 (a := 0) (b := 8) kcX10_takeStir (Nat.le_of_ble_eq_true rfl) rfl rfl rfl (by decide)
theorem dX10_takeStir_34 : decode cX10_takeStir 34 = .ok (.aload_n 0, 1) := op_42 kcX10_takeStir (Nat.le_of_ble_eq_true rfl) rfl
theorem dX10_takeStir_35 : decode cX10_takeStir 35 = .ok (.iload_n 2, 1) := op_28 kcX10_takeStir (Nat.le_of_ble_eq_true rfl) rfl
theorem dX10_takeStir_36 : decode cX10_takeStir 36 = .ok (.invokevirtual 172, 3) := op_182 (a := 0) (b := 172) kcX10_takeStir (Nat.le_of_ble_eq_true rfl) rfl rfl rfl
theorem dX10_takeStir_39 : decode cX10_takeStir 39 = .ok (.return_, 1) := op_177 kcX10_takeStir (Nat.le_of_ble_eq_true rfl) rfl
theorem kcX10_heed : (cX10_heed).data.toList = cbs 0xb12600b5b800b81b2600b42a2a 13 := by decide +kernel
theorem dX10_heed_0 : decode cX10_heed 0 = .ok (.aload_n 0, 1) := op_42 kcX10_heed (Nat.le_of_ble_eq_true rfl) rfl
theorem dX10_heed_1 : decode cX10_heed 1 = .ok (.aload_n 0, 1) := op_42 kcX10_heed (Nat.le_of_ble_eq_true rfl) rfl
theorem dX10_heed_2 : decode cX10_heed 2 = .ok (.getfield 38, 3) := op_180 (a := 0) (b := 38) kcX10_heed (Nat.le_of_ble_eq_true rfl) rfl rfl rfl
theorem dX10_heed_5 : decode cX10_heed 5 = .ok (.iload_n 1, 1) := op_27 kcX10_heed (Nat.le_of_ble_eq_true rfl) rfl
theorem dX10_heed_6 : decode cX10_heed 6 = .ok (.invokestatic 184, 3) := op_184 (a := 0) (b := 184) kcX10_heed (Nat.le_of_ble_eq_true rfl) rfl rfl rfl
theorem dX10_heed_9 : decode cX10_heed 9 = .ok (.putfield 38, 3) := op_181 (a := 0) (b := 38) kcX10_heed (Nat.le_of_ble_eq_true rfl) rfl rfl rfl
theorem dX10_heed_12 : decode cX10_heed 12 = .ok (.return_, 1) := op_177 kcX10_heed (Nat.le_of_ble_eq_true rfl) rfl
set_option maxRecDepth 20000 in
theorem ggX11_init_X6_init : GoodIn wsX11_init wsX6_init := goodIn_r _ [54, 55, 2, 3, 56, 57, 58, 59, 60, 61, 62, 63, 162, 163, 164, 165, 166, 167, 168] rfl gw_wsX6_init
set_option maxRecDepth 20000 in
theorem gX11_init_X6_init_n9 : GoodIn wsX11_init (wsX6_init) := ggX11_init_X6_init
set_option maxRecDepth 20000 in
theorem ggX11_init_X8_init : GoodIn wsX11_init wsX8_init := goodIn_r _ [66, 67, 2, 3, 58, 68, 69, 70, 71, 72, 73, 74, 75, 76, 77, 78, 79, 80, 184, 185, 186, 187, 188, 189, 190, 191, 192] rfl gw_wsX8_init
set_option maxRecDepth 20000 in
theorem gX11_init_X8_init : GoodIn wsX11_init (wsX8_init) := ggX11_init_X8_init
set_option maxRecDepth 20000 in
theorem gw_wsX9_init : (wsX9_init).all goodWord = true := by decide +kernel
set_option maxRecDepth 20000 in
theorem ggX11_init_X9_init : GoodIn wsX11_init wsX9_init := goodIn_r _ [82, 83, 2, 3, 84, 85, 86, 87, 88, 89, 90, 193, 194, 195, 196, 197, 198] rfl gw_wsX9_init
set_option maxRecDepth 20000 in
theorem gX11_init_X9_init_n25 : GoodIn wsX11_init (wsX9_init) := ggX11_init_X9_init
set_option maxRecDepth 20000 in
theorem gw_wsX10_init : (wsX10_init).all goodWord = true := by decide +kernel
set_option maxRecDepth 20000 in
theorem ggX11_init_X10_init : GoodIn wsX11_init wsX10_init := goodIn_r _ [93, 94, 2, 3, 95, 5, 6, 96, 97, 9, 10, 98, 99, 100, 101, 102, 103, 58, 104, 105, 53, 54, 55, 56, 57, 59, 60, 61, 62, 63, 106, 65, 66, 67, 68, 69, 70, 71, 72, 73, 74, 75, 76, 77, 78, 79, 80, 162, 163, 164, 165, 166, 167, 168, 199, 200, 201, 202, 203, 204, 205, 206, 207, 184, 185, 186, 187, 188, 189, 190, 191, 192] rfl gw_wsX10_init
set_option maxRecDepth 20000 in
theorem gX11_init_X10_init : GoodIn wsX11_init (wsX10_init) := ggX11_init_X10_init
set_option maxRecDepth 20000 in
theorem gw_wsX2_init : (wsX2_init).all goodWord = true := by decide +kernel
set_option maxRecDepth 20000 in
theorem ggX11_init_X2_init : GoodIn wsX11_init wsX2_init := goodIn_r _ [109, 110, 2, 3, 58, 111, 112, 113, 114, 115, 208, 209, 210, 211, 212] rfl gw_wsX2_init
set_option maxRecDepth 20000 in
theorem gX11_init_X2_init : GoodIn wsX11_init (wsX2_init) := ggX11_init_X2_init
set_option maxRecDepth 20000 in
theorem gw_wsX3_init : (wsX3_init).all goodWord = true := by decide +kernel
set_option maxRecDepth 20000 in
theorem ggX11_init_X3_init : GoodIn wsX11_init wsX3_init := goodIn_r _ [118, 119, 2, 3, 120, 121, 122, 123, 124, 213, 214, 215, 216] rfl gw_wsX3_init
set_option maxRecDepth 20000 in
theorem gX11_init_X3_init : GoodIn wsX11_init (wsX3_init) := ggX11_init_X3_init
set_option maxRecDepth 20000 in
theorem gw_wsX5_init : (wsX5_init).all goodWord = true := by decide +kernel
set_option maxRecDepth 20000 in
theorem ggX11_init_X5_init : GoodIn wsX11_init wsX5_init := goodIn_r _ [127, 128, 2, 3, 120, 129, 58, 130, 131, 217, 218, 219] rfl gw_wsX5_init
set_option maxRecDepth 20000 in
theorem gX11_init_X5_init : GoodIn wsX11_init (wsX5_init) := ggX11_init_X5_init
set_option maxRecDepth 20000 in
theorem gw_wsX0_init : (wsX0_init).all goodWord = true := by decide +kernel
set_option maxRecDepth 20000 in
theorem ggX11_init_X0_init : GoodIn wsX11_init wsX0_init := goodIn_r _ [134, 135, 2, 3, 136, 220] rfl gw_wsX0_init
set_option maxRecDepth 20000 in
theorem gX11_init_X0_init : GoodIn wsX11_init (wsX0_init) := ggX11_init_X0_init
set_option maxRecDepth 20000 in
theorem gw_wsX4_init : (wsX4_init).all goodWord = true := by decide +kernel
set_option maxRecDepth 20000 in
theorem ggX11_init_X4_init : GoodIn wsX11_init wsX4_init := goodIn_r _ [139, 140, 2, 3, 58, 141, 142, 221, 222] rfl gw_wsX4_init
set_option maxRecDepth 20000 in
theorem gX11_init_X4_init : GoodIn wsX11_init (wsX4_init) := ggX11_init_X4_init
set_option maxRecDepth 20000 in
theorem gw_wsX1_init : (wsX1_init).all goodWord = true := by decide +kernel
set_option maxRecDepth 20000 in
theorem ggX11_init_X1_init : GoodIn wsX11_init wsX1_init := goodIn_r _ [145, 146, 2, 3, 58, 147, 148, 149, 150, 151, 152, 153, 154, 155, 223, 224, 225, 226, 227, 228, 229, 230, 231] rfl gw_wsX1_init
set_option maxRecDepth 20000 in
theorem gX11_init_X1_init : GoodIn wsX11_init (wsX1_init) := ggX11_init_X1_init
set_option maxRecDepth 20000 in
theorem gw_wsX7_init : (wsX7_init).all goodWord = true := by decide +kernel
set_option maxRecDepth 20000 in
theorem ggX11_init_X7_init : GoodIn wsX11_init wsX7_init := goodIn_r _ [157, 158, 2, 3, 159, 160, 58, 161, 232, 233, 234] rfl gw_wsX7_init
set_option maxRecDepth 20000 in
theorem gX11_init_X7_init_n106 : GoodIn wsX11_init (wsX7_init) := ggX11_init_X7_init
theorem kcX11_init : (cX11_init).data.toList = cbs 0xb1ebffa7010184536a00b7595d00bb1b5f00b42a1600a2071b3c03ebffa7010184531200b7591000bb1b5500b42a1600a2051b3c036700b5032a6300b5032a5f00b55d00bd072a5900b504bc052a5500b51000bd052a5100b55000b72c00b42a594e00bb2a4a00b54900b72c00b42a594700bb2a4300b54200b72c00b42a594000bb2a3c00b53b00b72c00b42a593900bb2a3500b53200b72c00b42a593000bb2a2c00b52900b71300b42a0a00b42a592700bb2a2300b52000b71a00b42a591e00bb2a1a00b51900b7591700bb2a1300b51200b7591000bb2a0a00b50900b7590700bb2a0100b72a 232 := by decide +kernel
theorem dX11_init_0 : decode cX11_init 0 = .ok (.aload_n 0, 1) := op_42 kcX11_init (Nat.le_of_ble_eq_true rfl) rfl
theorem dX11_init_1 : decode cX11_init 1 = .ok (.invokespecial 1, 3) := op_183 (a := 0) (b := 1) kcX11_init (Nat.le_of_ble_eq_true rfl) rfl rfl rfl
theorem dX11_init_4 : decode cX11_init 4 = .ok (.aload_n 0, 1) := op_42 kcX11_init (Nat.le_of_ble_eq_true rfl) rfl
theorem dX11_init_5 : decode cX11_init 5 = .ok (.new 7, 3) := op_187 (a := 0) (b := 7) kcX11_init (Nat.le_of_ble_eq_true rfl) rfl rfl rfl
theorem dX11_init_8 : decode cX11_init 8 = .ok (.dup, 1) := op_89 kcX11_init (Nat.le_of_ble_eq_true rfl) rfl
theorem dX11_init_9 : decode cX11_init 9 = .ok (.invokespecial 9, 3) := op_183 (a := 0) (b := 9) kcX11_init (Nat.le_of_ble_eq_true rfl) rfl rfl rfl
theorem dX11_init_12 : decode cX11_init 12 = .ok (.putfield 10, 3) := op_181 (a := 0) (b := 10) kcX11_init (Nat.le_of_ble_eq_true rfl) rfl rfl rfl
theorem dX11_init_15 : decode cX11_init 15 = .ok (.aload_n 0, 1) := op_42 kcX11_init (Nat.le_of_ble_eq_true rfl) rfl
theorem dX11_init_16 : decode cX11_init 16 = .ok (.new 16, 3) := op_187 (a := 0) (b := 16) kcX11_init (Nat.le_of_ble_eq_true rfl) rfl rfl rfl
theorem dX11_init_19 : decode cX11_init 19 = .ok (.dup, 1) := op_89 kcX11_init (Nat.le_of_ble_eq_true rfl) rfl
theorem dX11_init_20 : decode cX11_init 20 = .ok (.invokespecial 18, 3) := op_183 (a := 0) (b := 18) kcX11_init (Nat.le_of_ble_eq_true rfl) rfl rfl rfl
theorem dX11_init_23 : decode cX11_init 23 = .ok (.putfield 19, 3) := op_181 (a := 0) (b := 19) kcX11_init (Nat.le_of_ble_eq_true rfl) rfl rfl rfl
theorem dX11_init_26 : decode cX11_init 26 = .ok (.aload_n 0, 1) := op_42 kcX11_init (Nat.le_of_ble_eq_true rfl) rfl
theorem dX11_init_27 : decode cX11_init 27 = .ok (.new 23, 3) := op_187 (a := 0) (b := 23) kcX11_init (Nat.le_of_ble_eq_true rfl) rfl rfl rfl
theorem dX11_init_30 : decode cX11_init 30 = .ok (.dup, 1) := op_89 kcX11_init (Nat.le_of_ble_eq_true rfl) rfl
theorem dX11_init_31 : decode cX11_init 31 = .ok (.invokespecial 25, 3) := op_183 (a := 0) (b := 25) kcX11_init (Nat.le_of_ble_eq_true rfl) rfl rfl rfl
theorem dX11_init_34 : decode cX11_init 34 = .ok (.putfield 26, 3) := op_181 (a := 0) (b := 26) kcX11_init (Nat.le_of_ble_eq_true rfl) rfl rfl rfl
theorem dX11_init_37 : decode cX11_init 37 = .ok (.aload_n 0, 1) := op_42 kcX11_init (Nat.le_of_ble_eq_true rfl) rfl
theorem dX11_init_38 : decode cX11_init 38 = .ok (.new 30, 3) := op_187 (a := 0) (b := 30) kcX11_init (Nat.le_of_ble_eq_true rfl) rfl rfl rfl
theorem dX11_init_41 : decode cX11_init 41 = .ok (.dup, 1) := op_89 kcX11_init (Nat.le_of_ble_eq_true rfl) rfl
theorem dX11_init_42 : decode cX11_init 42 = .ok (.aload_n 0, 1) := op_42 kcX11_init (Nat.le_of_ble_eq_true rfl) rfl
theorem dX11_init_43 : decode cX11_init 43 = .ok (.getfield 26, 3) := op_180 (a := 0) (b := 26) kcX11_init (Nat.le_of_ble_eq_true rfl) rfl rfl rfl
theorem dX11_init_46 : decode cX11_init 46 = .ok (.invokespecial 32, 3) := op_183 (a := 0) (b := 32) kcX11_init (Nat.le_of_ble_eq_true rfl) rfl rfl rfl
theorem dX11_init_49 : decode cX11_init 49 = .ok (.putfield 35, 3) := op_181 (a := 0) (b := 35) kcX11_init (Nat.le_of_ble_eq_true rfl) rfl rfl rfl
theorem dX11_init_52 : decode cX11_init 52 = .ok (.aload_n 0, 1) := op_42 kcX11_init (Nat.le_of_ble_eq_true rfl) rfl
theorem dX11_init_53 : decode cX11_init 53 = .ok (.new 39, 3) := op_187 (a := 0) (b := 39) kcX11_init (Nat.le_of_ble_eq_true rfl) rfl rfl rfl
theorem dX11_init_56 : decode cX11_init 56 = .ok (.dup, 1) := op_89 kcX11_init (Nat.le_of_ble_eq_true rfl) rfl
theorem dX11_init_57 : decode cX11_init 57 = .ok (.aload_n 0, 1) := op_42 kcX11_init (Nat.le_of_ble_eq_true rfl) rfl
theorem dX11_init_58 : decode cX11_init 58 = .ok (.getfield 10, 3) := op_180 (a := 0) (b := 10) kcX11_init (Nat.le_of_ble_eq_true rfl) rfl rfl rfl
theorem dX11_init_61 : decode cX11_init 61 = .ok (.aload_n 0, 1) := op_42 kcX11_init (Nat.le_of_ble_eq_true rfl) rfl
theorem dX11_init_62 : decode cX11_init 62 = .ok (.getfield 19, 3) := op_180 (a := 0) (b := 19) kcX11_init (Nat.le_of_ble_eq_true rfl) rfl rfl rfl
theorem dX11_init_65 : decode cX11_init 65 = .ok (.invokespecial 41, 3) := op_183 (a := 0) (b := 41) kcX11_init (Nat.le_of_ble_eq_true rfl) rfl rfl rfl
theorem dX11_init_68 : decode cX11_init 68 = .ok (.putfield 44, 3) := op_181 (a := 0) (b := 44) kcX11_init (Nat.le_of_ble_eq_true rfl) rfl rfl rfl
theorem dX11_init_71 : decode cX11_init 71 = .ok (.aload_n 0, 1) := op_42 kcX11_init (Nat.le_of_ble_eq_true rfl) rfl
theorem dX11_init_72 : decode cX11_init 72 = .ok (.new 48, 3) := op_187 (a := 0) (b := 48) kcX11_init (Nat.le_of_ble_eq_true rfl) rfl rfl rfl
theorem dX11_init_75 : decode cX11_init 75 = .ok (.dup, 1) := op_89 kcX11_init (Nat.le_of_ble_eq_true rfl) rfl
theorem dX11_init_76 : decode cX11_init 76 = .ok (.aload_n 0, 1) := op_42 kcX11_init (Nat.le_of_ble_eq_true rfl) rfl
theorem dX11_init_77 : decode cX11_init 77 = .ok (.getfield 44, 3) := op_180 (a := 0) (b := 44) kcX11_init (Nat.le_of_ble_eq_true rfl) rfl rfl rfl
theorem dX11_init_80 : decode cX11_init 80 = .ok (.invokespecial 50, 3) := op_183 (a := 0) (b := 50) kcX11_init (Nat.le_of_ble_eq_true rfl) rfl rfl rfl
theorem dX11_init_83 : decode cX11_init 83 = .ok (.putfield 53, 3) := op_181 (a := 0) (b := 53) kcX11_init (Nat.le_of_ble_eq_true rfl) rfl rfl rfl
theorem dX11_init_86 : decode cX11_init 86 = .ok (.aload_n 0, 1) := op_42 kcX11_init (Nat.le_of_ble_eq_true rfl) rfl
theorem dX11_init_87 : decode cX11_init 87 = .ok (.new 57, 3) := op_187 (a := 0) (b := 57) kcX11_init (Nat.le_of_ble_eq_true rfl) rfl rfl rfl
theorem dX11_init_90 : decode cX11_init 90 = .ok (.dup, 1) := op_89 kcX11_init (Nat.le_of_ble_eq_true rfl) rfl
theorem dX11_init_91 : decode cX11_init 91 = .ok (.aload_n 0, 1) := op_42 kcX11_init (Nat.le_of_ble_eq_true rfl) rfl
theorem dX11_init_92 : decode cX11_init 92 = .ok (.getfield 44, 3) := op_180 (a := 0) (b := 44) kcX11_init (Nat.le_of_ble_eq_true rfl) rfl rfl rfl
theorem dX11_init_95 : decode cX11_init 95 = .ok (.invokespecial 59, 3) := op_183 (a := 0) (b := 59) kcX11_init (Nat.le_of_ble_eq_true rfl) rfl rfl rfl
theorem dX11_init_98 : decode cX11_init 98 = .ok (.putfield 60, 3) := op_181 (a := 0) (b := 60) kcX11_init (Nat.le_of_ble_eq_true rfl) rfl rfl rfl
theorem dX11_init_101 : decode cX11_init 101 = .ok (.aload_n 0, 1) := op_42 kcX11_init (Nat.le_of_ble_eq_true rfl) rfl
theorem dX11_init_102 : decode cX11_init 102 = .ok (.new 64, 3) := op_187 (a := 0) (b := 64) kcX11_init (Nat.le_of_ble_eq_true rfl) rfl rfl rfl
theorem dX11_init_105 : decode cX11_init 105 = .ok (.dup, 1) := op_89 kcX11_init (Nat.le_of_ble_eq_true rfl) rfl
theorem dX11_init_106 : decode cX11_init 106 = .ok (.aload_n 0, 1) := op_42 kcX11_init (Nat.le_of_ble_eq_true rfl) rfl
theorem dX11_init_107 : decode cX11_init 107 = .ok (.getfield 44, 3) := op_180 (a := 0) (b := 44) kcX11_init (Nat.le_of_ble_eq_true rfl) rfl rfl rfl
theorem dX11_init_110 : decode cX11_init 110 = .ok (.invokespecial 66, 3) := op_183 (a := 0) (b := 66) kcX11_init (Nat.le_of_ble_eq_true rfl) rfl rfl rfl
theorem dX11_init_113 : decode cX11_init 113 = .ok (.putfield 67, 3) := op_181 (a := 0) (b := 67) kcX11_init (Nat.le_of_ble_eq_true rfl) rfl rfl rfl
theorem dX11_init_116 : decode cX11_init 116 = .ok (.aload_n 0, 1) := op_42 kcX11_init (Nat.le_of_ble_eq_true rfl) rfl
theorem dX11_init_117 : decode cX11_init 117 = .ok (.new 71, 3) := op_187 (a := 0) (b := 71) kcX11_init (Nat.le_of_ble_eq_true rfl) rfl rfl rfl
theorem dX11_init_120 : decode cX11_init 120 = .ok (.dup, 1) := op_89 kcX11_init (Nat.le_of_ble_eq_true rfl) rfl
theorem dX11_init_121 : decode cX11_init 121 = .ok (.aload_n 0, 1) := op_42 kcX11_init (Nat.le_of_ble_eq_true rfl) rfl
theorem dX11_init_122 : decode cX11_init 122 = .ok (.getfield 44, 3) := op_180 (a := 0) (b := 44) kcX11_init (Nat.le_of_ble_eq_true rfl) rfl rfl rfl
theorem dX11_init_125 : decode cX11_init 125 = .ok (.invokespecial 73, 3) := op_183 (a := 0) (b := 73) kcX11_init (Nat.le_of_ble_eq_true rfl) rfl rfl rfl
theorem dX11_init_128 : decode cX11_init 128 = .ok (.putfield 74, 3) := op_181 (a := 0) (b := 74) kcX11_init (Nat.le_of_ble_eq_true rfl) rfl rfl rfl
theorem dX11_init_131 : decode cX11_init 131 = .ok (.aload_n 0, 1) := op_42 kcX11_init (Nat.le_of_ble_eq_true rfl) rfl
theorem dX11_init_132 : decode cX11_init 132 = .ok (.new 78, 3) := op_187 (a := 0) (b := 78) kcX11_init (Nat.le_of_ble_eq_true rfl) rfl rfl rfl
theorem dX11_init_135 : decode cX11_init 135 = .ok (.dup, 1) := op_89 kcX11_init (Nat.le_of_ble_eq_true rfl) rfl
theorem dX11_init_136 : decode cX11_init 136 = .ok (.aload_n 0, 1) := op_42 kcX11_init (Nat.le_of_ble_eq_true rfl) rfl
theorem dX11_init_137 : decode cX11_init 137 = .ok (.getfield 44, 3) := op_180 (a := 0) (b := 44) kcX11_init (Nat.le_of_ble_eq_true rfl) rfl rfl rfl
theorem dX11_init_140 : decode cX11_init 140 = .ok (.invokespecial 80, 3) := op_183 (a := 0) (b := 80) kcX11_init (Nat.le_of_ble_eq_true rfl) rfl rfl rfl
theorem dX11_init_143 : decode cX11_init 143 = .ok (.putfield 81, 3) := op_181 (a := 0) (b := 81) kcX11_init (Nat.le_of_ble_eq_true rfl) rfl rfl rfl
theorem dX11_init_146 : decode cX11_init 146 = .ok (.aload_n 0, 1) := op_42 kcX11_init (Nat.le_of_ble_eq_true rfl) rfl
theorem dX11_init_147 : decode cX11_init 147 = .ok (.iconst 2, 1) := op_5 kcX11_init (Nat.le_of_ble_eq_true rfl) rfl
theorem dX11_init_148 : decode cX11_init 148 = .ok (.anewarray 16, 3) := op_189 (a := 0) (b := 16) kcX11_init (Nat.le_of_ble_eq_true rfl) rfl rfl rfl
theorem dX11_init_151 : decode cX11_init 151 = .ok (.putfield 85, 3) := op_181 (a := 0) (b := 85) kcX11_init (Nat.le_of_ble_eq_true rfl) rfl rfl rfl
theorem dX11_init_154 : decode cX11_init 154 = .ok (.aload_n 0, 1) := op_42 kcX11_init (Nat.le_of_ble_eq_true rfl) rfl
theorem dX11_init_155 : decode cX11_init 155 = .ok (.iconst 2, 1) := op_5 kcX11_init (Nat.le_of_ble_eq_true rfl) rfl
theorem dX11_init_156 : decode cX11_init 156 = .ok (.newarray .boolean, 2) := by decide +kernel
theorem dX11_init_158 : decode cX11_init 158 = .ok (.putfield 89, 3) := op_181 (a := 0) (b := 89) kcX11_init (Nat.le_of_ble_eq_true rfl) rfl rfl rfl
theorem dX11_init_161 : decode cX11_init 161 = .ok (.aload_n 0, 1) := op_42 kcX11_init (Nat.le_of_ble_eq_true rfl) rfl
theorem dX11_init_162 : decode cX11_init 162 = .ok (.iconst 4, 1) := op_7 kcX11_init (Nat.le_of_ble_eq_true rfl) rfl
theorem dX11_init_163 : decode cX11_init 163 = .ok (.anewarray 93, 3) := op_189 (a := 0) (b := 93) kcX11_init (Nat.le_of_ble_eq_true rfl) rfl rfl rfl
theorem dX11_init_166 : decode cX11_init 166 = .ok (.putfield 95, 3) := op_181 (a := 0) (b := 95) kcX11_init (Nat.le_of_ble_eq_true rfl) rfl rfl rfl
theorem dX11_init_169 : decode cX11_init 169 = .ok (.aload_n 0, 1) := op_42 kcX11_init (Nat.le_of_ble_eq_true rfl) rfl
theorem dX11_init_170 : decode cX11_init 170 = .ok (.iconst 0, 1) := op_3 kcX11_init (Nat.le_of_ble_eq_true rfl) rfl
theorem dX11_init_171 : decode cX11_init 171 = .ok (.putfield 99, 3) := op_181 (a := 0) (b := 99) kcX11_init (Nat.le_of_ble_eq_true rfl) rfl rfl rfl
theorem dX11_init_174 : decode cX11_init 174 = .ok (.aload_n 0, 1) := op_42 kcX11_init (Nat.le_of_ble_eq_true rfl) rfl
theorem dX11_init_175 : decode cX11_init 175 = .ok (.iconst 0, 1) := op_3 kcX11_init (Nat.le_of_ble_eq_true rfl) rfl
theorem dX11_init_176 : decode cX11_init 176 = .ok (.putfield 103, 3) := op_181 (a := 0) (b := 103) kcX11_init (Nat.le_of_ble_eq_true rfl) rfl rfl rfl
theorem dX11_init_179 : decode cX11_init 179 = .ok (.iconst 0, 1) := op_3 kcX11_init (Nat.le_of_ble_eq_true rfl) rfl
theorem dX11_init_180 : decode cX11_init 180 = .ok (.istore_n 1, 1) := op_60 kcX11_init (Nat.le_of_ble_eq_true rfl) rfl
theorem dX11_init_181 : decode cX11_init 181 = .ok (.iload_n 1, 1) := op_27 kcX11_init (Nat.le_of_ble_eq_true rfl) rfl
theorem dX11_init_182 : decode cX11_init 182 = .ok (.iconst 2, 1) := op_5 kcX11_init (Nat.le_of_ble_eq_true rfl) rfl
theorem dX11_init_183 : decode cX11_init 183 = .ok (.if_icmp .ge 22, 3) := op_162 (a := 0) (b := 22) kcX11_init (Nat.le_of_ble_eq_true rfl) rfl rfl rfl (by decide)
theorem dX11_init_186 : decode cX11_init 186 = .ok (.aload_n 0, 1) := op_42 kcX11_init (Nat.le_of_ble_eq_true rfl) rfl
theorem dX11_init_187 : decode cX11_init 187 = .ok (.getfield 85, 3) := op_180 (a := 0) (b := 85) kcX11_init (Nat.le_of_ble_eq_true rfl) rfl rfl rfl
theorem dX11_init_190 : decode cX11_init 190 = .ok (.iload_n 1, 1) := op_27 kcX11_init (Nat.le_of_ble_eq_true rfl) rfl
theorem dX11_init_191 : decode cX11_init 191 = .ok (.new 16, 3) := op_187 (a := 0) (b := 16) kcX11_init (Nat.le_of_ble_eq_true rfl) rfl rfl rfl
theorem dX11_init_194 : decode cX11_init 194 = .ok (.dup, 1) := op_89 kcX11_init (Nat.le_of_ble_eq_true rfl) rfl
theorem dX11_init_195 : decode cX11_init 195 = .ok (.invokespecial 18, 3) := op_183 (a := 0) (b := 18) kcX11_init (Nat.le_of_ble_eq_true rfl) rfl rfl rfl
theorem dX11_init_198 : decode cX11_init 198 = .ok (.aastore, 1) := op_83 kcX11_init (Nat.le_of_ble_eq_true rfl) rfl
theorem dX11_init_199 : decode cX11_init 199 = .ok (.iinc 1 1, 3) := by decide +kernel
theorem dX11_init_202 : decode cX11_init 202 = .ok (.goto (-21), 3) := op_167 (a := 255) (b := 235) kcX11_init (Nat.le_of_ble_eq_true rfl) rfl rfl rfl (by decide)
theorem dX11_init_205 : decode cX11_init 205 = .ok (.iconst 0, 1) := op_3 kcX11_init (Nat.le_of_ble_eq_true rfl) rfl
theorem dX11_init_206 : decode cX11_init 206 = .ok (.istore_n 1, 1) := op_60 kcX11_init (Nat.le_of_ble_eq_true rfl) rfl
theorem dX11_init_207 : decode cX11_init 207 = .ok (.iload_n 1, 1) := op_27 kcX11_init (Nat.le_of_ble_eq_true rfl) rfl
theorem dX11_init_208 : decode cX11_init 208 = .ok (.iconst 4, 1) := op_7 kcX11_init (Nat.le_of_ble_eq_true rfl) rfl
theorem dX11_init_209 : decode cX11_init 209 = .ok (.if_icmp .ge 22, 3) := op_162 (a := 0) (b := 22) kcX11_init (Nat.le_of_ble_eq_true rfl) rfl rfl rfl (by decide)
theorem dX11_init_212 : decode cX11_init 212 = .ok (.aload_n 0, 1) := op_42 kcX11_init (Nat.le_of_ble_eq_true rfl) rfl
theorem dX11_init_213 : decode cX11_init 213 = .ok (.getfield 95, 3) := op_180 (a := 0) (b := 95) kcX11_init (Nat.le_of_ble_eq_true rfl) rfl rfl rfl
theorem dX11_init_216 : decode cX11_init 216 = .ok (.iload_n 1, 1) := op_27 kcX11_init (Nat.le_of_ble_eq_true rfl) rfl
theorem dX11_init_217 : decode cX11_init 217 = .ok (.new 93, 3) := op_187 (a := 0) (b := 93) kcX11_init (Nat.le_of_ble_eq_true rfl) rfl rfl rfl
theorem dX11_init_220 : decode cX11_init 220 = .ok (.dup, 1) := op_89 kcX11_init (Nat.le_of_ble_eq_true rfl) rfl
theorem dX11_init_221 : decode cX11_init 221 = .ok (.invokespecial 106, 3) := op_183 (a := 0) (b := 106) kcX11_init (Nat.le_of_ble_eq_true rfl) rfl rfl rfl
theorem dX11_init_224 : decode cX11_init 224 = .ok (.aastore, 1) := op_83 kcX11_init (Nat.le_of_ble_eq_true rfl) rfl
theorem dX11_init_225 : decode cX11_init 225 = .ok (.iinc 1 1, 3) := by decide +kernel
theorem dX11_init_228 : decode cX11_init 228 = .ok (.goto (-21), 3) := op_167 (a := 255) (b := 235) kcX11_init (Nat.le_of_ble_eq_true rfl) rfl rfl rfl (by decide)
theorem dX11_init_231 : decode cX11_init 231 = .ok (.return_, 1) := op_177 kcX11_init (Nat.le_of_ble_eq_true rfl) rfl
set_option maxRecDepth 20000 in
theorem gw_wsX9_append : (wsX9_append).all goodWord = true := by decide +kernel
set_option maxRecDepth 20000 in
theorem ggX11_feed_X9_append : GoodIn wsX11_feed wsX9_append := goodIn_r _ [7, 8, 9, 25, 26, 27, 28, 29, 30] rfl gw_wsX9_append
set_option maxRecDepth 20000 in
theorem gX11_feed_X9_append : GoodIn wsX11_feed (wsV RX11 107 RX9 yX9_append wsX9_append) := goodIn_app (goodIn_of _ (by decide +kernel)) ggX11_feed_X9_append
theorem kcX11_feed : (cX11_feed).data.toList = cbs 0xacfd100500a76f00b41a00b42a0d00996b00b61f1a00b42a 24 := by decide +kernel
theorem dX11_feed_0 : decode cX11_feed 0 = .ok (.aload_n 0, 1) := op_42 kcX11_feed (Nat.le_of_ble_eq_true rfl) rfl
theorem dX11_feed_1 : decode cX11_feed 1 = .ok (.getfield 26, 3) := op_180 (a := 0) (b := 26) kcX11_feed (Nat.le_of_ble_eq_true rfl) rfl rfl rfl
theorem dX11_feed_4 : decode cX11_feed 4 = .ok (.lload_n 1, 1) := op_31 kcX11_feed (Nat.le_of_ble_eq_true rfl) rfl
theorem dX11_feed_5 : decode cX11_feed 5 = .ok (.invokevirtual 107, 3) := op_182 (a := 0) (b := 107) kcX11_feed (Nat.le_of_ble_eq_true rfl) rfl rfl rfl
theorem dX11_feed_8 : decode cX11_feed 8 = .ok (.ifCond .eq 13, 3) := op_153 (a := 0) (b := 13) kcX11_feed (Nat.le_of_ble_eq_true rfl) rfl rfl rfl (by decide)
theorem dX11_feed_11 : decode cX11_feed 11 = .ok (.aload_n 0, 1) := op_42 kcX11_feed (Nat.le_of_ble_eq_true rfl) rfl
theorem dX11_feed_12 : decode cX11_feed 12 = .ok (.getfield 26, 3) := op_180 (a := 0) (b := 26) kcX11_feed (Nat.le_of_ble_eq_true rfl) rfl rfl rfl
theorem dX11_feed_15 : decode cX11_feed 15 = .ok (.getfield 111, 3) := op_180 (a := 0) (b := 111) kcX11_feed (Nat.le_of_ble_eq_true rfl) rfl rfl rfl
theorem dX11_feed_18 : decode cX11_feed 18 = .ok (.goto 5, 3) := op_167 (a := 0) (b := 5) kcX11_feed (Nat.le_of_ble_eq_true rfl) rfl rfl rfl (by decide)
theorem dX11_feed_21 : decode cX11_feed 21 = .ok (.bipush (-3), 2) := op_16 (a := 253) kcX11_feed (Nat.le_of_ble_eq_true rfl) rfl rfl (by decide)
theorem dX11_feed_23 : decode cX11_feed 23 = .ok (.ireturn, 1) := op_172 kcX11_feed (Nat.le_of_ble_eq_true rfl) rfl
theorem kcX11_end : (cX11_end).data.toList = cbs 0xac1c6f00b51b1a00b42a3d6f00b41a00b42aac020500a46f00b41a00b42a1b0e009b1b 35 := by decide +kernel
theorem dX11_end_0 : decode cX11_end 0 = .ok (.iload_n 1, 1) := op_27 kcX11_end (Nat.le_of_ble_eq_true rfl) rfl
theorem dX11_end_1 : decode cX11_end 1 = .ok (.ifCond .lt 14, 3) := op_155 (a := 0) (b := 14) kcX11_end (Nat.le_of_ble_eq_true rfl) rfl rfl rfl (by decide)
theorem dX11_end_4 : decode cX11_end 4 = .ok (.iload_n 1, 1) := op_27 kcX11_end (Nat.le_of_ble_eq_true rfl) rfl
theorem dX11_end_5 : decode cX11_end 5 = .ok (.aload_n 0, 1) := op_42 kcX11_end (Nat.le_of_ble_eq_true rfl) rfl
theorem dX11_end_6 : decode cX11_end 6 = .ok (.getfield 26, 3) := op_180 (a := 0) (b := 26) kcX11_end (Nat.le_of_ble_eq_true rfl) rfl rfl rfl
theorem dX11_end_9 : decode cX11_end 9 = .ok (.getfield 111, 3) := op_180 (a := 0) (b := 111) kcX11_end (Nat.le_of_ble_eq_true rfl) rfl rfl rfl
theorem dX11_end_12 : decode cX11_end 12 = .ok (.if_icmp .le 5, 3) := op_164 (a := 0) (b := 5) kcX11_end (Nat.le_of_ble_eq_true rfl) rfl rfl rfl (by decide)
theorem dX11_end_15 : decode cX11_end 15 = .ok (.iconst (-1), 1) := op_2 kcX11_end (Nat.le_of_ble_eq_true rfl) rfl
theorem dX11_end_16 : decode cX11_end 16 = .ok (.ireturn, 1) := op_172 kcX11_end (Nat.le_of_ble_eq_true rfl) rfl
theorem dX11_end_17 : decode cX11_end 17 = .ok (.aload_n 0, 1) := op_42 kcX11_end (Nat.le_of_ble_eq_true rfl) rfl
theorem dX11_end_18 : decode cX11_end 18 = .ok (.getfield 26, 3) := op_180 (a := 0) (b := 26) kcX11_end (Nat.le_of_ble_eq_true rfl) rfl rfl rfl
theorem dX11_end_21 : decode cX11_end 21 = .ok (.getfield 111, 3) := op_180 (a := 0) (b := 111) kcX11_end (Nat.le_of_ble_eq_true rfl) rfl rfl rfl
theorem dX11_end_24 : decode cX11_end 24 = .ok (.istore_n 2, 1) := op_61 kcX11_end (Nat.le_of_ble_eq_true rfl) rfl
theorem dX11_end_25 : decode cX11_end 25 = .ok (.aload_n 0, 1) := op_42 kcX11_end (Nat.le_of_ble_eq_true rfl) rfl
theorem dX11_end_26 : decode cX11_end 26 = .ok (.getfield 26, 3) := op_180 (a := 0) (b := 26) kcX11_end (Nat.le_of_ble_eq_true rfl) rfl rfl rfl
theorem dX11_end_29 : decode cX11_end 29 = .ok (.iload_n 1, 1) := op_27 kcX11_end (Nat.le_of_ble_eq_true rfl) rfl
theorem dX11_end_30 : decode cX11_end 30 = .ok (.putfield 111, 3) := op_181 (a := 0) (b := 111) kcX11_end (Nat.le_of_ble_eq_true rfl) rfl rfl rfl
theorem dX11_end_33 : decode cX11_end 33 = .ok (.iload_n 2, 1) := op_28 kcX11_end (Nat.le_of_ble_eq_true rfl) rfl
theorem dX11_end_34 : decode cX11_end 34 = .ok (.ireturn, 1) := op_172 kcX11_end (Nat.le_of_ble_eq_true rfl) rfl
set_option maxRecDepth 20000 in
theorem gw_wsX10_readTape : (wsX10_readTape).all goodWord = true := by decide +kernel
set_option maxRecDepth 20000 in
theorem ggX11_text_X10_readTape : GoodIn wsX11_text wsX10_readTape := goodIn_r _ [15, 16, 17, 18, 19, 20, 21, 22, 23, 24, 25, 26, 14, 27, 28, 29, 30, 31, 32, 33, 34, 35, 36, 37, 38, 39, 40, 41, 42, 43, 44, 45, 46, 47, 48, 49, 50, 51, 52, 53, 54, 55, 56, 57, 58, 59, 60, 61, 62, 63, 64, 65, 66, 67, 68, 69, 70, 71, 72, 73, 74, 75, 76, 77, 78, 79, 80, 81, 82, 83, 84, 85, 86, 87, 88, 89, 90, 91, 92, 93, 94, 95, 96, 97, 98, 99, 100, 101, 102, 103, 104, 105, 106, 107, 108, 109, 110, 111, 112, 113, 114, 115, 116, 117, 118, 119, 120, 121, 122, 123, 124, 125, 126, 127, 128, 129, 130, 131, 132, 133, 134, 135, 136, 137, 138, 139, 140, 141, 142, 143, 144, 145, 146, 147, 148, 149, 150, 151, 152, 153, 154, 155, 156, 157, 158, 159, 160, 161, 162, 163, 164, 165, 166, 167, 168, 169, 170, 171, 172, 173, 174, 175, 176, 177, 178, 179, 180, 181, 182, 183, 184, 185, 186, 187, 188, 189, 190, 191, 192, 193, 194, 195, 196, 197, 198, 199, 200, 201, 202, 203, 204, 205, 206, 207, 208, 209, 210, 211, 212, 213, 214, 215, 216, 217, 218, 219, 220, 221, 222, 223, 224, 225, 226, 227, 228, 229, 230, 231, 232, 233, 234, 267, 268, 269, 270, 271, 272, 273, 274, 275, 276, 277, 278, 279, 280, 281, 282, 261, 262, 263, 264, 265, 266, 283, 284, 285, 286, 287, 288, 289, 290, 291] rfl gw_wsX10_readTape
set_option maxRecDepth 20000 in
theorem gX11_text_X10_readTape : GoodIn wsX11_text (wsV RX11 114 RX10 yX10_readTape wsX10_readTape) := goodIn_app (goodIn_of _ (by decide +kernel)) ggX11_text_X10_readTape
set_option maxRecDepth 20000 in
theorem gw_wsX6_copy : (wsX6_copy).all goodWord = true := by decide +kernel
set_option maxRecDepth 20000 in
theorem ggX11_text_X6_copy : GoodIn wsX11_text wsX6_copy := goodIn_r _ [238, 35, 36, 37, 239, 170, 171, 172, 220, 276, 277, 278, 279, 280, 281, 282] rfl gw_wsX6_copy
set_option maxRecDepth 20000 in
theorem gX11_text_X6_copy : GoodIn wsX11_text (wsV RX11 122 RX6 yX6_copy wsX6_copy) := goodIn_app (goodIn_of _ (by decide +kernel)) ggX11_text_X6_copy
set_option maxRecDepth 20000 in
theorem gw_wsX8_copy : (wsX8_copy).all goodWord = true := by decide +kernel
set_option maxRecDepth 20000 in
theorem ggX11_text_X8_copy : GoodIn wsX11_text wsX8_copy := goodIn_r _ [243, 47, 244, 170, 171, 172, 48, 49, 50, 245, 51, 52, 53, 54, 283, 284, 285, 286, 287, 288, 289, 290, 291] rfl gw_wsX8_copy
set_option maxRecDepth 20000 in
theorem gX11_text_X8_copy : GoodIn wsX11_text (wsV RX11 127 RX8 yX8_copy wsX8_copy) := goodIn_app (goodIn_of _ (by decide +kernel)) ggX11_text_X8_copy
theorem kcX11_text : (cX11_text).data.toList = cbs 0xac1bf1ffa701028454031c5900b42a1000a2051c3d037f00b67e00b42300b42a1300b42a7a00b67900b42300b42a0a00b42a33009a6300b42a6300b57600b42300b42a2a6f00b5031a00b42a3c7200b62300b42a 84 := by decide +kernel
theorem dX11_text_0 : decode cX11_text 0 = .ok (.aload_n 0, 1) := op_42 kcX11_text (Nat.le_of_ble_eq_true rfl) rfl
theorem dX11_text_1 : decode cX11_text 1 = .ok (.getfield 35, 3) := op_180 (a := 0) (b := 35) kcX11_text (Nat.le_of_ble_eq_true rfl) rfl rfl rfl
theorem dX11_text_4 : decode cX11_text 4 = .ok (.invokevirtual 114, 3) := op_182 (a := 0) (b := 114) kcX11_text (Nat.le_of_ble_eq_true rfl) rfl rfl rfl
theorem dX11_text_7 : decode cX11_text 7 = .ok (.istore_n 1, 1) := op_60 kcX11_text (Nat.le_of_ble_eq_true rfl) rfl
theorem dX11_text_8 : decode cX11_text 8 = .ok (.aload_n 0, 1) := op_42 kcX11_text (Nat.le_of_ble_eq_true rfl) rfl
theorem dX11_text_9 : decode cX11_text 9 = .ok (.getfield 26, 3) := op_180 (a := 0) (b := 26) kcX11_text (Nat.le_of_ble_eq_true rfl) rfl rfl rfl
theorem dX11_text_12 : decode cX11_text 12 = .ok (.iconst 0, 1) := op_3 kcX11_text (Nat.le_of_ble_eq_true rfl) rfl
theorem dX11_text_13 : decode cX11_text 13 = .ok (.putfield 111, 3) := op_181 (a := 0) (b := 111) kcX11_text (Nat.le_of_ble_eq_true rfl) rfl rfl rfl
theorem dX11_text_16 : decode cX11_text 16 = .ok (.aload_n 0, 1) := op_42 kcX11_text (Nat.le_of_ble_eq_true rfl) rfl
theorem dX11_text_17 : decode cX11_text 17 = .ok (.aload_n 0, 1) := op_42 kcX11_text (Nat.le_of_ble_eq_true rfl) rfl
theorem dX11_text_18 : decode cX11_text 18 = .ok (.getfield 35, 3) := op_180 (a := 0) (b := 35) kcX11_text (Nat.le_of_ble_eq_true rfl) rfl rfl rfl
theorem dX11_text_21 : decode cX11_text 21 = .ok (.getfield 118, 3) := op_180 (a := 0) (b := 118) kcX11_text (Nat.le_of_ble_eq_true rfl) rfl rfl rfl
theorem dX11_text_24 : decode cX11_text 24 = .ok (.putfield 99, 3) := op_181 (a := 0) (b := 99) kcX11_text (Nat.le_of_ble_eq_true rfl) rfl rfl rfl
theorem dX11_text_27 : decode cX11_text 27 = .ok (.aload_n 0, 1) := op_42 kcX11_text (Nat.le_of_ble_eq_true rfl) rfl
theorem dX11_text_28 : decode cX11_text 28 = .ok (.getfield 99, 3) := op_180 (a := 0) (b := 99) kcX11_text (Nat.le_of_ble_eq_true rfl) rfl rfl rfl
theorem dX11_text_31 : decode cX11_text 31 = .ok (.ifCond .ne 51, 3) := op_154 (a := 0) (b := 51) kcX11_text (Nat.le_of_ble_eq_true rfl) rfl rfl rfl (by decide)
theorem dX11_text_34 : decode cX11_text 34 = .ok (.aload_n 0, 1) := op_42 kcX11_text (Nat.le_of_ble_eq_true rfl) rfl
theorem dX11_text_35 : decode cX11_text 35 = .ok (.getfield 10, 3) := op_180 (a := 0) (b := 10) kcX11_text (Nat.le_of_ble_eq_true rfl) rfl rfl rfl
theorem dX11_text_38 : decode cX11_text 38 = .ok (.aload_n 0, 1) := op_42 kcX11_text (Nat.le_of_ble_eq_true rfl) rfl
theorem dX11_text_39 : decode cX11_text 39 = .ok (.getfield 35, 3) := op_180 (a := 0) (b := 35) kcX11_text (Nat.le_of_ble_eq_true rfl) rfl rfl rfl
theorem dX11_text_42 : decode cX11_text 42 = .ok (.getfield 121, 3) := op_180 (a := 0) (b := 121) kcX11_text (Nat.le_of_ble_eq_true rfl) rfl rfl rfl
theorem dX11_text_45 : decode cX11_text 45 = .ok (.invokevirtual 122, 3) := op_182 (a := 0) (b := 122) kcX11_text (Nat.le_of_ble_eq_true rfl) rfl rfl rfl
theorem dX11_text_48 : decode cX11_text 48 = .ok (.aload_n 0, 1) := op_42 kcX11_text (Nat.le_of_ble_eq_true rfl) rfl
theorem dX11_text_49 : decode cX11_text 49 = .ok (.getfield 19, 3) := op_180 (a := 0) (b := 19) kcX11_text (Nat.le_of_ble_eq_true rfl) rfl rfl rfl
theorem dX11_text_52 : decode cX11_text 52 = .ok (.aload_n 0, 1) := op_42 kcX11_text (Nat.le_of_ble_eq_true rfl) rfl
theorem dX11_text_53 : decode cX11_text 53 = .ok (.getfield 35, 3) := op_180 (a := 0) (b := 35) kcX11_text (Nat.le_of_ble_eq_true rfl) rfl rfl rfl
theorem dX11_text_56 : decode cX11_text 56 = .ok (.getfield 126, 3) := op_180 (a := 0) (b := 126) kcX11_text (Nat.le_of_ble_eq_true rfl) rfl rfl rfl
theorem dX11_text_59 : decode cX11_text 59 = .ok (.invokevirtual 127, 3) := op_182 (a := 0) (b := 127) kcX11_text (Nat.le_of_ble_eq_true rfl) rfl rfl rfl
theorem dX11_text_62 : decode cX11_text 62 = .ok (.iconst 0, 1) := op_3 kcX11_text (Nat.le_of_ble_eq_true rfl) rfl
theorem dX11_text_63 : decode cX11_text 63 = .ok (.istore_n 2, 1) := op_61 kcX11_text (Nat.le_of_ble_eq_true rfl) rfl
theorem dX11_text_64 : decode cX11_text 64 = .ok (.iload_n 2, 1) := op_28 kcX11_text (Nat.le_of_ble_eq_true rfl) rfl
theorem dX11_text_65 : decode cX11_text 65 = .ok (.iconst 2, 1) := op_5 kcX11_text (Nat.le_of_ble_eq_true rfl) rfl
theorem dX11_text_66 : decode cX11_text 66 = .ok (.if_icmp .ge 16, 3) := op_162 (a := 0) (b := 16) kcX11_text (Nat.le_of_ble_eq_true rfl) rfl rfl rfl (by decide)
theorem dX11_text_69 : decode cX11_text 69 = .ok (.aload_n 0, 1) := op_42 kcX11_text (Nat.le_of_ble_eq_true rfl) rfl
theorem dX11_text_70 : decode cX11_text 70 = .ok (.getfield 89, 3) := op_180 (a := 0) (b := 89) kcX11_text (Nat.le_of_ble_eq_true rfl) rfl rfl rfl
theorem dX11_text_73 : decode cX11_text 73 = .ok (.iload_n 2, 1) := op_28 kcX11_text (Nat.le_of_ble_eq_true rfl) rfl
theorem dX11_text_74 : decode cX11_text 74 = .ok (.iconst 0, 1) := op_3 kcX11_text (Nat.le_of_ble_eq_true rfl) rfl
theorem dX11_text_75 : decode cX11_text 75 = .ok (.bastore, 1) := op_84 kcX11_text (Nat.le_of_ble_eq_true rfl) rfl
theorem dX11_text_76 : decode cX11_text 76 = .ok (.iinc 2 1, 3) := by decide +kernel
theorem dX11_text_79 : decode cX11_text 79 = .ok (.goto (-15), 3) := op_167 (a := 255) (b := 241) kcX11_text (Nat.le_of_ble_eq_true rfl) rfl rfl rfl (by decide)
theorem dX11_text_82 : decode cX11_text 82 = .ok (.iload_n 1, 1) := op_27 kcX11_text (Nat.le_of_ble_eq_true rfl) rfl
theorem dX11_text_83 : decode cX11_text 83 = .ok (.ireturn, 1) := op_172 kcX11_text (Nat.le_of_ble_eq_true rfl) rfl
theorem kcX11_fault : (cX11_fault).data.toList = cbs 0xac6300b42a 5 := by decide +kernel
theorem dX11_fault_0 : decode cX11_fault 0 = .ok (.aload_n 0, 1) := op_42 kcX11_fault (Nat.le_of_ble_eq_true rfl) rfl
theorem dX11_fault_1 : decode cX11_fault 1 = .ok (.getfield 99, 3) := op_180 (a := 0) (b := 99) kcX11_fault (Nat.le_of_ble_eq_true rfl) rfl rfl rfl
theorem dX11_fault_4 : decode cX11_fault 4 = .ok (.ireturn, 1) := op_172 kcX11_fault (Nat.le_of_ble_eq_true rfl) rfl
theorem kcX11_rule : (cX11_rule).data.toList = cbs 0xac02ac8e00b41300b42aac8b00b41300b42aac8800b41300b42aac8500b40a00b42aac8200b40a00b42a430000003b000000330000002b0000002300000004000000000000004b0000000000aa1b 78 := by decide +kernel
theorem dX11_rule_0 : decode cX11_rule 0 = .ok (.iload_n 1, 1) := op_27 kcX11_rule (Nat.le_of_ble_eq_true rfl) rfl
theorem dX11_rule_1 : decode cX11_rule 1 = .ok (.tableswitch 75 0 4 #[35, 43, 51, 59, 67], 35) := by decide +kernel
theorem dX11_rule_36 : decode cX11_rule 36 = .ok (.aload_n 0, 1) := op_42 kcX11_rule (Nat.le_of_ble_eq_true rfl) rfl
theorem dX11_rule_37 : decode cX11_rule 37 = .ok (.getfield 10, 3) := op_180 (a := 0) (b := 10) kcX11_rule (Nat.le_of_ble_eq_true rfl) rfl rfl rfl
theorem dX11_rule_40 : decode cX11_rule 40 = .ok (.getfield 130, 3) := op_180 (a := 0) (b := 130) kcX11_rule (Nat.le_of_ble_eq_true rfl) rfl rfl rfl
theorem dX11_rule_43 : decode cX11_rule 43 = .ok (.ireturn, 1) := op_172 kcX11_rule (Nat.le_of_ble_eq_true rfl) rfl
theorem dX11_rule_44 : decode cX11_rule 44 = .ok (.aload_n 0, 1) := op_42 kcX11_rule (Nat.le_of_ble_eq_true rfl) rfl
theorem dX11_rule_45 : decode cX11_rule 45 = .ok (.getfield 10, 3) := op_180 (a := 0) (b := 10) kcX11_rule (Nat.le_of_ble_eq_true rfl) rfl rfl rfl
theorem dX11_rule_48 : decode cX11_rule 48 = .ok (.getfield 133, 3) := op_180 (a := 0) (b := 133) kcX11_rule (Nat.le_of_ble_eq_true rfl) rfl rfl rfl
theorem dX11_rule_51 : decode cX11_rule 51 = .ok (.ireturn, 1) := op_172 kcX11_rule (Nat.le_of_ble_eq_true rfl) rfl
theorem dX11_rule_52 : decode cX11_rule 52 = .ok (.aload_n 0, 1) := op_42 kcX11_rule (Nat.le_of_ble_eq_true rfl) rfl
theorem dX11_rule_53 : decode cX11_rule 53 = .ok (.getfield 19, 3) := op_180 (a := 0) (b := 19) kcX11_rule (Nat.le_of_ble_eq_true rfl) rfl rfl rfl
theorem dX11_rule_56 : decode cX11_rule 56 = .ok (.getfield 136, 3) := op_180 (a := 0) (b := 136) kcX11_rule (Nat.le_of_ble_eq_true rfl) rfl rfl rfl
theorem dX11_rule_59 : decode cX11_rule 59 = .ok (.ireturn, 1) := op_172 kcX11_rule (Nat.le_of_ble_eq_true rfl) rfl
theorem dX11_rule_60 : decode cX11_rule 60 = .ok (.aload_n 0, 1) := op_42 kcX11_rule (Nat.le_of_ble_eq_true rfl) rfl
theorem dX11_rule_61 : decode cX11_rule 61 = .ok (.getfield 19, 3) := op_180 (a := 0) (b := 19) kcX11_rule (Nat.le_of_ble_eq_true rfl) rfl rfl rfl
theorem dX11_rule_64 : decode cX11_rule 64 = .ok (.getfield 139, 3) := op_180 (a := 0) (b := 139) kcX11_rule (Nat.le_of_ble_eq_true rfl) rfl rfl rfl
theorem dX11_rule_67 : decode cX11_rule 67 = .ok (.ireturn, 1) := op_172 kcX11_rule (Nat.le_of_ble_eq_true rfl) rfl
theorem dX11_rule_68 : decode cX11_rule 68 = .ok (.aload_n 0, 1) := op_42 kcX11_rule (Nat.le_of_ble_eq_true rfl) rfl
theorem dX11_rule_69 : decode cX11_rule 69 = .ok (.getfield 19, 3) := op_180 (a := 0) (b := 19) kcX11_rule (Nat.le_of_ble_eq_true rfl) rfl rfl rfl
theorem dX11_rule_72 : decode cX11_rule 72 = .ok (.getfield 142, 3) := op_180 (a := 0) (b := 142) kcX11_rule (Nat.le_of_ble_eq_true rfl) rfl rfl rfl
theorem dX11_rule_75 : decode cX11_rule 75 = .ok (.ireturn, 1) := op_172 kcX11_rule (Nat.le_of_ble_eq_true rfl) rfl
theorem dX11_rule_76 : decode cX11_rule 76 = .ok (.iconst (-1), 1) := op_2 kcX11_rule (Nat.le_of_ble_eq_true rfl) rfl
theorem dX11_rule_77 : decode cX11_rule 77 = .ok (.ireturn, 1) := op_172 kcX11_rule (Nat.le_of_ble_eq_true rfl) rfl
set_option maxRecDepth 20000 in
theorem gw_wsX6_hasSeat : (wsX6_hasSeat).all goodWord = true := by decide +kernel
set_option maxRecDepth 20000 in
theorem ggX11_pot_X6_hasSeat : GoodIn wsX11_pot wsX6_hasSeat := goodIn_r _ [8, 9, 34, 35, 36, 37, 38, 39, 40] rfl gw_wsX6_hasSeat
set_option maxRecDepth 20000 in
theorem gX11_pot_X6_hasSeat : GoodIn wsX11_pot (wsV RX11 145 RX6 yX6_hasSeat wsX6_hasSeat) := goodIn_app (goodIn_of _ (by decide +kernel)) ggX11_pot_X6_hasSeat
theorem kcX11_pot : (cX11_pot).data.toList = cbs 0xac020400a72e1b9500b41300b42a0f00999100b61b0a00b42a 25 := by decide +kernel
theorem dX11_pot_0 : decode cX11_pot 0 = .ok (.aload_n 0, 1) := op_42 kcX11_pot (Nat.le_of_ble_eq_true rfl) rfl
theorem dX11_pot_1 : decode cX11_pot 1 = .ok (.getfield 10, 3) := op_180 (a := 0) (b := 10) kcX11_pot (Nat.le_of_ble_eq_true rfl) rfl rfl rfl
theorem dX11_pot_4 : decode cX11_pot 4 = .ok (.iload_n 1, 1) := op_27 kcX11_pot (Nat.le_of_ble_eq_true rfl) rfl
theorem dX11_pot_5 : decode cX11_pot 5 = .ok (.invokevirtual 145, 3) := op_182 (a := 0) (b := 145) kcX11_pot (Nat.le_of_ble_eq_true rfl) rfl rfl rfl
theorem dX11_pot_8 : decode cX11_pot 8 = .ok (.ifCond .eq 15, 3) := op_153 (a := 0) (b := 15) kcX11_pot (Nat.le_of_ble_eq_true rfl) rfl rfl rfl (by decide)
theorem dX11_pot_11 : decode cX11_pot 11 = .ok (.aload_n 0, 1) := op_42 kcX11_pot (Nat.le_of_ble_eq_true rfl) rfl
theorem dX11_pot_12 : decode cX11_pot 12 = .ok (.getfield 19, 3) := op_180 (a := 0) (b := 19) kcX11_pot (Nat.le_of_ble_eq_true rfl) rfl rfl rfl
theorem dX11_pot_15 : decode cX11_pot 15 = .ok (.getfield 149, 3) := op_180 (a := 0) (b := 149) kcX11_pot (Nat.le_of_ble_eq_true rfl) rfl rfl rfl
theorem dX11_pot_18 : decode cX11_pot 18 = .ok (.iload_n 1, 1) := op_27 kcX11_pot (Nat.le_of_ble_eq_true rfl) rfl
theorem dX11_pot_19 : decode cX11_pot 19 = .ok (.iaload, 1) := op_46 kcX11_pot (Nat.le_of_ble_eq_true rfl) rfl
theorem dX11_pot_20 : decode cX11_pot 20 = .ok (.goto 4, 3) := op_167 (a := 0) (b := 4) kcX11_pot (Nat.le_of_ble_eq_true rfl) rfl rfl rfl (by decide)
theorem dX11_pot_23 : decode cX11_pot 23 = .ok (.iconst (-1), 1) := op_2 kcX11_pot (Nat.le_of_ble_eq_true rfl) rfl
theorem dX11_pot_24 : decode cX11_pot 24 = .ok (.ireturn, 1) := op_172 kcX11_pot (Nat.le_of_ble_eq_true rfl) rfl
set_option maxRecDepth 20000 in
theorem ggX11_one_X6_hasSeat : GoodIn wsX11_one wsX6_hasSeat := goodIn_r _ [11, 12, 37, 38, 39, 40, 41, 42, 43] rfl gw_wsX6_hasSeat
set_option maxRecDepth 20000 in
theorem gX11_one_X6_hasSeat : GoodIn wsX11_one (wsV RX11 145 RX6 yX6_hasSeat wsX6_hasSeat) := goodIn_app (goodIn_of _ (by decide +kernel)) ggX11_one_X6_hasSeat
theorem kcX11_one : (cX11_one).data.toList = cbs 0xac02ac2e1ba200b41300b42aac2e1b9f00b40a00b42aac2e1b9c00b41300b42aac2e1b9900b41300b42a3c00000032000000280000001e00000003000000000000004600000000aa1cac0205009a9100b61b0a00b42a 86 := by decide +kernel
theorem dX11_one_0 : decode cX11_one 0 = .ok (.aload_n 0, 1) := op_42 kcX11_one (Nat.le_of_ble_eq_true rfl) rfl
theorem dX11_one_1 : decode cX11_one 1 = .ok (.getfield 10, 3) := op_180 (a := 0) (b := 10) kcX11_one (Nat.le_of_ble_eq_true rfl) rfl rfl rfl
theorem dX11_one_4 : decode cX11_one 4 = .ok (.iload_n 1, 1) := op_27 kcX11_one (Nat.le_of_ble_eq_true rfl) rfl
theorem dX11_one_5 : decode cX11_one 5 = .ok (.invokevirtual 145, 3) := op_182 (a := 0) (b := 145) kcX11_one (Nat.le_of_ble_eq_true rfl) rfl rfl rfl
theorem dX11_one_8 : decode cX11_one 8 = .ok (.ifCond .ne 5, 3) := op_154 (a := 0) (b := 5) kcX11_one (Nat.le_of_ble_eq_true rfl) rfl rfl rfl (by decide)
theorem dX11_one_11 : decode cX11_one 11 = .ok (.iconst (-1), 1) := op_2 kcX11_one (Nat.le_of_ble_eq_true rfl) rfl
theorem dX11_one_12 : decode cX11_one 12 = .ok (.ireturn, 1) := op_172 kcX11_one (Nat.le_of_ble_eq_true rfl) rfl
theorem dX11_one_13 : decode cX11_one 13 = .ok (.iload_n 2, 1) := op_28 kcX11_one (Nat.le_of_ble_eq_true rfl) rfl
theorem dX11_one_14 : decode cX11_one 14 = .ok (.tableswitch 70 0 3 #[30, 40, 50, 60], 30) := by decide +kernel
theorem dX11_one_44 : decode cX11_one 44 = .ok (.aload_n 0, 1) := op_42 kcX11_one (Nat.le_of_ble_eq_true rfl) rfl
theorem dX11_one_45 : decode cX11_one 45 = .ok (.getfield 19, 3) := op_180 (a := 0) (b := 19) kcX11_one (Nat.le_of_ble_eq_true rfl) rfl rfl rfl
theorem dX11_one_48 : decode cX11_one 48 = .ok (.getfield 153, 3) := op_180 (a := 0) (b := 153) kcX11_one (Nat.le_of_ble_eq_true rfl) rfl rfl rfl
theorem dX11_one_51 : decode cX11_one 51 = .ok (.iload_n 1, 1) := op_27 kcX11_one (Nat.le_of_ble_eq_true rfl) rfl
theorem dX11_one_52 : decode cX11_one 52 = .ok (.iaload, 1) := op_46 kcX11_one (Nat.le_of_ble_eq_true rfl) rfl
theorem dX11_one_53 : decode cX11_one 53 = .ok (.ireturn, 1) := op_172 kcX11_one (Nat.le_of_ble_eq_true rfl) rfl
theorem dX11_one_54 : decode cX11_one 54 = .ok (.aload_n 0, 1) := op_42 kcX11_one (Nat.le_of_ble_eq_true rfl) rfl
theorem dX11_one_55 : decode cX11_one 55 = .ok (.getfield 19, 3) := op_180 (a := 0) (b := 19) kcX11_one (Nat.le_of_ble_eq_true rfl) rfl rfl rfl
theorem dX11_one_58 : decode cX11_one 58 = .ok (.getfield 156, 3) := op_180 (a := 0) (b := 156) kcX11_one (Nat.le_of_ble_eq_true rfl) rfl rfl rfl
theorem dX11_one_61 : decode cX11_one 61 = .ok (.iload_n 1, 1) := op_27 kcX11_one (Nat.le_of_ble_eq_true rfl) rfl
theorem dX11_one_62 : decode cX11_one 62 = .ok (.iaload, 1) := op_46 kcX11_one (Nat.le_of_ble_eq_true rfl) rfl
theorem dX11_one_63 : decode cX11_one 63 = .ok (.ireturn, 1) := op_172 kcX11_one (Nat.le_of_ble_eq_true rfl) rfl
theorem dX11_one_64 : decode cX11_one 64 = .ok (.aload_n 0, 1) := op_42 kcX11_one (Nat.le_of_ble_eq_true rfl) rfl
theorem dX11_one_65 : decode cX11_one 65 = .ok (.getfield 10, 3) := op_180 (a := 0) (b := 10) kcX11_one (Nat.le_of_ble_eq_true rfl) rfl rfl rfl
theorem dX11_one_68 : decode cX11_one 68 = .ok (.getfield 159, 3) := op_180 (a := 0) (b := 159) kcX11_one (Nat.le_of_ble_eq_true rfl) rfl rfl rfl
theorem dX11_one_71 : decode cX11_one 71 = .ok (.iload_n 1, 1) := op_27 kcX11_one (Nat.le_of_ble_eq_true rfl) rfl
theorem dX11_one_72 : decode cX11_one 72 = .ok (.iaload, 1) := op_46 kcX11_one (Nat.le_of_ble_eq_true rfl) rfl
theorem dX11_one_73 : decode cX11_one 73 = .ok (.ireturn, 1) := op_172 kcX11_one (Nat.le_of_ble_eq_true rfl) rfl
theorem dX11_one_74 : decode cX11_one 74 = .ok (.aload_n 0, 1) := op_42 kcX11_one (Nat.le_of_ble_eq_true rfl) rfl
theorem dX11_one_75 : decode cX11_one 75 = .ok (.getfield 19, 3) := op_180 (a := 0) (b := 19) kcX11_one (Nat.le_of_ble_eq_true rfl) rfl rfl rfl
theorem dX11_one_78 : decode cX11_one 78 = .ok (.getfield 162, 3) := op_180 (a := 0) (b := 162) kcX11_one (Nat.le_of_ble_eq_true rfl) rfl rfl rfl
theorem dX11_one_81 : decode cX11_one 81 = .ok (.iload_n 1, 1) := op_27 kcX11_one (Nat.le_of_ble_eq_true rfl) rfl
theorem dX11_one_82 : decode cX11_one 82 = .ok (.iaload, 1) := op_46 kcX11_one (Nat.le_of_ble_eq_true rfl) rfl
theorem dX11_one_83 : decode cX11_one 83 = .ok (.ireturn, 1) := op_172 kcX11_one (Nat.le_of_ble_eq_true rfl) rfl
theorem dX11_one_84 : decode cX11_one 84 = .ok (.iconst (-1), 1) := op_2 kcX11_one (Nat.le_of_ble_eq_true rfl) rfl
theorem dX11_one_85 : decode cX11_one 85 = .ok (.ireturn, 1) := op_172 kcX11_one (Nat.le_of_ble_eq_true rfl) rfl
set_option maxRecDepth 20000 in
theorem ggX11_stir_X6_hasStir : GoodIn wsX11_stir wsX6_hasStir := goodIn_r _ [6, 7, 33, 34, 35, 36, 37, 38, 39] rfl gw_wsX6_hasStir
set_option maxRecDepth 20000 in
theorem gX11_stir_X6_hasStir : GoodIn wsX11_stir (wsV RX11 165 RX6 yX6_hasStir wsX6_hasStir) := goodIn_app (goodIn_of _ (by decide +kernel)) ggX11_stir_X6_hasStir
set_option maxRecDepth 20000 in
theorem ggX11_stir_X6_hasSeat : GoodIn wsX11_stir wsX6_hasSeat := goodIn_r _ [11, 12, 33, 34, 35, 36, 37, 38, 39] rfl gw_wsX6_hasSeat
set_option maxRecDepth 20000 in
theorem gX11_stir_X6_hasSeat : GoodIn wsX11_stir (wsV RX11 145 RX6 yX6_hasSeat wsX6_hasSeat) := goodIn_app (goodIn_of _ (by decide +kernel)) ggX11_stir_X6_hasSeat
set_option maxRecDepth 20000 in
theorem ggX11_stir_X6_placeAfter : GoodIn wsX11_stir wsX6_placeAfter := goodIn_r _ [16, 17, 33, 34, 35, 36, 37, 38, 39] rfl gw_wsX6_placeAfter
set_option maxRecDepth 20000 in
theorem gX11_stir_X6_placeAfter : GoodIn wsX11_stir (wsV RX11 168 RX6 yX6_placeAfter wsX6_placeAfter) := goodIn_app (goodIn_of _ (by decide +kernel)) ggX11_stir_X6_placeAfter
theorem kcX11_stir : (cX11_stir).data.toList = cbs 0xac020400a7a800b61c1b0a00b42a0f00999100b61c0a00b42a1a0099a500b61b0a00b42a 36 := by decide +kernel
theorem dX11_stir_0 : decode cX11_stir 0 = .ok (.aload_n 0, 1) := op_42 kcX11_stir (Nat.le_of_ble_eq_true rfl) rfl
theorem dX11_stir_1 : decode cX11_stir 1 = .ok (.getfield 10, 3) := op_180 (a := 0) (b := 10) kcX11_stir (Nat.le_of_ble_eq_true rfl) rfl rfl rfl
theorem dX11_stir_4 : decode cX11_stir 4 = .ok (.iload_n 1, 1) := op_27 kcX11_stir (Nat.le_of_ble_eq_true rfl) rfl
theorem dX11_stir_5 : decode cX11_stir 5 = .ok (.invokevirtual 165, 3) := op_182 (a := 0) (b := 165) kcX11_stir (Nat.le_of_ble_eq_true rfl) rfl rfl rfl
theorem dX11_stir_8 : decode cX11_stir 8 = .ok (.ifCond .eq 26, 3) := op_153 (a := 0) (b := 26) kcX11_stir (Nat.le_of_ble_eq_true rfl) rfl rfl rfl (by decide)
theorem dX11_stir_11 : decode cX11_stir 11 = .ok (.aload_n 0, 1) := op_42 kcX11_stir (Nat.le_of_ble_eq_true rfl) rfl
theorem dX11_stir_12 : decode cX11_stir 12 = .ok (.getfield 10, 3) := op_180 (a := 0) (b := 10) kcX11_stir (Nat.le_of_ble_eq_true rfl) rfl rfl rfl
theorem dX11_stir_15 : decode cX11_stir 15 = .ok (.iload_n 2, 1) := op_28 kcX11_stir (Nat.le_of_ble_eq_true rfl) rfl
theorem dX11_stir_16 : decode cX11_stir 16 = .ok (.invokevirtual 145, 3) := op_182 (a := 0) (b := 145) kcX11_stir (Nat.le_of_ble_eq_true rfl) rfl rfl rfl
theorem dX11_stir_19 : decode cX11_stir 19 = .ok (.ifCond .eq 15, 3) := op_153 (a := 0) (b := 15) kcX11_stir (Nat.le_of_ble_eq_true rfl) rfl rfl rfl (by decide)
theorem dX11_stir_22 : decode cX11_stir 22 = .ok (.aload_n 0, 1) := op_42 kcX11_stir (Nat.le_of_ble_eq_true rfl) rfl
theorem dX11_stir_23 : decode cX11_stir 23 = .ok (.getfield 10, 3) := op_180 (a := 0) (b := 10) kcX11_stir (Nat.le_of_ble_eq_true rfl) rfl rfl rfl
theorem dX11_stir_26 : decode cX11_stir 26 = .ok (.iload_n 1, 1) := op_27 kcX11_stir (Nat.le_of_ble_eq_true rfl) rfl
theorem dX11_stir_27 : decode cX11_stir 27 = .ok (.iload_n 2, 1) := op_28 kcX11_stir (Nat.le_of_ble_eq_true rfl) rfl
theorem dX11_stir_28 : decode cX11_stir 28 = .ok (.invokevirtual 168, 3) := op_182 (a := 0) (b := 168) kcX11_stir (Nat.le_of_ble_eq_true rfl) rfl rfl rfl
theorem dX11_stir_31 : decode cX11_stir 31 = .ok (.goto 4, 3) := op_167 (a := 0) (b := 4) kcX11_stir (Nat.le_of_ble_eq_true rfl) rfl rfl rfl (by decide)
theorem dX11_stir_34 : decode cX11_stir 34 = .ok (.iconst (-1), 1) := op_2 kcX11_stir (Nat.le_of_ble_eq_true rfl) rfl
theorem dX11_stir_35 : decode cX11_stir 35 = .ok (.ireturn, 1) := op_172 kcX11_stir (Nat.le_of_ble_eq_true rfl) rfl
set_option maxRecDepth 20000 in
theorem ggX11_befriend_X6_hasSeat : GoodIn wsX11_befriend wsX6_hasSeat := goodIn_r _ [7, 8, 34, 35, 36, 37, 38, 39, 40] rfl gw_wsX6_hasSeat
set_option maxRecDepth 20000 in
theorem gX11_befriend_X6_hasSeat : GoodIn wsX11_befriend (wsV RX11 145 RX6 yX6_hasSeat wsX6_hasSeat) := goodIn_app (goodIn_of _ (by decide +kernel)) ggX11_befriend_X6_hasSeat
set_option maxRecDepth 20000 in
theorem ggX11_befriend_X8_isFriend : GoodIn wsX11_befriend wsX8_isFriend := goodIn_r _ [13, 14, 41, 42, 43, 44, 45, 46, 47, 48, 49] rfl gw_wsX8_isFriend
set_option maxRecDepth 20000 in
theorem gX11_befriend_X8_isFriend : GoodIn wsX11_befriend (wsV RX11 172 RX8 yX8_isFriend wsX8_isFriend) := goodIn_app (goodIn_of _ (by decide +kernel)) ggX11_befriend_X8_isFriend
set_option maxRecDepth 20000 in
theorem ggX11_befriend_X8_setFriend : GoodIn wsX11_befriend wsX8_setFriend := goodIn_r _ [18, 14, 41, 42, 43, 44, 45, 46, 47, 48, 49] rfl gw_wsX8_setFriend
set_option maxRecDepth 20000 in
theorem gX11_befriend_X8_setFriend : GoodIn wsX11_befriend (wsV RX11 176 RX8 yX8_setFriend wsX8_setFriend) := goodIn_app (goodIn_of _ (by decide +kernel)) ggX11_befriend_X8_setFriend
theorem kcX11_befriend : (cX11_befriend).data.toList = cbs 0xac0415b000b61d1c1b1300b42a0436030400a704070099ac00b61c1b1300b42aac020500a01c1b0800999100b61c0a00b42a1300999100b61b0a00b42a 61 := by decide +kernel
theorem dX11_befriend_0 : decode cX11_befriend 0 = .ok (.aload_n 0, 1) := op_42 kcX11_befriend (Nat.le_of_ble_eq_true rfl) rfl
theorem dX11_befriend_1 : decode cX11_befriend 1 = .ok (.getfield 10, 3) := op_180 (a := 0) (b := 10) kcX11_befriend (Nat.le_of_ble_eq_true rfl) rfl rfl rfl
theorem dX11_befriend_4 : decode cX11_befriend 4 = .ok (.iload_n 1, 1) := op_27 kcX11_befriend (Nat.le_of_ble_eq_true rfl) rfl
theorem dX11_befriend_5 : decode cX11_befriend 5 = .ok (.invokevirtual 145, 3) := op_182 (a := 0) (b := 145) kcX11_befriend (Nat.le_of_ble_eq_true rfl) rfl rfl rfl
theorem dX11_befriend_8 : decode cX11_befriend 8 = .ok (.ifCond .eq 19, 3) := op_153 (a := 0) (b := 19) kcX11_befriend (Nat.le_of_ble_eq_true rfl) rfl rfl rfl (by decide)
theorem dX11_befriend_11 : decode cX11_befriend 11 = .ok (.aload_n 0, 1) := op_42 kcX11_befriend (Nat.le_of_ble_eq_true rfl) rfl
theorem dX11_befriend_12 : decode cX11_befriend 12 = .ok (.getfield 10, 3) := op_180 (a := 0) (b := 10) kcX11_befriend (Nat.le_of_ble_eq_true rfl) rfl rfl rfl
theorem dX11_befriend_15 : decode cX11_befriend 15 = .ok (.iload_n 2, 1) := op_28 kcX11_befriend (Nat.le_of_ble_eq_true rfl) rfl
theorem dX11_befriend_16 : decode cX11_befriend 16 = .ok (.invokevirtual 145, 3) := op_182 (a := 0) (b := 145) kcX11_befriend (Nat.le_of_ble_eq_true rfl) rfl rfl rfl
theorem dX11_befriend_19 : decode cX11_befriend 19 = .ok (.ifCond .eq 8, 3) := op_153 (a := 0) (b := 8) kcX11_befriend (Nat.le_of_ble_eq_true rfl) rfl rfl rfl (by decide)
theorem dX11_befriend_22 : decode cX11_befriend 22 = .ok (.iload_n 1, 1) := op_27 kcX11_befriend (Nat.le_of_ble_eq_true rfl) rfl
theorem dX11_befriend_23 : decode cX11_befriend 23 = .ok (.iload_n 2, 1) := op_28 kcX11_befriend (Nat.le_of_ble_eq_true rfl) rfl
theorem dX11_befriend_24 : decode cX11_befriend 24 = .ok (.if_icmp .ne 5, 3) := op_160 (a := 0) (b := 5) kcX11_befriend (Nat.le_of_ble_eq_true rfl) rfl rfl rfl (by decide)
theorem dX11_befriend_27 : decode cX11_befriend 27 = .ok (.iconst (-1), 1) := op_2 kcX11_befriend (Nat.le_of_ble_eq_true rfl) rfl
theorem dX11_befriend_28 : decode cX11_befriend 28 = .ok (.ireturn, 1) := op_172 kcX11_befriend (Nat.le_of_ble_eq_true rfl) rfl
theorem dX11_befriend_29 : decode cX11_befriend 29 = .ok (.aload_n 0, 1) := op_42 kcX11_befriend (Nat.le_of_ble_eq_true rfl) rfl
theorem dX11_befriend_30 : decode cX11_befriend 30 = .ok (.getfield 19, 3) := op_180 (a := 0) (b := 19) kcX11_befriend (Nat.le_of_ble_eq_true rfl) rfl rfl rfl
theorem dX11_befriend_33 : decode cX11_befriend 33 = .ok (.iload_n 1, 1) := op_27 kcX11_befriend (Nat.le_of_ble_eq_true rfl) rfl
theorem dX11_befriend_34 : decode cX11_befriend 34 = .ok (.iload_n 2, 1) := op_28 kcX11_befriend (Nat.le_of_ble_eq_true rfl) rfl
theorem dX11_befriend_35 : decode cX11_befriend 35 = .ok (.invokevirtual 172, 3) := op_182 (a := 0) (b := 172) kcX11_befriend (Nat.le_of_ble_eq_true rfl) rfl rfl rfl
theorem dX11_befriend_38 : decode cX11_befriend 38 = .ok (.ifCond .eq 7, 3) := op_153 (a := 0) (b := 7) kcX11_befriend (Nat.le_of_ble_eq_true rfl) rfl rfl rfl (by decide)
theorem dX11_befriend_41 : decode cX11_befriend 41 = .ok (.iconst 1, 1) := op_4 kcX11_befriend (Nat.le_of_ble_eq_true rfl) rfl
theorem dX11_befriend_42 : decode cX11_befriend 42 = .ok (.goto 4, 3) := op_167 (a := 0) (b := 4) kcX11_befriend (Nat.le_of_ble_eq_true rfl) rfl rfl rfl (by decide)
theorem dX11_befriend_45 : decode cX11_befriend 45 = .ok (.iconst 0, 1) := op_3 kcX11_befriend (Nat.le_of_ble_eq_true rfl) rfl
theorem dX11_befriend_46 : decode cX11_befriend 46 = .ok (.istore 4, 2) := op_54 (a := 4) kcX11_befriend (Nat.le_of_ble_eq_true rfl) rfl rfl
theorem dX11_befriend_48 : decode cX11_befriend 48 = .ok (.aload_n 0, 1) := op_42 kcX11_befriend (Nat.le_of_ble_eq_true rfl) rfl
theorem dX11_befriend_49 : decode cX11_befriend 49 = .ok (.getfield 19, 3) := op_180 (a := 0) (b := 19) kcX11_befriend (Nat.le_of_ble_eq_true rfl) rfl rfl rfl
theorem dX11_befriend_52 : decode cX11_befriend 52 = .ok (.iload_n 1, 1) := op_27 kcX11_befriend (Nat.le_of_ble_eq_true rfl) rfl
theorem dX11_befriend_53 : decode cX11_befriend 53 = .ok (.iload_n 2, 1) := op_28 kcX11_befriend (Nat.le_of_ble_eq_true rfl) rfl
theorem dX11_befriend_54 : decode cX11_befriend 54 = .ok (.iload_n 3, 1) := op_29 kcX11_befriend (Nat.le_of_ble_eq_true rfl) rfl
theorem dX11_befriend_55 : decode cX11_befriend 55 = .ok (.invokevirtual 176, 3) := op_182 (a := 0) (b := 176) kcX11_befriend (Nat.le_of_ble_eq_true rfl) rfl rfl rfl
theorem dX11_befriend_58 : decode cX11_befriend 58 = .ok (.iload 4, 2) := op_21 (a := 4) kcX11_befriend (Nat.le_of_ble_eq_true rfl) rfl rfl
theorem dX11_befriend_60 : decode cX11_befriend 60 = .ok (.ireturn, 1) := op_172 kcX11_befriend (Nat.le_of_ble_eq_true rfl) rfl
set_option maxRecDepth 20000 in
theorem ggX11_spoon_X6_hasSeat : GoodIn wsX11_spoon wsX6_hasSeat := goodIn_r _ [8, 9, 34, 35, 36, 37, 38, 39, 40] rfl gw_wsX6_hasSeat
set_option maxRecDepth 20000 in
theorem gX11_spoon_X6_hasSeat : GoodIn wsX11_spoon (wsV RX11 145 RX6 yX6_hasSeat wsX6_hasSeat) := goodIn_app (goodIn_of _ (by decide +kernel)) ggX11_spoon_X6_hasSeat
theorem kcX11_spoon : (cX11_spoon).data.toList = cbs 0xac1d4f1c1b9c00b41300b42a3e2e1b9c00b41300b42aac020500a409101c0900a1041c0e00999100b61b0a00b42a 46 := by decide +kernel
theorem dX11_spoon_0 : decode cX11_spoon 0 = .ok (.aload_n 0, 1) := op_42 kcX11_spoon (Nat.le_of_ble_eq_true rfl) rfl
theorem dX11_spoon_1 : decode cX11_spoon 1 = .ok (.getfield 10, 3) := op_180 (a := 0) (b := 10) kcX11_spoon (Nat.le_of_ble_eq_true rfl) rfl rfl rfl
theorem dX11_spoon_4 : decode cX11_spoon 4 = .ok (.iload_n 1, 1) := op_27 kcX11_spoon (Nat.le_of_ble_eq_true rfl) rfl
theorem dX11_spoon_5 : decode cX11_spoon 5 = .ok (.invokevirtual 145, 3) := op_182 (a := 0) (b := 145) kcX11_spoon (Nat.le_of_ble_eq_true rfl) rfl rfl rfl
theorem dX11_spoon_8 : decode cX11_spoon 8 = .ok (.ifCond .eq 14, 3) := op_153 (a := 0) (b := 14) kcX11_spoon (Nat.le_of_ble_eq_true rfl) rfl rfl rfl (by decide)
theorem dX11_spoon_11 : decode cX11_spoon 11 = .ok (.iload_n 2, 1) := op_28 kcX11_spoon (Nat.le_of_ble_eq_true rfl) rfl
theorem dX11_spoon_12 : decode cX11_spoon 12 = .ok (.iconst 1, 1) := op_4 kcX11_spoon (Nat.le_of_ble_eq_true rfl) rfl
theorem dX11_spoon_13 : decode cX11_spoon 13 = .ok (.if_icmp .lt 9, 3) := op_161 (a := 0) (b := 9) kcX11_spoon (Nat.le_of_ble_eq_true rfl) rfl rfl rfl (by decide)
theorem dX11_spoon_16 : decode cX11_spoon 16 = .ok (.iload_n 2, 1) := op_28 kcX11_spoon (Nat.le_of_ble_eq_true rfl) rfl
theorem dX11_spoon_17 : decode cX11_spoon 17 = .ok (.bipush 9, 2) := op_16 (a := 9) kcX11_spoon (Nat.le_of_ble_eq_true rfl) rfl rfl (by decide)
theorem dX11_spoon_19 : decode cX11_spoon 19 = .ok (.if_icmp .le 5, 3) := op_164 (a := 0) (b := 5) kcX11_spoon (Nat.le_of_ble_eq_true rfl) rfl rfl rfl (by decide)
theorem dX11_spoon_22 : decode cX11_spoon 22 = .ok (.iconst (-1), 1) := op_2 kcX11_spoon (Nat.le_of_ble_eq_true rfl) rfl
theorem dX11_spoon_23 : decode cX11_spoon 23 = .ok (.ireturn, 1) := op_172 kcX11_spoon (Nat.le_of_ble_eq_true rfl) rfl
theorem dX11_spoon_24 : decode cX11_spoon 24 = .ok (.aload_n 0, 1) := op_42 kcX11_spoon (Nat.le_of_ble_eq_true rfl) rfl
theorem dX11_spoon_25 : decode cX11_spoon 25 = .ok (.getfield 19, 3) := op_180 (a := 0) (b := 19) kcX11_spoon (Nat.le_of_ble_eq_true rfl) rfl rfl rfl
theorem dX11_spoon_28 : decode cX11_spoon 28 = .ok (.getfield 156, 3) := op_180 (a := 0) (b := 156) kcX11_spoon (Nat.le_of_ble_eq_true rfl) rfl rfl rfl
theorem dX11_spoon_31 : decode cX11_spoon 31 = .ok (.iload_n 1, 1) := op_27 kcX11_spoon (Nat.le_of_ble_eq_true rfl) rfl
theorem dX11_spoon_32 : decode cX11_spoon 32 = .ok (.iaload, 1) := op_46 kcX11_spoon (Nat.le_of_ble_eq_true rfl) rfl
theorem dX11_spoon_33 : decode cX11_spoon 33 = .ok (.istore_n 3, 1) := op_62 kcX11_spoon (Nat.le_of_ble_eq_true rfl) rfl
theorem dX11_spoon_34 : decode cX11_spoon 34 = .ok (.aload_n 0, 1) := op_42 kcX11_spoon (Nat.le_of_ble_eq_true rfl) rfl
theorem dX11_spoon_35 : decode cX11_spoon 35 = .ok (.getfield 19, 3) := op_180 (a := 0) (b := 19) kcX11_spoon (Nat.le_of_ble_eq_true rfl) rfl rfl rfl
theorem dX11_spoon_38 : decode cX11_spoon 38 = .ok (.getfield 156, 3) := op_180 (a := 0) (b := 156) kcX11_spoon (Nat.le_of_ble_eq_true rfl) rfl rfl rfl
theorem dX11_spoon_41 : decode cX11_spoon 41 = .ok (.iload_n 1, 1) := op_27 kcX11_spoon (Nat.le_of_ble_eq_true rfl) rfl
theorem dX11_spoon_42 : decode cX11_spoon 42 = .ok (.iload_n 2, 1) := op_28 kcX11_spoon (Nat.le_of_ble_eq_true rfl) rfl
theorem dX11_spoon_43 : decode cX11_spoon 43 = .ok (.iastore, 1) := op_79 kcX11_spoon (Nat.le_of_ble_eq_true rfl) rfl
theorem dX11_spoon_44 : decode cX11_spoon 44 = .ok (.iload_n 3, 1) := op_29 kcX11_spoon (Nat.le_of_ble_eq_true rfl) rfl
theorem dX11_spoon_45 : decode cX11_spoon 45 = .ok (.ireturn, 1) := op_172 kcX11_spoon (Nat.le_of_ble_eq_true rfl) rfl
set_option maxRecDepth 20000 in
theorem ggX11_crown_X6_hasSeat : GoodIn wsX11_crown wsX6_hasSeat := goodIn_r _ [8, 9, 34, 35, 36, 37, 38, 39, 40] rfl gw_wsX6_hasSeat
set_option maxRecDepth 20000 in
theorem gX11_crown_X6_hasSeat : GoodIn wsX11_crown (wsV RX11 145 RX6 yX6_hasSeat wsX6_hasSeat) := goodIn_app (goodIn_of _ (by decide +kernel)) ggX11_crown_X6_hasSeat
theorem kcX11_crown : (cX11_crown).data.toList = cbs 0xac1c8800b51b1300b42a3d8800b41300b42aac0205009a9100b61b0a00b42a 31 := by decide +kernel
theorem dX11_crown_0 : decode cX11_crown 0 = .ok (.aload_n 0, 1) := op_42 kcX11_crown (Nat.le_of_ble_eq_true rfl) rfl
theorem dX11_crown_1 : decode cX11_crown 1 = .ok (.getfield 10, 3) := op_180 (a := 0) (b := 10) kcX11_crown (Nat.le_of_ble_eq_true rfl) rfl rfl rfl
theorem dX11_crown_4 : decode cX11_crown 4 = .ok (.iload_n 1, 1) := op_27 kcX11_crown (Nat.le_of_ble_eq_true rfl) rfl
theorem dX11_crown_5 : decode cX11_crown 5 = .ok (.invokevirtual 145, 3) := op_182 (a := 0) (b := 145) kcX11_crown (Nat.le_of_ble_eq_true rfl) rfl rfl rfl
theorem dX11_crown_8 : decode cX11_crown 8 = .ok (.ifCond .ne 5, 3) := op_154 (a := 0) (b := 5) kcX11_crown (Nat.le_of_ble_eq_true rfl) rfl rfl rfl (by decide)
theorem dX11_crown_11 : decode cX11_crown 11 = .ok (.iconst (-1), 1) := op_2 kcX11_crown (Nat.le_of_ble_eq_true rfl) rfl
theorem dX11_crown_12 : decode cX11_crown 12 = .ok (.ireturn, 1) := op_172 kcX11_crown (Nat.le_of_ble_eq_true rfl) rfl
theorem dX11_crown_13 : decode cX11_crown 13 = .ok (.aload_n 0, 1) := op_42 kcX11_crown (Nat.le_of_ble_eq_true rfl) rfl
theorem dX11_crown_14 : decode cX11_crown 14 = .ok (.getfield 19, 3) := op_180 (a := 0) (b := 19) kcX11_crown (Nat.le_of_ble_eq_true rfl) rfl rfl rfl
theorem dX11_crown_17 : decode cX11_crown 17 = .ok (.getfield 136, 3) := op_180 (a := 0) (b := 136) kcX11_crown (Nat.le_of_ble_eq_true rfl) rfl rfl rfl
theorem dX11_crown_20 : decode cX11_crown 20 = .ok (.istore_n 2, 1) := op_61 kcX11_crown (Nat.le_of_ble_eq_true rfl) rfl
theorem dX11_crown_21 : decode cX11_crown 21 = .ok (.aload_n 0, 1) := op_42 kcX11_crown (Nat.le_of_ble_eq_true rfl) rfl
theorem dX11_crown_22 : decode cX11_crown 22 = .ok (.getfield 19, 3) := op_180 (a := 0) (b := 19) kcX11_crown (Nat.le_of_ble_eq_true rfl) rfl rfl rfl
theorem dX11_crown_25 : decode cX11_crown 25 = .ok (.iload_n 1, 1) := op_27 kcX11_crown (Nat.le_of_ble_eq_true rfl) rfl
theorem dX11_crown_26 : decode cX11_crown 26 = .ok (.putfield 136, 3) := op_181 (a := 0) (b := 136) kcX11_crown (Nat.le_of_ble_eq_true rfl) rfl rfl rfl
theorem dX11_crown_29 : decode cX11_crown 29 = .ok (.iload_n 2, 1) := op_28 kcX11_crown (Nat.le_of_ble_eq_true rfl) rfl
theorem dX11_crown_30 : decode cX11_crown 30 = .ok (.ireturn, 1) := op_172 kcX11_crown (Nat.le_of_ble_eq_true rfl) rfl
set_option maxRecDepth 20000 in
theorem ggX11_fill_X6_hasSeat : GoodIn wsX11_fill wsX6_hasSeat := goodIn_r _ [8, 9, 34, 35, 36, 37, 38, 39, 40] rfl gw_wsX6_hasSeat
set_option maxRecDepth 20000 in
theorem gX11_fill_X6_hasSeat : GoodIn wsX11_fill (wsV RX11 145 RX6 yX6_hasSeat wsX6_hasSeat) := goodIn_app (goodIn_of _ (by decide +kernel)) ggX11_fill_X6_hasSeat
theorem kcX11_fill : (cX11_fill).data.toList = cbs 0xac1d4f1c1b9500b41300b42a3e2e1b9500b41300b42aac020500a409101c09009b1c0d00999100b61b0a00b42a 45 := by decide +kernel
theorem dX11_fill_0 : decode cX11_fill 0 = .ok (.aload_n 0, 1) := op_42 kcX11_fill (Nat.le_of_ble_eq_true rfl) rfl
theorem dX11_fill_1 : decode cX11_fill 1 = .ok (.getfield 10, 3) := op_180 (a := 0) (b := 10) kcX11_fill (Nat.le_of_ble_eq_true rfl) rfl rfl rfl
theorem dX11_fill_4 : decode cX11_fill 4 = .ok (.iload_n 1, 1) := op_27 kcX11_fill (Nat.le_of_ble_eq_true rfl) rfl
theorem dX11_fill_5 : decode cX11_fill 5 = .ok (.invokevirtual 145, 3) := op_182 (a := 0) (b := 145) kcX11_fill (Nat.le_of_ble_eq_true rfl) rfl rfl rfl
theorem dX11_fill_8 : decode cX11_fill 8 = .ok (.ifCond .eq 13, 3) := op_153 (a := 0) (b := 13) kcX11_fill (Nat.le_of_ble_eq_true rfl) rfl rfl rfl (by decide)
theorem dX11_fill_11 : decode cX11_fill 11 = .ok (.iload_n 2, 1) := op_28 kcX11_fill (Nat.le_of_ble_eq_true rfl) rfl
theorem dX11_fill_12 : decode cX11_fill 12 = .ok (.ifCond .lt 9, 3) := op_155 (a := 0) (b := 9) kcX11_fill (Nat.le_of_ble_eq_true rfl) rfl rfl rfl (by decide)
theorem dX11_fill_15 : decode cX11_fill 15 = .ok (.iload_n 2, 1) := op_28 kcX11_fill (Nat.le_of_ble_eq_true rfl) rfl
theorem dX11_fill_16 : decode cX11_fill 16 = .ok (.bipush 9, 2) := op_16 (a := 9) kcX11_fill (Nat.le_of_ble_eq_true rfl) rfl rfl (by decide)
theorem dX11_fill_18 : decode cX11_fill 18 = .ok (.if_icmp .le 5, 3) := op_164 (a := 0) (b := 5) kcX11_fill (Nat.le_of_ble_eq_true rfl) rfl rfl rfl (by decide)
theorem dX11_fill_21 : decode cX11_fill 21 = .ok (.iconst (-1), 1) := op_2 kcX11_fill (Nat.le_of_ble_eq_true rfl) rfl
theorem dX11_fill_22 : decode cX11_fill 22 = .ok (.ireturn, 1) := op_172 kcX11_fill (Nat.le_of_ble_eq_true rfl) rfl
theorem dX11_fill_23 : decode cX11_fill 23 = .ok (.aload_n 0, 1) := op_42 kcX11_fill (Nat.le_of_ble_eq_true rfl) rfl
theorem dX11_fill_24 : decode cX11_fill 24 = .ok (.getfield 19, 3) := op_180 (a := 0) (b := 19) kcX11_fill (Nat.le_of_ble_eq_true rfl) rfl rfl rfl
theorem dX11_fill_27 : decode cX11_fill 27 = .ok (.getfield 149, 3) := op_180 (a := 0) (b := 149) kcX11_fill (Nat.le_of_ble_eq_true rfl) rfl rfl rfl
theorem dX11_fill_30 : decode cX11_fill 30 = .ok (.iload_n 1, 1) := op_27 kcX11_fill (Nat.le_of_ble_eq_true rfl) rfl
theorem dX11_fill_31 : decode cX11_fill 31 = .ok (.iaload, 1) := op_46 kcX11_fill (Nat.le_of_ble_eq_true rfl) rfl
theorem dX11_fill_32 : decode cX11_fill 32 = .ok (.istore_n 3, 1) := op_62 kcX11_fill (Nat.le_of_ble_eq_true rfl) rfl
theorem dX11_fill_33 : decode cX11_fill 33 = .ok (.aload_n 0, 1) := op_42 kcX11_fill (Nat.le_of_ble_eq_true rfl) rfl
theorem dX11_fill_34 : decode cX11_fill 34 = .ok (.getfield 19, 3) := op_180 (a := 0) (b := 19) kcX11_fill (Nat.le_of_ble_eq_true rfl) rfl rfl rfl
theorem dX11_fill_37 : decode cX11_fill 37 = .ok (.getfield 149, 3) := op_180 (a := 0) (b := 149) kcX11_fill (Nat.le_of_ble_eq_true rfl) rfl rfl rfl
theorem dX11_fill_40 : decode cX11_fill 40 = .ok (.iload_n 1, 1) := op_27 kcX11_fill (Nat.le_of_ble_eq_true rfl) rfl
theorem dX11_fill_41 : decode cX11_fill 41 = .ok (.iload_n 2, 1) := op_28 kcX11_fill (Nat.le_of_ble_eq_true rfl) rfl
theorem dX11_fill_42 : decode cX11_fill 42 = .ok (.iastore, 1) := op_79 kcX11_fill (Nat.le_of_ble_eq_true rfl) rfl
theorem dX11_fill_43 : decode cX11_fill 43 = .ok (.iload_n 3, 1) := op_29 kcX11_fill (Nat.le_of_ble_eq_true rfl) rfl
theorem dX11_fill_44 : decode cX11_fill 44 = .ok (.ireturn, 1) := op_172 kcX11_fill (Nat.le_of_ble_eq_true rfl) rfl
set_option maxRecDepth 20000 in
theorem ggX11_bowl_X6_hasSeat : GoodIn wsX11_bowl wsX6_hasSeat := goodIn_r _ [7, 8, 72, 73, 74, 75, 76, 77, 78] rfl gw_wsX6_hasSeat
set_option maxRecDepth 20000 in
theorem gX11_bowl_X6_hasSeat : GoodIn wsX11_bowl (wsV RX11 145 RX6 yX6_hasSeat wsX6_hasSeat) := goodIn_app (goodIn_of _ (by decide +kernel)) ggX11_bowl_X6_hasSeat
set_option maxRecDepth 20000 in
theorem ggX11_bowl_X6_hasStir : GoodIn wsX11_bowl wsX6_hasStir := goodIn_r _ [12, 13, 72, 73, 74, 75, 76, 77, 78] rfl gw_wsX6_hasStir
set_option maxRecDepth 20000 in
theorem gX11_bowl_X6_hasStir : GoodIn wsX11_bowl (wsV RX11 165 RX6 yX6_hasStir wsX6_hasStir) := goodIn_app (goodIn_of _ (by decide +kernel)) ggX11_bowl_X6_hasStir
set_option maxRecDepth 20000 in
theorem ggX11_bowl_X2_serve : GoodIn wsX11_bowl wsX2_serve := goodIn_r _ [18, 19, 20, 21, 22, 23, 24, 25, 26, 6, 27, 8, 28, 29, 30, 31, 32, 33, 79, 80, 81, 82, 83, 72, 73, 74, 75, 76, 77, 78, 84, 85, 86, 87, 88, 89, 90, 91, 92] rfl gw_wsX2_serve
set_option maxRecDepth 20000 in
theorem gX11_bowl_X2_serve : GoodIn wsX11_bowl (wsV RX11 180 RX2 yX2_serve wsX2_serve) := goodIn_app (goodIn_of _ (by decide +kernel)) ggX11_bowl_X2_serve
set_option maxRecDepth 20000 in
theorem ggX11_bowl_X2_stirPot : GoodIn wsX11_bowl wsX2_stirPot := goodIn_r _ [37, 19, 21, 38, 39, 40, 41, 42, 6, 43, 8, 44, 45, 46, 47, 48, 79, 80, 81, 82, 83, 84, 85, 86, 87, 88, 89, 90, 91, 92, 72, 73, 74, 75, 76, 77, 78] rfl gw_wsX2_stirPot
set_option maxRecDepth 20000 in
theorem gX11_bowl_X2_stirPot : GoodIn wsX11_bowl (wsV RX11 184 RX2 yX2_stirPot wsX2_stirPot) := goodIn_app (goodIn_of _ (by decide +kernel)) ggX11_bowl_X2_stirPot
set_option maxRecDepth 20000 in
theorem ggX11_bowl_X2_bowlOf : GoodIn wsX11_bowl wsX2_bowlOf := goodIn_r _ [52, 39, 53, 54, 55, 17, 56, 22, 79, 80, 81, 82, 83] rfl gw_wsX2_bowlOf
set_option maxRecDepth 20000 in
theorem gX11_bowl_X2_bowlOf : GoodIn wsX11_bowl (wsV RX11 187 RX2 yX2_bowlOf wsX2_bowlOf) := goodIn_app (goodIn_of _ (by decide +kernel)) ggX11_bowl_X2_bowlOf
theorem kcX11_bowl : (cX11_bowl).data.toList = cbs 0xacbb00b61c1b2c00b42ab800b61d2c00b42ab400b61b2c00b42aac0205009aa500b61d0a00b42a0e00999100b61c0a00b42a1900999100b61b0a00b42a 61 := by decide +kernel
theorem dX11_bowl_0 : decode cX11_bowl 0 = .ok (.aload_n 0, 1) := op_42 kcX11_bowl (Nat.le_of_ble_eq_true rfl) rfl
theorem dX11_bowl_1 : decode cX11_bowl 1 = .ok (.getfield 10, 3) := op_180 (a := 0) (b := 10) kcX11_bowl (Nat.le_of_ble_eq_true rfl) rfl rfl rfl
theorem dX11_bowl_4 : decode cX11_bowl 4 = .ok (.iload_n 1, 1) := op_27 kcX11_bowl (Nat.le_of_ble_eq_true rfl) rfl
theorem dX11_bowl_5 : decode cX11_bowl 5 = .ok (.invokevirtual 145, 3) := op_182 (a := 0) (b := 145) kcX11_bowl (Nat.le_of_ble_eq_true rfl) rfl rfl rfl
theorem dX11_bowl_8 : decode cX11_bowl 8 = .ok (.ifCond .eq 25, 3) := op_153 (a := 0) (b := 25) kcX11_bowl (Nat.le_of_ble_eq_true rfl) rfl rfl rfl (by decide)
theorem dX11_bowl_11 : decode cX11_bowl 11 = .ok (.aload_n 0, 1) := op_42 kcX11_bowl (Nat.le_of_ble_eq_true rfl) rfl
theorem dX11_bowl_12 : decode cX11_bowl 12 = .ok (.getfield 10, 3) := op_180 (a := 0) (b := 10) kcX11_bowl (Nat.le_of_ble_eq_true rfl) rfl rfl rfl
theorem dX11_bowl_15 : decode cX11_bowl 15 = .ok (.iload_n 2, 1) := op_28 kcX11_bowl (Nat.le_of_ble_eq_true rfl) rfl
theorem dX11_bowl_16 : decode cX11_bowl 16 = .ok (.invokevirtual 145, 3) := op_182 (a := 0) (b := 145) kcX11_bowl (Nat.le_of_ble_eq_true rfl) rfl rfl rfl
theorem dX11_bowl_19 : decode cX11_bowl 19 = .ok (.ifCond .eq 14, 3) := op_153 (a := 0) (b := 14) kcX11_bowl (Nat.le_of_ble_eq_true rfl) rfl rfl rfl (by decide)
theorem dX11_bowl_22 : decode cX11_bowl 22 = .ok (.aload_n 0, 1) := op_42 kcX11_bowl (Nat.le_of_ble_eq_true rfl) rfl
theorem dX11_bowl_23 : decode cX11_bowl 23 = .ok (.getfield 10, 3) := op_180 (a := 0) (b := 10) kcX11_bowl (Nat.le_of_ble_eq_true rfl) rfl rfl rfl
theorem dX11_bowl_26 : decode cX11_bowl 26 = .ok (.iload_n 3, 1) := op_29 kcX11_bowl (Nat.le_of_ble_eq_true rfl) rfl
theorem dX11_bowl_27 : decode cX11_bowl 27 = .ok (.invokevirtual 165, 3) := op_182 (a := 0) (b := 165) kcX11_bowl (Nat.le_of_ble_eq_true rfl) rfl rfl rfl
theorem dX11_bowl_30 : decode cX11_bowl 30 = .ok (.ifCond .ne 5, 3) := op_154 (a := 0) (b := 5) kcX11_bowl (Nat.le_of_ble_eq_true rfl) rfl rfl rfl (by decide)
theorem dX11_bowl_33 : decode cX11_bowl 33 = .ok (.iconst (-1), 1) := op_2 kcX11_bowl (Nat.le_of_ble_eq_true rfl) rfl
theorem dX11_bowl_34 : decode cX11_bowl 34 = .ok (.ireturn, 1) := op_172 kcX11_bowl (Nat.le_of_ble_eq_true rfl) rfl
theorem dX11_bowl_35 : decode cX11_bowl 35 = .ok (.aload_n 0, 1) := op_42 kcX11_bowl (Nat.le_of_ble_eq_true rfl) rfl
theorem dX11_bowl_36 : decode cX11_bowl 36 = .ok (.getfield 44, 3) := op_180 (a := 0) (b := 44) kcX11_bowl (Nat.le_of_ble_eq_true rfl) rfl rfl rfl
theorem dX11_bowl_39 : decode cX11_bowl 39 = .ok (.iload_n 1, 1) := op_27 kcX11_bowl (Nat.le_of_ble_eq_true rfl) rfl
theorem dX11_bowl_40 : decode cX11_bowl 40 = .ok (.invokevirtual 180, 3) := op_182 (a := 0) (b := 180) kcX11_bowl (Nat.le_of_ble_eq_true rfl) rfl rfl rfl
theorem dX11_bowl_43 : decode cX11_bowl 43 = .ok (.aload_n 0, 1) := op_42 kcX11_bowl (Nat.le_of_ble_eq_true rfl) rfl
theorem dX11_bowl_44 : decode cX11_bowl 44 = .ok (.getfield 44, 3) := op_180 (a := 0) (b := 44) kcX11_bowl (Nat.le_of_ble_eq_true rfl) rfl rfl rfl
theorem dX11_bowl_47 : decode cX11_bowl 47 = .ok (.iload_n 3, 1) := op_29 kcX11_bowl (Nat.le_of_ble_eq_true rfl) rfl
theorem dX11_bowl_48 : decode cX11_bowl 48 = .ok (.invokevirtual 184, 3) := op_182 (a := 0) (b := 184) kcX11_bowl (Nat.le_of_ble_eq_true rfl) rfl rfl rfl
theorem dX11_bowl_51 : decode cX11_bowl 51 = .ok (.aload_n 0, 1) := op_42 kcX11_bowl (Nat.le_of_ble_eq_true rfl) rfl
theorem dX11_bowl_52 : decode cX11_bowl 52 = .ok (.getfield 44, 3) := op_180 (a := 0) (b := 44) kcX11_bowl (Nat.le_of_ble_eq_true rfl) rfl rfl rfl
theorem dX11_bowl_55 : decode cX11_bowl 55 = .ok (.iload_n 1, 1) := op_27 kcX11_bowl (Nat.le_of_ble_eq_true rfl) rfl
theorem dX11_bowl_56 : decode cX11_bowl 56 = .ok (.iload_n 2, 1) := op_28 kcX11_bowl (Nat.le_of_ble_eq_true rfl) rfl
theorem dX11_bowl_57 : decode cX11_bowl 57 = .ok (.invokevirtual 187, 3) := op_182 (a := 0) (b := 187) kcX11_bowl (Nat.le_of_ble_eq_true rfl) rfl rfl rfl
theorem dX11_bowl_60 : decode cX11_bowl 60 = .ok (.ireturn, 1) := op_172 kcX11_bowl (Nat.le_of_ble_eq_true rfl) rfl
set_option maxRecDepth 20000 in
theorem ggX11_ladle_X6_hasSeat : GoodIn wsX11_ladle wsX6_hasSeat := goodIn_r _ [7, 8, 53, 54, 55, 56, 57, 58, 59] rfl gw_wsX6_hasSeat
set_option maxRecDepth 20000 in
theorem gX11_ladle_X6_hasSeat : GoodIn wsX11_ladle (wsV RX11 145 RX6 yX6_hasSeat wsX6_hasSeat) := goodIn_app (goodIn_of _ (by decide +kernel)) ggX11_ladle_X6_hasSeat
set_option maxRecDepth 20000 in
theorem ggX11_ladle_X6_hasStir : GoodIn wsX11_ladle wsX6_hasStir := goodIn_r _ [12, 13, 53, 54, 55, 56, 57, 58, 59] rfl gw_wsX6_hasStir
set_option maxRecDepth 20000 in
theorem gX11_ladle_X6_hasStir : GoodIn wsX11_ladle (wsV RX11 165 RX6 yX6_hasStir wsX6_hasStir) := goodIn_app (goodIn_of _ (by decide +kernel)) ggX11_ladle_X6_hasStir
set_option maxRecDepth 20000 in
theorem ggX11_ladle_X2_serve : GoodIn wsX11_ladle wsX2_serve := goodIn_r _ [18, 19, 20, 21, 22, 23, 24, 25, 26, 6, 27, 8, 28, 29, 30, 31, 32, 33, 60, 61, 62, 63, 64, 53, 54, 55, 56, 57, 58, 59, 65, 66, 67, 68, 69, 70, 71, 72, 73] rfl gw_wsX2_serve
set_option maxRecDepth 20000 in
theorem gX11_ladle_X2_serve : GoodIn wsX11_ladle (wsV RX11 180 RX2 yX2_serve wsX2_serve) := goodIn_app (goodIn_of _ (by decide +kernel)) ggX11_ladle_X2_serve
set_option maxRecDepth 20000 in
theorem ggX11_ladle_X2_placeOf : GoodIn wsX11_ladle wsX2_placeOf := goodIn_r _ [37, 22, 60, 61, 62, 63, 64] rfl gw_wsX2_placeOf
set_option maxRecDepth 20000 in
theorem gX11_ladle_X2_placeOf : GoodIn wsX11_ladle (wsV RX11 190 RX2 yX2_placeOf wsX2_placeOf) := goodIn_app (goodIn_of _ (by decide +kernel)) ggX11_ladle_X2_placeOf
theorem kcX11_ladle : (cX11_ladle).data.toList = cbs 0xacbe00b61c1b2c00b42ab400b61b2c00b42aac0205009aa500b61d0a00b42a0e00999100b61c0a00b42a1900999100b61b0a00b42a 53 := by decide +kernel
theorem dX11_ladle_0 : decode cX11_ladle 0 = .ok (.aload_n 0, 1) := op_42 kcX11_ladle (Nat.le_of_ble_eq_true rfl) rfl
theorem dX11_ladle_1 : decode cX11_ladle 1 = .ok (.getfield 10, 3) := op_180 (a := 0) (b := 10) kcX11_ladle (Nat.le_of_ble_eq_true rfl) rfl rfl rfl
theorem dX11_ladle_4 : decode cX11_ladle 4 = .ok (.iload_n 1, 1) := op_27 kcX11_ladle (Nat.le_of_ble_eq_true rfl) rfl
theorem dX11_ladle_5 : decode cX11_ladle 5 = .ok (.invokevirtual 145, 3) := op_182 (a := 0) (b := 145) kcX11_ladle (Nat.le_of_ble_eq_true rfl) rfl rfl rfl
theorem dX11_ladle_8 : decode cX11_ladle 8 = .ok (.ifCond .eq 25, 3) := op_153 (a := 0) (b := 25) kcX11_ladle (Nat.le_of_ble_eq_true rfl) rfl rfl rfl (by decide)
theorem dX11_ladle_11 : decode cX11_ladle 11 = .ok (.aload_n 0, 1) := op_42 kcX11_ladle (Nat.le_of_ble_eq_true rfl) rfl
theorem dX11_ladle_12 : decode cX11_ladle 12 = .ok (.getfield 10, 3) := op_180 (a := 0) (b := 10) kcX11_ladle (Nat.le_of_ble_eq_true rfl) rfl rfl rfl
theorem dX11_ladle_15 : decode cX11_ladle 15 = .ok (.iload_n 2, 1) := op_28 kcX11_ladle (Nat.le_of_ble_eq_true rfl) rfl
theorem dX11_ladle_16 : decode cX11_ladle 16 = .ok (.invokevirtual 145, 3) := op_182 (a := 0) (b := 145) kcX11_ladle (Nat.le_of_ble_eq_true rfl) rfl rfl rfl
theorem dX11_ladle_19 : decode cX11_ladle 19 = .ok (.ifCond .eq 14, 3) := op_153 (a := 0) (b := 14) kcX11_ladle (Nat.le_of_ble_eq_true rfl) rfl rfl rfl (by decide)
theorem dX11_ladle_22 : decode cX11_ladle 22 = .ok (.aload_n 0, 1) := op_42 kcX11_ladle (Nat.le_of_ble_eq_true rfl) rfl
theorem dX11_ladle_23 : decode cX11_ladle 23 = .ok (.getfield 10, 3) := op_180 (a := 0) (b := 10) kcX11_ladle (Nat.le_of_ble_eq_true rfl) rfl rfl rfl
theorem dX11_ladle_26 : decode cX11_ladle 26 = .ok (.iload_n 3, 1) := op_29 kcX11_ladle (Nat.le_of_ble_eq_true rfl) rfl
theorem dX11_ladle_27 : decode cX11_ladle 27 = .ok (.invokevirtual 165, 3) := op_182 (a := 0) (b := 165) kcX11_ladle (Nat.le_of_ble_eq_true rfl) rfl rfl rfl
theorem dX11_ladle_30 : decode cX11_ladle 30 = .ok (.ifCond .ne 5, 3) := op_154 (a := 0) (b := 5) kcX11_ladle (Nat.le_of_ble_eq_true rfl) rfl rfl rfl (by decide)
theorem dX11_ladle_33 : decode cX11_ladle 33 = .ok (.iconst (-1), 1) := op_2 kcX11_ladle (Nat.le_of_ble_eq_true rfl) rfl
theorem dX11_ladle_34 : decode cX11_ladle 34 = .ok (.ireturn, 1) := op_172 kcX11_ladle (Nat.le_of_ble_eq_true rfl) rfl
theorem dX11_ladle_35 : decode cX11_ladle 35 = .ok (.aload_n 0, 1) := op_42 kcX11_ladle (Nat.le_of_ble_eq_true rfl) rfl
theorem dX11_ladle_36 : decode cX11_ladle 36 = .ok (.getfield 44, 3) := op_180 (a := 0) (b := 44) kcX11_ladle (Nat.le_of_ble_eq_true rfl) rfl rfl rfl
theorem dX11_ladle_39 : decode cX11_ladle 39 = .ok (.iload_n 1, 1) := op_27 kcX11_ladle (Nat.le_of_ble_eq_true rfl) rfl
theorem dX11_ladle_40 : decode cX11_ladle 40 = .ok (.invokevirtual 180, 3) := op_182 (a := 0) (b := 180) kcX11_ladle (Nat.le_of_ble_eq_true rfl) rfl rfl rfl
theorem dX11_ladle_43 : decode cX11_ladle 43 = .ok (.aload_n 0, 1) := op_42 kcX11_ladle (Nat.le_of_ble_eq_true rfl) rfl
theorem dX11_ladle_44 : decode cX11_ladle 44 = .ok (.getfield 44, 3) := op_180 (a := 0) (b := 44) kcX11_ladle (Nat.le_of_ble_eq_true rfl) rfl rfl rfl
theorem dX11_ladle_47 : decode cX11_ladle 47 = .ok (.iload_n 1, 1) := op_27 kcX11_ladle (Nat.le_of_ble_eq_true rfl) rfl
theorem dX11_ladle_48 : decode cX11_ladle 48 = .ok (.iload_n 2, 1) := op_28 kcX11_ladle (Nat.le_of_ble_eq_true rfl) rfl
theorem dX11_ladle_49 : decode cX11_ladle 49 = .ok (.invokevirtual 190, 3) := op_182 (a := 0) (b := 190) kcX11_ladle (Nat.le_of_ble_eq_true rfl) rfl rfl rfl
theorem dX11_ladle_52 : decode cX11_ladle 52 = .ok (.ireturn, 1) := op_172 kcX11_ladle (Nat.le_of_ble_eq_true rfl) rfl
set_option maxRecDepth 20000 in
theorem ggX11_next_X6_hasSeat : GoodIn wsX11_next wsX6_hasSeat := goodIn_r _ [9, 10, 69, 70, 71, 72, 73, 74, 75] rfl gw_wsX6_hasSeat
set_option maxRecDepth 20000 in
theorem gX11_next_X6_hasSeat : GoodIn wsX11_next (wsV RX11 145 RX6 yX6_hasSeat wsX6_hasSeat) := goodIn_app (goodIn_of _ (by decide +kernel)) ggX11_next_X6_hasSeat
set_option maxRecDepth 20000 in
theorem ggX11_next_X6_hasStir : GoodIn wsX11_next wsX6_hasStir := goodIn_r _ [14, 15, 69, 70, 71, 72, 73, 74, 75] rfl gw_wsX6_hasStir
set_option maxRecDepth 20000 in
theorem gX11_next_X6_hasStir : GoodIn wsX11_next (wsV RX11 165 RX6 yX6_hasStir wsX6_hasStir) := goodIn_app (goodIn_of _ (by decide +kernel)) ggX11_next_X6_hasStir
set_option maxRecDepth 20000 in
theorem ggX11_next_X2_serve : GoodIn wsX11_next wsX2_serve := goodIn_r _ [20, 21, 22, 23, 24, 25, 26, 27, 28, 8, 29, 10, 30, 31, 32, 33, 34, 35, 76, 77, 78, 79, 80, 69, 70, 71, 72, 73, 74, 75, 60, 61, 62, 63, 64, 65, 66, 67, 68] rfl gw_wsX2_serve
set_option maxRecDepth 20000 in
theorem gX11_next_X2_serve : GoodIn wsX11_next (wsV RX11 180 RX2 yX2_serve wsX2_serve) := goodIn_app (goodIn_of _ (by decide +kernel)) ggX11_next_X2_serve
set_option maxRecDepth 20000 in
theorem ggX11_next_X6_placeAfter : GoodIn wsX11_next wsX6_placeAfter := goodIn_r _ [39, 40, 69, 70, 71, 72, 73, 74, 75] rfl gw_wsX6_placeAfter
set_option maxRecDepth 20000 in
theorem gX11_next_X6_placeAfter : GoodIn wsX11_next (wsV RX11 168 RX6 yX6_placeAfter wsX6_placeAfter) := goodIn_app (goodIn_of _ (by decide +kernel)) ggX11_next_X6_placeAfter
set_option maxRecDepth 20000 in
theorem ggX11_next_X2_holderOf : GoodIn wsX11_next wsX2_holderOf := goodIn_r _ [44, 25, 76, 77, 78, 79, 80] rfl gw_wsX2_holderOf
set_option maxRecDepth 20000 in
theorem gX11_next_X2_holderOf : GoodIn wsX11_next (wsV RX11 193 RX2 yX2_holderOf wsX2_holderOf) := goodIn_app (goodIn_of _ (by decide +kernel)) ggX11_next_X2_holderOf
theorem kcX11_next : (cX11_next).data.toList = cbs 0xacc100b6a800b68e00b41300b42a1c0a00b42a1b2c00b42ab400b61b2c00b42aac0205009aa500b61c0a00b42a0e00999100b61b0a00b42a 56 := by decide +kernel
theorem dX11_next_0 : decode cX11_next 0 = .ok (.aload_n 0, 1) := op_42 kcX11_next (Nat.le_of_ble_eq_true rfl) rfl
theorem dX11_next_1 : decode cX11_next 1 = .ok (.getfield 10, 3) := op_180 (a := 0) (b := 10) kcX11_next (Nat.le_of_ble_eq_true rfl) rfl rfl rfl
theorem dX11_next_4 : decode cX11_next 4 = .ok (.iload_n 1, 1) := op_27 kcX11_next (Nat.le_of_ble_eq_true rfl) rfl
theorem dX11_next_5 : decode cX11_next 5 = .ok (.invokevirtual 145, 3) := op_182 (a := 0) (b := 145) kcX11_next (Nat.le_of_ble_eq_true rfl) rfl rfl rfl
theorem dX11_next_8 : decode cX11_next 8 = .ok (.ifCond .eq 14, 3) := op_153 (a := 0) (b := 14) kcX11_next (Nat.le_of_ble_eq_true rfl) rfl rfl rfl (by decide)
theorem dX11_next_11 : decode cX11_next 11 = .ok (.aload_n 0, 1) := op_42 kcX11_next (Nat.le_of_ble_eq_true rfl) rfl
theorem dX11_next_12 : decode cX11_next 12 = .ok (.getfield 10, 3) := op_180 (a := 0) (b := 10) kcX11_next (Nat.le_of_ble_eq_true rfl) rfl rfl rfl
theorem dX11_next_15 : decode cX11_next 15 = .ok (.iload_n 2, 1) := op_28 kcX11_next (Nat.le_of_ble_eq_true rfl) rfl
theorem dX11_next_16 : decode cX11_next 16 = .ok (.invokevirtual 165, 3) := op_182 (a := 0) (b := 165) kcX11_next (Nat.le_of_ble_eq_true rfl) rfl rfl rfl
theorem dX11_next_19 : decode cX11_next 19 = .ok (.ifCond .ne 5, 3) := op_154 (a := 0) (b := 5) kcX11_next (Nat.le_of_ble_eq_true rfl) rfl rfl rfl (by decide)
theorem dX11_next_22 : decode cX11_next 22 = .ok (.iconst (-1), 1) := op_2 kcX11_next (Nat.le_of_ble_eq_true rfl) rfl
theorem dX11_next_23 : decode cX11_next 23 = .ok (.ireturn, 1) := op_172 kcX11_next (Nat.le_of_ble_eq_true rfl) rfl
theorem dX11_next_24 : decode cX11_next 24 = .ok (.aload_n 0, 1) := op_42 kcX11_next (Nat.le_of_ble_eq_true rfl) rfl
theorem dX11_next_25 : decode cX11_next 25 = .ok (.getfield 44, 3) := op_180 (a := 0) (b := 44) kcX11_next (Nat.le_of_ble_eq_true rfl) rfl rfl rfl
theorem dX11_next_28 : decode cX11_next 28 = .ok (.iload_n 1, 1) := op_27 kcX11_next (Nat.le_of_ble_eq_true rfl) rfl
theorem dX11_next_29 : decode cX11_next 29 = .ok (.invokevirtual 180, 3) := op_182 (a := 0) (b := 180) kcX11_next (Nat.le_of_ble_eq_true rfl) rfl rfl rfl
theorem dX11_next_32 : decode cX11_next 32 = .ok (.aload_n 0, 1) := op_42 kcX11_next (Nat.le_of_ble_eq_true rfl) rfl
theorem dX11_next_33 : decode cX11_next 33 = .ok (.getfield 44, 3) := op_180 (a := 0) (b := 44) kcX11_next (Nat.le_of_ble_eq_true rfl) rfl rfl rfl
theorem dX11_next_36 : decode cX11_next 36 = .ok (.iload_n 1, 1) := op_27 kcX11_next (Nat.le_of_ble_eq_true rfl) rfl
theorem dX11_next_37 : decode cX11_next 37 = .ok (.aload_n 0, 1) := op_42 kcX11_next (Nat.le_of_ble_eq_true rfl) rfl
theorem dX11_next_38 : decode cX11_next 38 = .ok (.getfield 10, 3) := op_180 (a := 0) (b := 10) kcX11_next (Nat.le_of_ble_eq_true rfl) rfl rfl rfl
theorem dX11_next_41 : decode cX11_next 41 = .ok (.iload_n 2, 1) := op_28 kcX11_next (Nat.le_of_ble_eq_true rfl) rfl
theorem dX11_next_42 : decode cX11_next 42 = .ok (.aload_n 0, 1) := op_42 kcX11_next (Nat.le_of_ble_eq_true rfl) rfl
theorem dX11_next_43 : decode cX11_next 43 = .ok (.getfield 19, 3) := op_180 (a := 0) (b := 19) kcX11_next (Nat.le_of_ble_eq_true rfl) rfl rfl rfl
theorem dX11_next_46 : decode cX11_next 46 = .ok (.getfield 142, 3) := op_180 (a := 0) (b := 142) kcX11_next (Nat.le_of_ble_eq_true rfl) rfl rfl rfl
theorem dX11_next_49 : decode cX11_next 49 = .ok (.invokevirtual 168, 3) := op_182 (a := 0) (b := 168) kcX11_next (Nat.le_of_ble_eq_true rfl) rfl rfl rfl
theorem dX11_next_52 : decode cX11_next 52 = .ok (.invokevirtual 193, 3) := op_182 (a := 0) (b := 193) kcX11_next (Nat.le_of_ble_eq_true rfl) rfl rfl rfl
theorem dX11_next_55 : decode cX11_next 55 = .ok (.ireturn, 1) := op_172 kcX11_next (Nat.le_of_ble_eq_true rfl) rfl
set_option maxRecDepth 20000 in
theorem ggX11_day_X6_hasStir : GoodIn wsX11_day wsX6_hasStir := goodIn_r _ [10, 11, 97, 98, 99, 100, 101, 102, 103] rfl gw_wsX6_hasStir
set_option maxRecDepth 20000 in
theorem gX11_day_X6_hasStir : GoodIn wsX11_day (wsV RX11 165 RX6 yX6_hasStir wsX6_hasStir) := goodIn_app (goodIn_of _ (by decide +kernel)) ggX11_day_X6_hasStir
set_option maxRecDepth 20000 in
theorem gw_wsX2_passDay : (wsX2_passDay).all goodWord = true := by decide +kernel
set_option maxRecDepth 20000 in
theorem ggX11_day_X2_passDay : GoodIn wsX11_day wsX2_passDay := goodIn_r _ [16, 17, 18, 19, 20, 21, 22, 23, 24, 25, 26, 27, 28, 29, 30, 31, 32, 15, 33, 34, 35, 36, 37, 38, 9, 39, 40, 41, 42, 43, 44, 45, 46, 47, 48, 49, 50, 51, 52, 53, 54, 55, 56, 57, 58, 59, 60, 61, 62, 63, 64, 65, 66, 67, 68, 69, 70, 71, 72, 104, 105, 106, 107, 108, 88, 89, 90, 91, 92, 93, 94, 95, 96, 97, 98, 99, 100, 101, 102, 103] rfl gw_wsX2_passDay
set_option maxRecDepth 20000 in
theorem gX11_day_X2_passDay : GoodIn wsX11_day (wsV RX11 196 RX2 yX2_passDay wsX2_passDay) := goodIn_app (goodIn_of _ (by decide +kernel)) ggX11_day_X2_passDay
theorem kcX11_day : (cX11_day).data.toList = cbs 0xac8800b41300b42ac400b61b2c00b42aacfd100600a1e703118b00b41300b42aac0205009aa500b61b0a00b42a 45 := by decide +kernel
theorem dX11_day_0 : decode cX11_day 0 = .ok (.aload_n 0, 1) := op_42 kcX11_day (Nat.le_of_ble_eq_true rfl) rfl
theorem dX11_day_1 : decode cX11_day 1 = .ok (.getfield 10, 3) := op_180 (a := 0) (b := 10) kcX11_day (Nat.le_of_ble_eq_true rfl) rfl rfl rfl
theorem dX11_day_4 : decode cX11_day 4 = .ok (.iload_n 1, 1) := op_27 kcX11_day (Nat.le_of_ble_eq_true rfl) rfl
theorem dX11_day_5 : decode cX11_day 5 = .ok (.invokevirtual 165, 3) := op_182 (a := 0) (b := 165) kcX11_day (Nat.le_of_ble_eq_true rfl) rfl rfl rfl
theorem dX11_day_8 : decode cX11_day 8 = .ok (.ifCond .ne 5, 3) := op_154 (a := 0) (b := 5) kcX11_day (Nat.le_of_ble_eq_true rfl) rfl rfl rfl (by decide)
theorem dX11_day_11 : decode cX11_day 11 = .ok (.iconst (-1), 1) := op_2 kcX11_day (Nat.le_of_ble_eq_true rfl) rfl
theorem dX11_day_12 : decode cX11_day 12 = .ok (.ireturn, 1) := op_172 kcX11_day (Nat.le_of_ble_eq_true rfl) rfl
theorem dX11_day_13 : decode cX11_day 13 = .ok (.aload_n 0, 1) := op_42 kcX11_day (Nat.le_of_ble_eq_true rfl) rfl
theorem dX11_day_14 : decode cX11_day 14 = .ok (.getfield 19, 3) := op_180 (a := 0) (b := 19) kcX11_day (Nat.le_of_ble_eq_true rfl) rfl rfl rfl
theorem dX11_day_17 : decode cX11_day 17 = .ok (.getfield 139, 3) := op_180 (a := 0) (b := 139) kcX11_day (Nat.le_of_ble_eq_true rfl) rfl rfl rfl
theorem dX11_day_20 : decode cX11_day 20 = .ok (.sipush 999, 3) := by decide +kernel
theorem dX11_day_23 : decode cX11_day 23 = .ok (.if_icmp .lt 6, 3) := op_161 (a := 0) (b := 6) kcX11_day (Nat.le_of_ble_eq_true rfl) rfl rfl rfl (by decide)
theorem dX11_day_26 : decode cX11_day 26 = .ok (.bipush (-3), 2) := op_16 (a := 253) kcX11_day (Nat.le_of_ble_eq_true rfl) rfl rfl (by decide)
theorem dX11_day_28 : decode cX11_day 28 = .ok (.ireturn, 1) := op_172 kcX11_day (Nat.le_of_ble_eq_true rfl) rfl
theorem dX11_day_29 : decode cX11_day 29 = .ok (.aload_n 0, 1) := op_42 kcX11_day (Nat.le_of_ble_eq_true rfl) rfl
theorem dX11_day_30 : decode cX11_day 30 = .ok (.getfield 44, 3) := op_180 (a := 0) (b := 44) kcX11_day (Nat.le_of_ble_eq_true rfl) rfl rfl rfl
theorem dX11_day_33 : decode cX11_day 33 = .ok (.iload_n 1, 1) := op_27 kcX11_day (Nat.le_of_ble_eq_true rfl) rfl
theorem dX11_day_34 : decode cX11_day 34 = .ok (.invokevirtual 196, 3) := op_182 (a := 0) (b := 196) kcX11_day (Nat.le_of_ble_eq_true rfl) rfl rfl rfl
theorem dX11_day_37 : decode cX11_day 37 = .ok (.aload_n 0, 1) := op_42 kcX11_day (Nat.le_of_ble_eq_true rfl) rfl
theorem dX11_day_38 : decode cX11_day 38 = .ok (.getfield 19, 3) := op_180 (a := 0) (b := 19) kcX11_day (Nat.le_of_ble_eq_true rfl) rfl rfl rfl
theorem dX11_day_41 : decode cX11_day 41 = .ok (.getfield 136, 3) := op_180 (a := 0) (b := 136) kcX11_day (Nat.le_of_ble_eq_true rfl) rfl rfl rfl
theorem dX11_day_44 : decode cX11_day 44 = .ok (.ireturn, 1) := op_172 kcX11_day (Nat.le_of_ble_eq_true rfl) rfl
theorem kcX11_hungry : (cX11_hungry).data.toList = cbs 0xac1bcfffa70102843c80781c041b0900a2688b00b41300b42a2e1c9f00b40a00b42a2e1ca200b41300b42a2c00a28200b40a00b42a1c3d033c03 58 := by decide +kernel
theorem dX11_hungry_0 : decode cX11_hungry 0 = .ok (.iconst 0, 1) := op_3 kcX11_hungry (Nat.le_of_ble_eq_true rfl) rfl
theorem dX11_hungry_1 : decode cX11_hungry 1 = .ok (.istore_n 1, 1) := op_60 kcX11_hungry (Nat.le_of_ble_eq_true rfl) rfl
theorem dX11_hungry_2 : decode cX11_hungry 2 = .ok (.iconst 0, 1) := op_3 kcX11_hungry (Nat.le_of_ble_eq_true rfl) rfl
theorem dX11_hungry_3 : decode cX11_hungry 3 = .ok (.istore_n 2, 1) := op_61 kcX11_hungry (Nat.le_of_ble_eq_true rfl) rfl
theorem dX11_hungry_4 : decode cX11_hungry 4 = .ok (.iload_n 2, 1) := op_28 kcX11_hungry (Nat.le_of_ble_eq_true rfl) rfl
theorem dX11_hungry_5 : decode cX11_hungry 5 = .ok (.aload_n 0, 1) := op_42 kcX11_hungry (Nat.le_of_ble_eq_true rfl) rfl
theorem dX11_hungry_6 : decode cX11_hungry 6 = .ok (.getfield 10, 3) := op_180 (a := 0) (b := 10) kcX11_hungry (Nat.le_of_ble_eq_true rfl) rfl rfl rfl
theorem dX11_hungry_9 : decode cX11_hungry 9 = .ok (.getfield 130, 3) := op_180 (a := 0) (b := 130) kcX11_hungry (Nat.le_of_ble_eq_true rfl) rfl rfl rfl
theorem dX11_hungry_12 : decode cX11_hungry 12 = .ok (.if_icmp .ge 44, 3) := op_162 (a := 0) (b := 44) kcX11_hungry (Nat.le_of_ble_eq_true rfl) rfl rfl rfl (by decide)
theorem dX11_hungry_15 : decode cX11_hungry 15 = .ok (.aload_n 0, 1) := op_42 kcX11_hungry (Nat.le_of_ble_eq_true rfl) rfl
theorem dX11_hungry_16 : decode cX11_hungry 16 = .ok (.getfield 19, 3) := op_180 (a := 0) (b := 19) kcX11_hungry (Nat.le_of_ble_eq_true rfl) rfl rfl rfl
theorem dX11_hungry_19 : decode cX11_hungry 19 = .ok (.getfield 162, 3) := op_180 (a := 0) (b := 162) kcX11_hungry (Nat.le_of_ble_eq_true rfl) rfl rfl rfl
theorem dX11_hungry_22 : decode cX11_hungry 22 = .ok (.iload_n 2, 1) := op_28 kcX11_hungry (Nat.le_of_ble_eq_true rfl) rfl
theorem dX11_hungry_23 : decode cX11_hungry 23 = .ok (.iaload, 1) := op_46 kcX11_hungry (Nat.le_of_ble_eq_true rfl) rfl
theorem dX11_hungry_24 : decode cX11_hungry 24 = .ok (.aload_n 0, 1) := op_42 kcX11_hungry (Nat.le_of_ble_eq_true rfl) rfl
theorem dX11_hungry_25 : decode cX11_hungry 25 = .ok (.getfield 10, 3) := op_180 (a := 0) (b := 10) kcX11_hungry (Nat.le_of_ble_eq_true rfl) rfl rfl rfl
theorem dX11_hungry_28 : decode cX11_hungry 28 = .ok (.getfield 159, 3) := op_180 (a := 0) (b := 159) kcX11_hungry (Nat.le_of_ble_eq_true rfl) rfl rfl rfl
theorem dX11_hungry_31 : decode cX11_hungry 31 = .ok (.iload_n 2, 1) := op_28 kcX11_hungry (Nat.le_of_ble_eq_true rfl) rfl
theorem dX11_hungry_32 : decode cX11_hungry 32 = .ok (.iaload, 1) := op_46 kcX11_hungry (Nat.le_of_ble_eq_true rfl) rfl
theorem dX11_hungry_33 : decode cX11_hungry 33 = .ok (.aload_n 0, 1) := op_42 kcX11_hungry (Nat.le_of_ble_eq_true rfl) rfl
theorem dX11_hungry_34 : decode cX11_hungry 34 = .ok (.getfield 19, 3) := op_180 (a := 0) (b := 19) kcX11_hungry (Nat.le_of_ble_eq_true rfl) rfl rfl rfl
theorem dX11_hungry_37 : decode cX11_hungry 37 = .ok (.getfield 139, 3) := op_180 (a := 0) (b := 139) kcX11_hungry (Nat.le_of_ble_eq_true rfl) rfl rfl rfl
theorem dX11_hungry_40 : decode cX11_hungry 40 = .ok (.imul, 1) := op_104 kcX11_hungry (Nat.le_of_ble_eq_true rfl) rfl
theorem dX11_hungry_41 : decode cX11_hungry 41 = .ok (.if_icmp .ge 9, 3) := op_162 (a := 0) (b := 9) kcX11_hungry (Nat.le_of_ble_eq_true rfl) rfl rfl rfl (by decide)
theorem dX11_hungry_44 : decode cX11_hungry 44 = .ok (.iload_n 1, 1) := op_27 kcX11_hungry (Nat.le_of_ble_eq_true rfl) rfl
theorem dX11_hungry_45 : decode cX11_hungry 45 = .ok (.iconst 1, 1) := op_4 kcX11_hungry (Nat.le_of_ble_eq_true rfl) rfl
theorem dX11_hungry_46 : decode cX11_hungry 46 = .ok (.iload_n 2, 1) := op_28 kcX11_hungry (Nat.le_of_ble_eq_true rfl) rfl
theorem dX11_hungry_47 : decode cX11_hungry 47 = .ok (.ishl, 1) := op_120 kcX11_hungry (Nat.le_of_ble_eq_true rfl) rfl
theorem dX11_hungry_48 : decode cX11_hungry 48 = .ok (.ior, 1) := op_128 kcX11_hungry (Nat.le_of_ble_eq_true rfl) rfl
theorem dX11_hungry_49 : decode cX11_hungry 49 = .ok (.istore_n 1, 1) := op_60 kcX11_hungry (Nat.le_of_ble_eq_true rfl) rfl
theorem dX11_hungry_50 : decode cX11_hungry 50 = .ok (.iinc 2 1, 3) := by decide +kernel
theorem dX11_hungry_53 : decode cX11_hungry 53 = .ok (.goto (-49), 3) := op_167 (a := 255) (b := 207) kcX11_hungry (Nat.le_of_ble_eq_true rfl) rfl rfl rfl (by decide)
theorem dX11_hungry_56 : decode cX11_hungry 56 = .ok (.iload_n 1, 1) := op_27 kcX11_hungry (Nat.le_of_ble_eq_true rfl) rfl
theorem dX11_hungry_57 : decode cX11_hungry 57 = .ok (.ireturn, 1) := op_172 kcX11_hungry (Nat.le_of_ble_eq_true rfl) rfl
set_option maxRecDepth 20000 in
theorem ggX11_chance_X6_hasSeat : GoodIn wsX11_chance wsX6_hasSeat := goodIn_r _ [10, 11, 111, 112, 113, 114, 115, 116, 117] rfl gw_wsX6_hasSeat
set_option maxRecDepth 20000 in
theorem gX11_chance_X6_hasSeat : GoodIn wsX11_chance (wsV RX11 145 RX6 yX6_hasSeat wsX6_hasSeat) := goodIn_app (goodIn_of _ (by decide +kernel)) ggX11_chance_X6_hasSeat
set_option maxRecDepth 20000 in
theorem gw_wsX11_isPart : (wsX11_isPart).all goodWord = true := by decide +kernel
set_option maxRecDepth 20000 in
theorem ggX11_chance_X11_isPart : GoodIn wsX11_chance wsX11_isPart := goodIn_r _ [15] rfl gw_wsX11_isPart
set_option maxRecDepth 20000 in
theorem gX11_chance_X11_isPart : GoodIn wsX11_chance (va_wsS RX11 199 yX11_isPart wsX11_isPart) := goodIn_app (goodIn_of _ (by decide +kernel)) ggX11_chance_X11_isPart
set_option maxRecDepth 20000 in
theorem gw_wsX3_rowsToCrown : (wsX3_rowsToCrown).all goodWord = true := by decide +kernel
set_option maxRecDepth 20000 in
theorem ggX11_chance_X3_rowsToCrown : GoodIn wsX11_chance wsX3_rowsToCrown := goodIn_r _ [20, 21, 22, 23, 19, 24, 25, 26, 27, 28, 29, 30, 31, 32, 33, 34, 35, 36, 37, 38, 39, 40, 41, 42, 43, 44, 45, 46, 9, 47, 11, 48, 49, 50, 51, 52, 53, 54, 55, 56, 57, 58, 59, 60, 61, 62, 63, 64, 65, 66, 67, 68, 69, 70, 71, 72, 73, 74, 75, 76, 77, 78, 79, 80, 81, 82, 83, 84, 85, 86, 118, 119, 120, 121, 122, 123, 124, 125, 126, 127, 128, 129, 130, 131, 132, 133, 134, 135, 111, 112, 113, 114, 115, 116, 117] rfl gw_wsX3_rowsToCrown
set_option maxRecDepth 20000 in
theorem gX11_chance_X3_rowsToCrown : GoodIn wsX11_chance (wsV RX11 206 RX3 yX3_rowsToCrown wsX3_rowsToCrown) := goodIn_app (goodIn_of _ (by decide +kernel)) ggX11_chance_X3_rowsToCrown
set_option maxRecDepth 20000 in
theorem gw_wsX3_power : (wsX3_power).all goodWord = true := by decide +kernel
set_option maxRecDepth 20000 in
theorem ggX11_chance_X3_power : GoodIn wsX11_chance wsX3_power := goodIn_r _ [89] rfl gw_wsX3_power
set_option maxRecDepth 20000 in
theorem gX11_chance_X3_power : GoodIn wsX11_chance (va_wsS RX11 210 yX3_power wsX3_power) := goodIn_app (goodIn_of _ (by decide +kernel)) ggX11_chance_X3_power
set_option maxRecDepth 20000 in
theorem gw_wsX3_part : (wsX3_part).all goodWord = true := by decide +kernel
set_option maxRecDepth 20000 in
theorem ggX11_chance_X3_part : GoodIn wsX11_chance wsX3_part := goodIn_r _ [92, 93, 94, 19, 95] rfl gw_wsX3_part
set_option maxRecDepth 20000 in
theorem gX11_chance_X3_part : GoodIn wsX11_chance (va_wsS RX11 213 yX3_part wsX3_part) := goodIn_app (goodIn_of _ (by decide +kernel)) ggX11_chance_X3_part
theorem kcX11_chance : (cX11_chance).data.toList = cbs 0xadd500b81dd200b81c8500b40a00b42ace00b61c1b3500b42aadcc001407009a8500b40a00b42aadca001407009ac700b81d0a00a30a101c10009b1c1400999100b61b0a00b42a 71 := by decide +kernel
theorem dX11_chance_0 : decode cX11_chance 0 = .ok (.aload_n 0, 1) := op_42 kcX11_chance (Nat.le_of_ble_eq_true rfl) rfl
theorem dX11_chance_1 : decode cX11_chance 1 = .ok (.getfield 10, 3) := op_180 (a := 0) (b := 10) kcX11_chance (Nat.le_of_ble_eq_true rfl) rfl rfl rfl
theorem dX11_chance_4 : decode cX11_chance 4 = .ok (.iload_n 1, 1) := op_27 kcX11_chance (Nat.le_of_ble_eq_true rfl) rfl
theorem dX11_chance_5 : decode cX11_chance 5 = .ok (.invokevirtual 145, 3) := op_182 (a := 0) (b := 145) kcX11_chance (Nat.le_of_ble_eq_true rfl) rfl rfl rfl
theorem dX11_chance_8 : decode cX11_chance 8 = .ok (.ifCond .eq 20, 3) := op_153 (a := 0) (b := 20) kcX11_chance (Nat.le_of_ble_eq_true rfl) rfl rfl rfl (by decide)
theorem dX11_chance_11 : decode cX11_chance 11 = .ok (.iload_n 2, 1) := op_28 kcX11_chance (Nat.le_of_ble_eq_true rfl) rfl
theorem dX11_chance_12 : decode cX11_chance 12 = .ok (.ifCond .lt 16, 3) := op_155 (a := 0) (b := 16) kcX11_chance (Nat.le_of_ble_eq_true rfl) rfl rfl rfl (by decide)
theorem dX11_chance_15 : decode cX11_chance 15 = .ok (.iload_n 2, 1) := op_28 kcX11_chance (Nat.le_of_ble_eq_true rfl) rfl
theorem dX11_chance_16 : decode cX11_chance 16 = .ok (.bipush 10, 2) := op_16 (a := 10) kcX11_chance (Nat.le_of_ble_eq_true rfl) rfl rfl (by decide)
theorem dX11_chance_18 : decode cX11_chance 18 = .ok (.if_icmp .gt 10, 3) := op_163 (a := 0) (b := 10) kcX11_chance (Nat.le_of_ble_eq_true rfl) rfl rfl rfl (by decide)
theorem dX11_chance_21 : decode cX11_chance 21 = .ok (.iload_n 3, 1) := op_29 kcX11_chance (Nat.le_of_ble_eq_true rfl) rfl
theorem dX11_chance_22 : decode cX11_chance 22 = .ok (.invokestatic 199, 3) := op_184 (a := 0) (b := 199) kcX11_chance (Nat.le_of_ble_eq_true rfl) rfl rfl rfl
theorem dX11_chance_25 : decode cX11_chance 25 = .ok (.ifCond .ne 7, 3) := op_154 (a := 0) (b := 7) kcX11_chance (Nat.le_of_ble_eq_true rfl) rfl rfl rfl (by decide)
theorem dX11_chance_28 : decode cX11_chance 28 = .ok (.ldc2_w 202, 3) := op_20 (a := 0) (b := 202) kcX11_chance (Nat.le_of_ble_eq_true rfl) rfl rfl rfl
theorem dX11_chance_31 : decode cX11_chance 31 = .ok (.lreturn, 1) := op_173 kcX11_chance (Nat.le_of_ble_eq_true rfl) rfl
theorem dX11_chance_32 : decode cX11_chance 32 = .ok (.aload_n 0, 1) := op_42 kcX11_chance (Nat.le_of_ble_eq_true rfl) rfl
theorem dX11_chance_33 : decode cX11_chance 33 = .ok (.getfield 10, 3) := op_180 (a := 0) (b := 10) kcX11_chance (Nat.le_of_ble_eq_true rfl) rfl rfl rfl
theorem dX11_chance_36 : decode cX11_chance 36 = .ok (.getfield 133, 3) := op_180 (a := 0) (b := 133) kcX11_chance (Nat.le_of_ble_eq_true rfl) rfl rfl rfl
theorem dX11_chance_39 : decode cX11_chance 39 = .ok (.ifCond .ne 7, 3) := op_154 (a := 0) (b := 7) kcX11_chance (Nat.le_of_ble_eq_true rfl) rfl rfl rfl (by decide)
theorem dX11_chance_42 : decode cX11_chance 42 = .ok (.ldc2_w 204, 3) := op_20 (a := 0) (b := 204) kcX11_chance (Nat.le_of_ble_eq_true rfl) rfl rfl rfl
theorem dX11_chance_45 : decode cX11_chance 45 = .ok (.lreturn, 1) := op_173 kcX11_chance (Nat.le_of_ble_eq_true rfl) rfl
theorem dX11_chance_46 : decode cX11_chance 46 = .ok (.aload_n 0, 1) := op_42 kcX11_chance (Nat.le_of_ble_eq_true rfl) rfl
theorem dX11_chance_47 : decode cX11_chance 47 = .ok (.getfield 53, 3) := op_180 (a := 0) (b := 53) kcX11_chance (Nat.le_of_ble_eq_true rfl) rfl rfl rfl
theorem dX11_chance_50 : decode cX11_chance 50 = .ok (.iload_n 1, 1) := op_27 kcX11_chance (Nat.le_of_ble_eq_true rfl) rfl
theorem dX11_chance_51 : decode cX11_chance 51 = .ok (.iload_n 2, 1) := op_28 kcX11_chance (Nat.le_of_ble_eq_true rfl) rfl
theorem dX11_chance_52 : decode cX11_chance 52 = .ok (.invokevirtual 206, 3) := op_182 (a := 0) (b := 206) kcX11_chance (Nat.le_of_ble_eq_true rfl) rfl rfl rfl
theorem dX11_chance_55 : decode cX11_chance 55 = .ok (.aload_n 0, 1) := op_42 kcX11_chance (Nat.le_of_ble_eq_true rfl) rfl
theorem dX11_chance_56 : decode cX11_chance 56 = .ok (.getfield 10, 3) := op_180 (a := 0) (b := 10) kcX11_chance (Nat.le_of_ble_eq_true rfl) rfl rfl rfl
theorem dX11_chance_59 : decode cX11_chance 59 = .ok (.getfield 133, 3) := op_180 (a := 0) (b := 133) kcX11_chance (Nat.le_of_ble_eq_true rfl) rfl rfl rfl
theorem dX11_chance_62 : decode cX11_chance 62 = .ok (.iload_n 2, 1) := op_28 kcX11_chance (Nat.le_of_ble_eq_true rfl) rfl
theorem dX11_chance_63 : decode cX11_chance 63 = .ok (.invokestatic 210, 3) := op_184 (a := 0) (b := 210) kcX11_chance (Nat.le_of_ble_eq_true rfl) rfl rfl rfl
theorem dX11_chance_66 : decode cX11_chance 66 = .ok (.iload_n 3, 1) := op_29 kcX11_chance (Nat.le_of_ble_eq_true rfl) rfl
theorem dX11_chance_67 : decode cX11_chance 67 = .ok (.invokestatic 213, 3) := op_184 (a := 0) (b := 213) kcX11_chance (Nat.le_of_ble_eq_true rfl) rfl rfl rfl
theorem dX11_chance_70 : decode cX11_chance 70 = .ok (.lreturn, 1) := op_173 kcX11_chance (Nat.le_of_ble_eq_true rfl) rfl
set_option maxRecDepth 20000 in
theorem ggX11_lasts_X11_isPart : GoodIn wsX11_lasts wsX11_isPart := goodIn_r _ [9] rfl gw_wsX11_isPart
set_option maxRecDepth 20000 in
theorem gX11_lasts_X11_isPart : GoodIn wsX11_lasts (va_wsS RX11 199 yX11_isPart wsX11_isPart) := goodIn_app (goodIn_of _ (by decide +kernel)) ggX11_lasts_X11_isPart
set_option maxRecDepth 20000 in
theorem gw_wsX3_rowsOfReign : (wsX3_rowsOfReign).all goodWord = true := by decide +kernel
set_option maxRecDepth 20000 in
theorem ggX11_lasts_X3_rowsOfReign : GoodIn wsX11_lasts wsX3_rowsOfReign := goodIn_r _ [14, 15, 16, 17, 18, 19, 20, 13, 21, 22, 23, 24, 25, 26, 27, 28, 29, 30, 31, 32, 33, 34, 35, 36, 37, 38, 39, 40, 41, 42, 43, 44, 45, 46, 47, 48, 49, 50, 51, 52, 53, 54, 55, 56, 57, 58, 59, 60, 61, 62, 63, 64, 65, 66, 67, 68, 69, 70, 71, 72, 73, 74, 75, 76, 77, 78, 79, 80, 81, 82, 114, 115, 116, 117, 118, 119, 120, 121, 122, 123, 124, 125, 126, 127, 128, 129, 130, 131, 107, 108, 109, 110, 111, 112, 113] rfl gw_wsX3_rowsOfReign
set_option maxRecDepth 20000 in
theorem gX11_lasts_X3_rowsOfReign : GoodIn wsX11_lasts (wsV RX11 217 RX3 yX3_rowsOfReign wsX3_rowsOfReign) := goodIn_app (goodIn_of _ (by decide +kernel)) ggX11_lasts_X3_rowsOfReign
set_option maxRecDepth 20000 in
theorem ggX11_lasts_X3_power : GoodIn wsX11_lasts wsX3_power := goodIn_r _ [85] rfl gw_wsX3_power
set_option maxRecDepth 20000 in
theorem gX11_lasts_X3_power : GoodIn wsX11_lasts (va_wsS RX11 210 yX3_power wsX3_power) := goodIn_app (goodIn_of _ (by decide +kernel)) ggX11_lasts_X3_power
set_option maxRecDepth 20000 in
theorem ggX11_lasts_X3_part : GoodIn wsX11_lasts wsX3_part := goodIn_r _ [88, 89, 90, 13, 91] rfl gw_wsX3_part
set_option maxRecDepth 20000 in
theorem gX11_lasts_X3_part : GoodIn wsX11_lasts (va_wsS RX11 213 yX3_part wsX3_part) := goodIn_app (goodIn_of _ (by decide +kernel)) ggX11_lasts_X3_part
theorem kcX11_lasts : (cX11_lasts).data.toList = cbs 0xadd500b81cd200b81b8500b40a00b42ad900b61b3500b42aadcc001407009a8500b40a00b42aadca001407009ac700b81c0a00a30a101b10009b1b 59 := by decide +kernel
theorem dX11_lasts_0 : decode cX11_lasts 0 = .ok (.iload_n 1, 1) := op_27 kcX11_lasts (Nat.le_of_ble_eq_true rfl) rfl
theorem dX11_lasts_1 : decode cX11_lasts 1 = .ok (.ifCond .lt 16, 3) := op_155 (a := 0) (b := 16) kcX11_lasts (Nat.le_of_ble_eq_true rfl) rfl rfl rfl (by decide)
theorem dX11_lasts_4 : decode cX11_lasts 4 = .ok (.iload_n 1, 1) := op_27 kcX11_lasts (Nat.le_of_ble_eq_true rfl) rfl
theorem dX11_lasts_5 : decode cX11_lasts 5 = .ok (.bipush 10, 2) := op_16 (a := 10) kcX11_lasts (Nat.le_of_ble_eq_true rfl) rfl rfl (by decide)
theorem dX11_lasts_7 : decode cX11_lasts 7 = .ok (.if_icmp .gt 10, 3) := op_163 (a := 0) (b := 10) kcX11_lasts (Nat.le_of_ble_eq_true rfl) rfl rfl rfl (by decide)
theorem dX11_lasts_10 : decode cX11_lasts 10 = .ok (.iload_n 2, 1) := op_28 kcX11_lasts (Nat.le_of_ble_eq_true rfl) rfl
theorem dX11_lasts_11 : decode cX11_lasts 11 = .ok (.invokestatic 199, 3) := op_184 (a := 0) (b := 199) kcX11_lasts (Nat.le_of_ble_eq_true rfl) rfl rfl rfl
theorem dX11_lasts_14 : decode cX11_lasts 14 = .ok (.ifCond .ne 7, 3) := op_154 (a := 0) (b := 7) kcX11_lasts (Nat.le_of_ble_eq_true rfl) rfl rfl rfl (by decide)
theorem dX11_lasts_17 : decode cX11_lasts 17 = .ok (.ldc2_w 202, 3) := op_20 (a := 0) (b := 202) kcX11_lasts (Nat.le_of_ble_eq_true rfl) rfl rfl rfl
theorem dX11_lasts_20 : decode cX11_lasts 20 = .ok (.lreturn, 1) := op_173 kcX11_lasts (Nat.le_of_ble_eq_true rfl) rfl
theorem dX11_lasts_21 : decode cX11_lasts 21 = .ok (.aload_n 0, 1) := op_42 kcX11_lasts (Nat.le_of_ble_eq_true rfl) rfl
theorem dX11_lasts_22 : decode cX11_lasts 22 = .ok (.getfield 10, 3) := op_180 (a := 0) (b := 10) kcX11_lasts (Nat.le_of_ble_eq_true rfl) rfl rfl rfl
theorem dX11_lasts_25 : decode cX11_lasts 25 = .ok (.getfield 133, 3) := op_180 (a := 0) (b := 133) kcX11_lasts (Nat.le_of_ble_eq_true rfl) rfl rfl rfl
theorem dX11_lasts_28 : decode cX11_lasts 28 = .ok (.ifCond .ne 7, 3) := op_154 (a := 0) (b := 7) kcX11_lasts (Nat.le_of_ble_eq_true rfl) rfl rfl rfl (by decide)
theorem dX11_lasts_31 : decode cX11_lasts 31 = .ok (.ldc2_w 204, 3) := op_20 (a := 0) (b := 204) kcX11_lasts (Nat.le_of_ble_eq_true rfl) rfl rfl rfl
theorem dX11_lasts_34 : decode cX11_lasts 34 = .ok (.lreturn, 1) := op_173 kcX11_lasts (Nat.le_of_ble_eq_true rfl) rfl
theorem dX11_lasts_35 : decode cX11_lasts 35 = .ok (.aload_n 0, 1) := op_42 kcX11_lasts (Nat.le_of_ble_eq_true rfl) rfl
theorem dX11_lasts_36 : decode cX11_lasts 36 = .ok (.getfield 53, 3) := op_180 (a := 0) (b := 53) kcX11_lasts (Nat.le_of_ble_eq_true rfl) rfl rfl rfl
theorem dX11_lasts_39 : decode cX11_lasts 39 = .ok (.iload_n 1, 1) := op_27 kcX11_lasts (Nat.le_of_ble_eq_true rfl) rfl
theorem dX11_lasts_40 : decode cX11_lasts 40 = .ok (.invokevirtual 217, 3) := op_182 (a := 0) (b := 217) kcX11_lasts (Nat.le_of_ble_eq_true rfl) rfl rfl rfl
theorem dX11_lasts_43 : decode cX11_lasts 43 = .ok (.aload_n 0, 1) := op_42 kcX11_lasts (Nat.le_of_ble_eq_true rfl) rfl
theorem dX11_lasts_44 : decode cX11_lasts 44 = .ok (.getfield 10, 3) := op_180 (a := 0) (b := 10) kcX11_lasts (Nat.le_of_ble_eq_true rfl) rfl rfl rfl
theorem dX11_lasts_47 : decode cX11_lasts 47 = .ok (.getfield 133, 3) := op_180 (a := 0) (b := 133) kcX11_lasts (Nat.le_of_ble_eq_true rfl) rfl rfl rfl
theorem dX11_lasts_50 : decode cX11_lasts 50 = .ok (.iload_n 1, 1) := op_27 kcX11_lasts (Nat.le_of_ble_eq_true rfl) rfl
theorem dX11_lasts_51 : decode cX11_lasts 51 = .ok (.invokestatic 210, 3) := op_184 (a := 0) (b := 210) kcX11_lasts (Nat.le_of_ble_eq_true rfl) rfl rfl rfl
theorem dX11_lasts_54 : decode cX11_lasts 54 = .ok (.iload_n 2, 1) := op_28 kcX11_lasts (Nat.le_of_ble_eq_true rfl) rfl
theorem dX11_lasts_55 : decode cX11_lasts 55 = .ok (.invokestatic 213, 3) := op_184 (a := 0) (b := 213) kcX11_lasts (Nat.le_of_ble_eq_true rfl) rfl rfl rfl
theorem dX11_lasts_58 : decode cX11_lasts 58 = .ok (.lreturn, 1) := op_173 kcX11_lasts (Nat.le_of_ble_eq_true rfl) rfl
set_option maxRecDepth 20000 in
theorem gw_wsX11_isRowQuestion : (wsX11_isRowQuestion).all goodWord = true := by decide +kernel
set_option maxRecDepth 20000 in
theorem ggX11_reign_X11_isRowQuestion : GoodIn wsX11_reign wsX11_isRowQuestion := goodIn_r _ [8] rfl gw_wsX11_isRowQuestion
set_option maxRecDepth 20000 in
theorem gX11_reign_X11_isRowQuestion : GoodIn wsX11_reign (va_wsS RX11 221 yX11_isRowQuestion wsX11_isRowQuestion) := goodIn_app (goodIn_of _ (by decide +kernel)) ggX11_reign_X11_isRowQuestion
set_option maxRecDepth 20000 in
theorem gw_wsX5_planReign : (wsX5_planReign).all goodWord = true := by decide +kernel
set_option maxRecDepth 20000 in
theorem ggX11_reign_X5_planReign : GoodIn wsX11_reign wsX5_planReign := goodIn_r _ [13, 14, 15, 16, 17, 18, 19, 20, 21, 22, 23, 24, 25, 26, 27, 28, 29, 30, 31, 32, 33, 34, 35, 36, 37, 38, 39, 40, 41, 42, 43, 44, 12, 45, 46, 47, 48, 49, 50, 51, 52, 53, 54, 55, 56, 57, 58, 59, 60, 61, 62, 63, 64, 65, 66, 67, 68, 69, 70, 71, 72, 73, 74, 75, 76, 77, 78, 79, 80, 81, 82, 83, 84, 85, 86, 87, 88, 89, 115, 116, 117, 118, 119, 120, 121, 122, 108, 109, 110, 111, 112, 113, 114, 123, 124, 125, 126, 127, 128, 129, 130, 131] rfl gw_wsX5_planReign
set_option maxRecDepth 20000 in
theorem gX11_reign_X5_planReign : GoodIn wsX11_reign (wsV RX11 224 RX5 yX5_planReign wsX5_planReign) := goodIn_app (goodIn_of _ (by decide +kernel)) ggX11_reign_X5_planReign
set_option maxRecDepth 20000 in
theorem gw_wsX11_ofRow : (wsX11_ofRow).all goodWord = true := by decide +kernel
set_option maxRecDepth 20000 in
theorem ggX11_reign_X11_ofRow : GoodIn wsX11_reign wsX11_ofRow := goodIn_r _ [92] rfl gw_wsX11_ofRow
set_option maxRecDepth 20000 in
theorem gX11_reign_X11_ofRow : GoodIn wsX11_reign (va_wsS RX11 231 yX11_ofRow wsX11_ofRow) := goodIn_app (goodIn_of _ (by decide +kernel)) ggX11_reign_X11_ofRow
theorem kcX11_reign : (cX11_reign).data.toList = cbs 0xace700b8640a101c1de400b43c00b42a1200a71d07009a1c3ee000b61b3c00b42aacfe1006009a8500b40a00b42aac0205009add00b80a101c0c00a30a101b1200a1041b 68 := by decide +kernel
theorem dX11_reign_0 : decode cX11_reign 0 = .ok (.iload_n 1, 1) := op_27 kcX11_reign (Nat.le_of_ble_eq_true rfl) rfl
theorem dX11_reign_1 : decode cX11_reign 1 = .ok (.iconst 1, 1) := op_4 kcX11_reign (Nat.le_of_ble_eq_true rfl) rfl
theorem dX11_reign_2 : decode cX11_reign 2 = .ok (.if_icmp .lt 18, 3) := op_161 (a := 0) (b := 18) kcX11_reign (Nat.le_of_ble_eq_true rfl) rfl rfl rfl (by decide)
theorem dX11_reign_5 : decode cX11_reign 5 = .ok (.iload_n 1, 1) := op_27 kcX11_reign (Nat.le_of_ble_eq_true rfl) rfl
theorem dX11_reign_6 : decode cX11_reign 6 = .ok (.bipush 10, 2) := op_16 (a := 10) kcX11_reign (Nat.le_of_ble_eq_true rfl) rfl rfl (by decide)
theorem dX11_reign_8 : decode cX11_reign 8 = .ok (.if_icmp .gt 12, 3) := op_163 (a := 0) (b := 12) kcX11_reign (Nat.le_of_ble_eq_true rfl) rfl rfl rfl (by decide)
theorem dX11_reign_11 : decode cX11_reign 11 = .ok (.iload_n 2, 1) := op_28 kcX11_reign (Nat.le_of_ble_eq_true rfl) rfl
theorem dX11_reign_12 : decode cX11_reign 12 = .ok (.bipush 10, 2) := op_16 (a := 10) kcX11_reign (Nat.le_of_ble_eq_true rfl) rfl rfl (by decide)
theorem dX11_reign_14 : decode cX11_reign 14 = .ok (.invokestatic 221, 3) := op_184 (a := 0) (b := 221) kcX11_reign (Nat.le_of_ble_eq_true rfl) rfl rfl rfl
theorem dX11_reign_17 : decode cX11_reign 17 = .ok (.ifCond .ne 5, 3) := op_154 (a := 0) (b := 5) kcX11_reign (Nat.le_of_ble_eq_true rfl) rfl rfl rfl (by decide)
theorem dX11_reign_20 : decode cX11_reign 20 = .ok (.iconst (-1), 1) := op_2 kcX11_reign (Nat.le_of_ble_eq_true rfl) rfl
theorem dX11_reign_21 : decode cX11_reign 21 = .ok (.ireturn, 1) := op_172 kcX11_reign (Nat.le_of_ble_eq_true rfl) rfl
theorem dX11_reign_22 : decode cX11_reign 22 = .ok (.aload_n 0, 1) := op_42 kcX11_reign (Nat.le_of_ble_eq_true rfl) rfl
theorem dX11_reign_23 : decode cX11_reign 23 = .ok (.getfield 10, 3) := op_180 (a := 0) (b := 10) kcX11_reign (Nat.le_of_ble_eq_true rfl) rfl rfl rfl
theorem dX11_reign_26 : decode cX11_reign 26 = .ok (.getfield 133, 3) := op_180 (a := 0) (b := 133) kcX11_reign (Nat.le_of_ble_eq_true rfl) rfl rfl rfl
theorem dX11_reign_29 : decode cX11_reign 29 = .ok (.ifCond .ne 6, 3) := op_154 (a := 0) (b := 6) kcX11_reign (Nat.le_of_ble_eq_true rfl) rfl rfl rfl (by decide)
theorem dX11_reign_32 : decode cX11_reign 32 = .ok (.bipush (-2), 2) := op_16 (a := 254) kcX11_reign (Nat.le_of_ble_eq_true rfl) rfl rfl (by decide)
theorem dX11_reign_34 : decode cX11_reign 34 = .ok (.ireturn, 1) := op_172 kcX11_reign (Nat.le_of_ble_eq_true rfl) rfl
theorem dX11_reign_35 : decode cX11_reign 35 = .ok (.aload_n 0, 1) := op_42 kcX11_reign (Nat.le_of_ble_eq_true rfl) rfl
theorem dX11_reign_36 : decode cX11_reign 36 = .ok (.getfield 60, 3) := op_180 (a := 0) (b := 60) kcX11_reign (Nat.le_of_ble_eq_true rfl) rfl rfl rfl
theorem dX11_reign_39 : decode cX11_reign 39 = .ok (.iload_n 1, 1) := op_27 kcX11_reign (Nat.le_of_ble_eq_true rfl) rfl
theorem dX11_reign_40 : decode cX11_reign 40 = .ok (.invokevirtual 224, 3) := op_182 (a := 0) (b := 224) kcX11_reign (Nat.le_of_ble_eq_true rfl) rfl rfl rfl
theorem dX11_reign_43 : decode cX11_reign 43 = .ok (.istore_n 3, 1) := op_62 kcX11_reign (Nat.le_of_ble_eq_true rfl) rfl
theorem dX11_reign_44 : decode cX11_reign 44 = .ok (.iload_n 2, 1) := op_28 kcX11_reign (Nat.le_of_ble_eq_true rfl) rfl
theorem dX11_reign_45 : decode cX11_reign 45 = .ok (.ifCond .ne 7, 3) := op_154 (a := 0) (b := 7) kcX11_reign (Nat.le_of_ble_eq_true rfl) rfl rfl rfl (by decide)
theorem dX11_reign_48 : decode cX11_reign 48 = .ok (.iload_n 3, 1) := op_29 kcX11_reign (Nat.le_of_ble_eq_true rfl) rfl
theorem dX11_reign_49 : decode cX11_reign 49 = .ok (.goto 18, 3) := op_167 (a := 0) (b := 18) kcX11_reign (Nat.le_of_ble_eq_true rfl) rfl rfl rfl (by decide)
theorem dX11_reign_52 : decode cX11_reign 52 = .ok (.aload_n 0, 1) := op_42 kcX11_reign (Nat.le_of_ble_eq_true rfl) rfl
theorem dX11_reign_53 : decode cX11_reign 53 = .ok (.getfield 60, 3) := op_180 (a := 0) (b := 60) kcX11_reign (Nat.le_of_ble_eq_true rfl) rfl rfl rfl
theorem dX11_reign_56 : decode cX11_reign 56 = .ok (.getfield 228, 3) := op_180 (a := 0) (b := 228) kcX11_reign (Nat.le_of_ble_eq_true rfl) rfl rfl rfl
theorem dX11_reign_59 : decode cX11_reign 59 = .ok (.iload_n 3, 1) := op_29 kcX11_reign (Nat.le_of_ble_eq_true rfl) rfl
theorem dX11_reign_60 : decode cX11_reign 60 = .ok (.iload_n 2, 1) := op_28 kcX11_reign (Nat.le_of_ble_eq_true rfl) rfl
theorem dX11_reign_61 : decode cX11_reign 61 = .ok (.bipush 10, 2) := op_16 (a := 10) kcX11_reign (Nat.le_of_ble_eq_true rfl) rfl rfl (by decide)
theorem dX11_reign_63 : decode cX11_reign 63 = .ok (.isub, 1) := op_100 kcX11_reign (Nat.le_of_ble_eq_true rfl) rfl
theorem dX11_reign_64 : decode cX11_reign 64 = .ok (.invokestatic 231, 3) := op_184 (a := 0) (b := 231) kcX11_reign (Nat.le_of_ble_eq_true rfl) rfl rfl rfl
theorem dX11_reign_67 : decode cX11_reign 67 = .ok (.ireturn, 1) := op_172 kcX11_reign (Nat.le_of_ble_eq_true rfl) rfl
set_option maxRecDepth 20000 in
theorem ggX11_raise_X6_hasSeat : GoodIn wsX11_raise wsX6_hasSeat := goodIn_r _ [9, 10, 108, 109, 110, 111, 112, 113, 114] rfl gw_wsX6_hasSeat
set_option maxRecDepth 20000 in
theorem gX11_raise_X6_hasSeat : GoodIn wsX11_raise (wsV RX11 145 RX6 yX6_hasSeat wsX6_hasSeat) := goodIn_app (goodIn_of _ (by decide +kernel)) ggX11_raise_X6_hasSeat
set_option maxRecDepth 20000 in
theorem ggX11_raise_X11_isRowQuestion : GoodIn wsX11_raise wsX11_isRowQuestion := goodIn_r _ [14] rfl gw_wsX11_isRowQuestion
set_option maxRecDepth 20000 in
theorem gX11_raise_X11_isRowQuestion : GoodIn wsX11_raise (va_wsS RX11 221 yX11_isRowQuestion wsX11_isRowQuestion) := goodIn_app (goodIn_of _ (by decide +kernel)) ggX11_raise_X11_isRowQuestion
set_option maxRecDepth 20000 in
theorem gw_wsX5_planRaise : (wsX5_planRaise).all goodWord = true := by decide +kernel
set_option maxRecDepth 20000 in
theorem ggX11_raise_X5_planRaise : GoodIn wsX11_raise wsX5_planRaise := goodIn_r _ [19, 20, 21, 22, 23, 24, 25, 26, 27, 28, 29, 30, 31, 32, 33, 34, 35, 36, 37, 38, 8, 39, 10, 40, 41, 42, 43, 44, 45, 46, 47, 48, 18, 49, 50, 51, 52, 53, 54, 55, 56, 57, 58, 59, 60, 61, 62, 63, 64, 65, 66, 67, 68, 69, 70, 71, 72, 73, 74, 75, 76, 77, 78, 79, 80, 81, 82, 83, 84, 85, 86, 87, 88, 89, 115, 116, 117, 118, 119, 120, 121, 122, 108, 109, 110, 111, 112, 113, 114, 123, 124, 125, 126, 127, 128, 129, 130, 131] rfl gw_wsX5_planRaise
set_option maxRecDepth 20000 in
theorem gX11_raise_X5_planRaise : GoodIn wsX11_raise (wsV RX11 235 RX5 yX5_planRaise wsX5_planRaise) := goodIn_app (goodIn_of _ (by decide +kernel)) ggX11_raise_X5_planRaise
set_option maxRecDepth 20000 in
theorem ggX11_raise_X11_ofRow : GoodIn wsX11_raise wsX11_ofRow := goodIn_r _ [92] rfl gw_wsX11_ofRow
set_option maxRecDepth 20000 in
theorem gX11_raise_X11_ofRow : GoodIn wsX11_raise (va_wsS RX11 231 yX11_ofRow wsX11_ofRow) := goodIn_app (goodIn_of _ (by decide +kernel)) ggX11_raise_X11_ofRow
theorem kcX11_raise : (cX11_raise).data.toList = cbs 0xace700b8640a101c1de400b43c00b42a1200a71d07009a1c3eeb00b61b3c00b42aacfe1006009a8500b40a00b42aac0205009add00b80a101c0c00999100b61b0a00b42a 68 := by decide +kernel
theorem dX11_raise_0 : decode cX11_raise 0 = .ok (.aload_n 0, 1) := op_42 kcX11_raise (Nat.le_of_ble_eq_true rfl) rfl
theorem dX11_raise_1 : decode cX11_raise 1 = .ok (.getfield 10, 3) := op_180 (a := 0) (b := 10) kcX11_raise (Nat.le_of_ble_eq_true rfl) rfl rfl rfl
theorem dX11_raise_4 : decode cX11_raise 4 = .ok (.iload_n 1, 1) := op_27 kcX11_raise (Nat.le_of_ble_eq_true rfl) rfl
theorem dX11_raise_5 : decode cX11_raise 5 = .ok (.invokevirtual 145, 3) := op_182 (a := 0) (b := 145) kcX11_raise (Nat.le_of_ble_eq_true rfl) rfl rfl rfl
theorem dX11_raise_8 : decode cX11_raise 8 = .ok (.ifCond .eq 12, 3) := op_153 (a := 0) (b := 12) kcX11_raise (Nat.le_of_ble_eq_true rfl) rfl rfl rfl (by decide)
theorem dX11_raise_11 : decode cX11_raise 11 = .ok (.iload_n 2, 1) := op_28 kcX11_raise (Nat.le_of_ble_eq_true rfl) rfl
theorem dX11_raise_12 : decode cX11_raise 12 = .ok (.bipush 10, 2) := op_16 (a := 10) kcX11_raise (Nat.le_of_ble_eq_true rfl) rfl rfl (by decide)
theorem dX11_raise_14 : decode cX11_raise 14 = .ok (.invokestatic 221, 3) := op_184 (a := 0) (b := 221) kcX11_raise (Nat.le_of_ble_eq_true rfl) rfl rfl rfl
theorem dX11_raise_17 : decode cX11_raise 17 = .ok (.ifCond .ne 5, 3) := op_154 (a := 0) (b := 5) kcX11_raise (Nat.le_of_ble_eq_true rfl) rfl rfl rfl (by decide)
theorem dX11_raise_20 : decode cX11_raise 20 = .ok (.iconst (-1), 1) := op_2 kcX11_raise (Nat.le_of_ble_eq_true rfl) rfl
theorem dX11_raise_21 : decode cX11_raise 21 = .ok (.ireturn, 1) := op_172 kcX11_raise (Nat.le_of_ble_eq_true rfl) rfl
theorem dX11_raise_22 : decode cX11_raise 22 = .ok (.aload_n 0, 1) := op_42 kcX11_raise (Nat.le_of_ble_eq_true rfl) rfl
theorem dX11_raise_23 : decode cX11_raise 23 = .ok (.getfield 10, 3) := op_180 (a := 0) (b := 10) kcX11_raise (Nat.le_of_ble_eq_true rfl) rfl rfl rfl
theorem dX11_raise_26 : decode cX11_raise 26 = .ok (.getfield 133, 3) := op_180 (a := 0) (b := 133) kcX11_raise (Nat.le_of_ble_eq_true rfl) rfl rfl rfl
theorem dX11_raise_29 : decode cX11_raise 29 = .ok (.ifCond .ne 6, 3) := op_154 (a := 0) (b := 6) kcX11_raise (Nat.le_of_ble_eq_true rfl) rfl rfl rfl (by decide)
theorem dX11_raise_32 : decode cX11_raise 32 = .ok (.bipush (-2), 2) := op_16 (a := 254) kcX11_raise (Nat.le_of_ble_eq_true rfl) rfl rfl (by decide)
theorem dX11_raise_34 : decode cX11_raise 34 = .ok (.ireturn, 1) := op_172 kcX11_raise (Nat.le_of_ble_eq_true rfl) rfl
theorem dX11_raise_35 : decode cX11_raise 35 = .ok (.aload_n 0, 1) := op_42 kcX11_raise (Nat.le_of_ble_eq_true rfl) rfl
theorem dX11_raise_36 : decode cX11_raise 36 = .ok (.getfield 60, 3) := op_180 (a := 0) (b := 60) kcX11_raise (Nat.le_of_ble_eq_true rfl) rfl rfl rfl
theorem dX11_raise_39 : decode cX11_raise 39 = .ok (.iload_n 1, 1) := op_27 kcX11_raise (Nat.le_of_ble_eq_true rfl) rfl
theorem dX11_raise_40 : decode cX11_raise 40 = .ok (.invokevirtual 235, 3) := op_182 (a := 0) (b := 235) kcX11_raise (Nat.le_of_ble_eq_true rfl) rfl rfl rfl
theorem dX11_raise_43 : decode cX11_raise 43 = .ok (.istore_n 3, 1) := op_62 kcX11_raise (Nat.le_of_ble_eq_true rfl) rfl
theorem dX11_raise_44 : decode cX11_raise 44 = .ok (.iload_n 2, 1) := op_28 kcX11_raise (Nat.le_of_ble_eq_true rfl) rfl
theorem dX11_raise_45 : decode cX11_raise 45 = .ok (.ifCond .ne 7, 3) := op_154 (a := 0) (b := 7) kcX11_raise (Nat.le_of_ble_eq_true rfl) rfl rfl rfl (by decide)
theorem dX11_raise_48 : decode cX11_raise 48 = .ok (.iload_n 3, 1) := op_29 kcX11_raise (Nat.le_of_ble_eq_true rfl) rfl
theorem dX11_raise_49 : decode cX11_raise 49 = .ok (.goto 18, 3) := op_167 (a := 0) (b := 18) kcX11_raise (Nat.le_of_ble_eq_true rfl) rfl rfl rfl (by decide)
theorem dX11_raise_52 : decode cX11_raise 52 = .ok (.aload_n 0, 1) := op_42 kcX11_raise (Nat.le_of_ble_eq_true rfl) rfl
theorem dX11_raise_53 : decode cX11_raise 53 = .ok (.getfield 60, 3) := op_180 (a := 0) (b := 60) kcX11_raise (Nat.le_of_ble_eq_true rfl) rfl rfl rfl
theorem dX11_raise_56 : decode cX11_raise 56 = .ok (.getfield 228, 3) := op_180 (a := 0) (b := 228) kcX11_raise (Nat.le_of_ble_eq_true rfl) rfl rfl rfl
theorem dX11_raise_59 : decode cX11_raise 59 = .ok (.iload_n 3, 1) := op_29 kcX11_raise (Nat.le_of_ble_eq_true rfl) rfl
theorem dX11_raise_60 : decode cX11_raise 60 = .ok (.iload_n 2, 1) := op_28 kcX11_raise (Nat.le_of_ble_eq_true rfl) rfl
theorem dX11_raise_61 : decode cX11_raise 61 = .ok (.bipush 10, 2) := op_16 (a := 10) kcX11_raise (Nat.le_of_ble_eq_true rfl) rfl rfl (by decide)
theorem dX11_raise_63 : decode cX11_raise 63 = .ok (.isub, 1) := op_100 kcX11_raise (Nat.le_of_ble_eq_true rfl) rfl
theorem dX11_raise_64 : decode cX11_raise 64 = .ok (.invokestatic 231, 3) := op_184 (a := 0) (b := 231) kcX11_raise (Nat.le_of_ble_eq_true rfl) rfl rfl rfl
theorem dX11_raise_67 : decode cX11_raise 67 = .ok (.ireturn, 1) := op_172 kcX11_raise (Nat.le_of_ble_eq_true rfl) rfl
set_option maxRecDepth 20000 in
theorem ggX11_coup_X6_hasSeat : GoodIn wsX11_coup wsX6_hasSeat := goodIn_r _ [8, 9, 107, 108, 109, 110, 111, 112, 113] rfl gw_wsX6_hasSeat
set_option maxRecDepth 20000 in
theorem gX11_coup_X6_hasSeat : GoodIn wsX11_coup (wsV RX11 145 RX6 yX6_hasSeat wsX6_hasSeat) := goodIn_app (goodIn_of _ (by decide +kernel)) ggX11_coup_X6_hasSeat
set_option maxRecDepth 20000 in
theorem ggX11_coup_X6_hasStir : GoodIn wsX11_coup wsX6_hasStir := goodIn_r _ [13, 14, 107, 108, 109, 110, 111, 112, 113] rfl gw_wsX6_hasStir
set_option maxRecDepth 20000 in
theorem gX11_coup_X6_hasStir : GoodIn wsX11_coup (wsV RX11 165 RX6 yX6_hasStir wsX6_hasStir) := goodIn_app (goodIn_of _ (by decide +kernel)) ggX11_coup_X6_hasStir
set_option maxRecDepth 20000 in
theorem ggX11_coup_X11_isPart : GoodIn wsX11_coup wsX11_isPart := goodIn_r _ [18] rfl gw_wsX11_isPart
set_option maxRecDepth 20000 in
theorem gX11_coup_X11_isPart : GoodIn wsX11_coup (va_wsS RX11 199 yX11_isPart wsX11_isPart) := goodIn_app (goodIn_of _ (by decide +kernel)) ggX11_coup_X11_isPart
set_option maxRecDepth 20000 in
theorem ggX11_coup_X2_serveAllKings : GoodIn wsX11_coup wsX2_serveAllKings := goodIn_r _ [23, 24, 25, 26, 27, 28, 22, 29, 30, 31, 32, 33, 34, 35, 7, 36, 9, 37, 38, 39, 40, 41, 42, 114, 115, 116, 117, 118, 107, 108, 109, 110, 111, 112, 113, 119, 120, 121, 122, 123, 124, 125, 126, 127] rfl gw_wsX2_serveAllKings
set_option maxRecDepth 20000 in
theorem gX11_coup_X2_serveAllKings : GoodIn wsX11_coup (wsV RX11 238 RX2 yX2_serveAllKings wsX2_serveAllKings) := goodIn_app (goodIn_of _ (by decide +kernel)) ggX11_coup_X2_serveAllKings
set_option maxRecDepth 20000 in
theorem ggX11_coup_X2_stirPot : GoodIn wsX11_coup wsX2_stirPot := goodIn_r _ [46, 24, 30, 47, 48, 49, 50, 51, 7, 52, 9, 53, 54, 55, 56, 57, 114, 115, 116, 117, 118, 119, 120, 121, 122, 123, 124, 125, 126, 127, 107, 108, 109, 110, 111, 112, 113] rfl gw_wsX2_stirPot
set_option maxRecDepth 20000 in
theorem gX11_coup_X2_stirPot : GoodIn wsX11_coup (wsV RX11 184 RX2 yX2_stirPot wsX2_stirPot) := goodIn_app (goodIn_of _ (by decide +kernel)) ggX11_coup_X2_stirPot
set_option maxRecDepth 20000 in
theorem gw_wsX0_leastLeader : (wsX0_leastLeader).all goodWord = true := by decide +kernel
set_option maxRecDepth 20000 in
theorem ggX11_coup_X0_leastLeader : GoodIn wsX11_coup wsX0_leastLeader := goodIn_r _ [62, 63, 64, 65, 66, 67, 68, 61, 69, 70, 71, 72, 73, 74, 75, 76, 22, 77, 48, 78, 79, 80, 81, 31, 82, 83, 84, 85, 86, 87, 128, 114, 115, 116, 117, 118, 107, 108, 109, 110, 111, 112, 113, 119, 120, 121, 122, 123, 124, 125, 126, 127] rfl gw_wsX0_leastLeader
set_option maxRecDepth 20000 in
theorem gX11_coup_X0_leastLeader : GoodIn wsX11_coup (wsV RX11 241 RX0 yX0_leastLeader wsX0_leastLeader) := goodIn_app (goodIn_of _ (by decide +kernel)) ggX11_coup_X0_leastLeader
set_option maxRecDepth 20000 in
theorem gw_wsX0_leastBand : (wsX0_leastBand).all goodWord = true := by decide +kernel
set_option maxRecDepth 20000 in
theorem ggX11_coup_X0_leastBand : GoodIn wsX11_coup wsX0_leastBand := goodIn_r _ [91, 63, 64, 65, 70, 71, 72, 61, 73, 74, 75, 76, 22, 77, 48, 78, 79, 80, 81, 31, 82, 83, 84, 85, 86, 87, 128, 114, 115, 116, 117, 118, 107, 108, 109, 110, 111, 112, 113, 119, 120, 121, 122, 123, 124, 125, 126, 127] rfl gw_wsX0_leastBand
set_option maxRecDepth 20000 in
theorem gX11_coup_X0_leastBand : GoodIn wsX11_coup (wsV RX11 244 RX0 yX0_leastBand wsX0_leastBand) := goodIn_app (goodIn_of _ (by decide +kernel)) ggX11_coup_X0_leastBand
theorem kcX11_coup : (cX11_coup).data.toList = cbs 0xacf400b604151b4300b42aac041506009a1d07009ffc1004150436f100b61b4300b42ab800b61c2c00b42aee00b62c00b42aac0205009ac700b81d0a0099a500b61c0a00b42a1500999100b61b0a00b42a 81 := by decide +kernel
theorem dX11_coup_0 : decode cX11_coup 0 = .ok (.aload_n 0, 1) := op_42 kcX11_coup (Nat.le_of_ble_eq_true rfl) rfl
theorem dX11_coup_1 : decode cX11_coup 1 = .ok (.getfield 10, 3) := op_180 (a := 0) (b := 10) kcX11_coup (Nat.le_of_ble_eq_true rfl) rfl rfl rfl
theorem dX11_coup_4 : decode cX11_coup 4 = .ok (.iload_n 1, 1) := op_27 kcX11_coup (Nat.le_of_ble_eq_true rfl) rfl
theorem dX11_coup_5 : decode cX11_coup 5 = .ok (.invokevirtual 145, 3) := op_182 (a := 0) (b := 145) kcX11_coup (Nat.le_of_ble_eq_true rfl) rfl rfl rfl
theorem dX11_coup_8 : decode cX11_coup 8 = .ok (.ifCond .eq 21, 3) := op_153 (a := 0) (b := 21) kcX11_coup (Nat.le_of_ble_eq_true rfl) rfl rfl rfl (by decide)
theorem dX11_coup_11 : decode cX11_coup 11 = .ok (.aload_n 0, 1) := op_42 kcX11_coup (Nat.le_of_ble_eq_true rfl) rfl
theorem dX11_coup_12 : decode cX11_coup 12 = .ok (.getfield 10, 3) := op_180 (a := 0) (b := 10) kcX11_coup (Nat.le_of_ble_eq_true rfl) rfl rfl rfl
theorem dX11_coup_15 : decode cX11_coup 15 = .ok (.iload_n 2, 1) := op_28 kcX11_coup (Nat.le_of_ble_eq_true rfl) rfl
theorem dX11_coup_16 : decode cX11_coup 16 = .ok (.invokevirtual 165, 3) := op_182 (a := 0) (b := 165) kcX11_coup (Nat.le_of_ble_eq_true rfl) rfl rfl rfl
theorem dX11_coup_19 : decode cX11_coup 19 = .ok (.ifCond .eq 10, 3) := op_153 (a := 0) (b := 10) kcX11_coup (Nat.le_of_ble_eq_true rfl) rfl rfl rfl (by decide)
theorem dX11_coup_22 : decode cX11_coup 22 = .ok (.iload_n 3, 1) := op_29 kcX11_coup (Nat.le_of_ble_eq_true rfl) rfl
theorem dX11_coup_23 : decode cX11_coup 23 = .ok (.invokestatic 199, 3) := op_184 (a := 0) (b := 199) kcX11_coup (Nat.le_of_ble_eq_true rfl) rfl rfl rfl
theorem dX11_coup_26 : decode cX11_coup 26 = .ok (.ifCond .ne 5, 3) := op_154 (a := 0) (b := 5) kcX11_coup (Nat.le_of_ble_eq_true rfl) rfl rfl rfl (by decide)
theorem dX11_coup_29 : decode cX11_coup 29 = .ok (.iconst (-1), 1) := op_2 kcX11_coup (Nat.le_of_ble_eq_true rfl) rfl
theorem dX11_coup_30 : decode cX11_coup 30 = .ok (.ireturn, 1) := op_172 kcX11_coup (Nat.le_of_ble_eq_true rfl) rfl
theorem dX11_coup_31 : decode cX11_coup 31 = .ok (.aload_n 0, 1) := op_42 kcX11_coup (Nat.le_of_ble_eq_true rfl) rfl
theorem dX11_coup_32 : decode cX11_coup 32 = .ok (.getfield 44, 3) := op_180 (a := 0) (b := 44) kcX11_coup (Nat.le_of_ble_eq_true rfl) rfl rfl rfl
theorem dX11_coup_35 : decode cX11_coup 35 = .ok (.invokevirtual 238, 3) := op_182 (a := 0) (b := 238) kcX11_coup (Nat.le_of_ble_eq_true rfl) rfl rfl rfl
theorem dX11_coup_38 : decode cX11_coup 38 = .ok (.aload_n 0, 1) := op_42 kcX11_coup (Nat.le_of_ble_eq_true rfl) rfl
theorem dX11_coup_39 : decode cX11_coup 39 = .ok (.getfield 44, 3) := op_180 (a := 0) (b := 44) kcX11_coup (Nat.le_of_ble_eq_true rfl) rfl rfl rfl
theorem dX11_coup_42 : decode cX11_coup 42 = .ok (.iload_n 2, 1) := op_28 kcX11_coup (Nat.le_of_ble_eq_true rfl) rfl
theorem dX11_coup_43 : decode cX11_coup 43 = .ok (.invokevirtual 184, 3) := op_182 (a := 0) (b := 184) kcX11_coup (Nat.le_of_ble_eq_true rfl) rfl rfl rfl
theorem dX11_coup_46 : decode cX11_coup 46 = .ok (.aload_n 0, 1) := op_42 kcX11_coup (Nat.le_of_ble_eq_true rfl) rfl
theorem dX11_coup_47 : decode cX11_coup 47 = .ok (.getfield 67, 3) := op_180 (a := 0) (b := 67) kcX11_coup (Nat.le_of_ble_eq_true rfl) rfl rfl rfl
theorem dX11_coup_50 : decode cX11_coup 50 = .ok (.iload_n 1, 1) := op_27 kcX11_coup (Nat.le_of_ble_eq_true rfl) rfl
theorem dX11_coup_51 : decode cX11_coup 51 = .ok (.invokevirtual 241, 3) := op_182 (a := 0) (b := 241) kcX11_coup (Nat.le_of_ble_eq_true rfl) rfl rfl rfl
theorem dX11_coup_54 : decode cX11_coup 54 = .ok (.istore 4, 2) := op_54 (a := 4) kcX11_coup (Nat.le_of_ble_eq_true rfl) rfl rfl
theorem dX11_coup_56 : decode cX11_coup 56 = .ok (.iload 4, 2) := op_21 (a := 4) kcX11_coup (Nat.le_of_ble_eq_true rfl) rfl rfl
theorem dX11_coup_58 : decode cX11_coup 58 = .ok (.bipush (-4), 2) := op_16 (a := 252) kcX11_coup (Nat.le_of_ble_eq_true rfl) rfl rfl (by decide)
theorem dX11_coup_60 : decode cX11_coup 60 = .ok (.if_icmp .eq 7, 3) := op_159 (a := 0) (b := 7) kcX11_coup (Nat.le_of_ble_eq_true rfl) rfl rfl rfl (by decide)
theorem dX11_coup_63 : decode cX11_coup 63 = .ok (.iload_n 3, 1) := op_29 kcX11_coup (Nat.le_of_ble_eq_true rfl) rfl
theorem dX11_coup_64 : decode cX11_coup 64 = .ok (.ifCond .ne 6, 3) := op_154 (a := 0) (b := 6) kcX11_coup (Nat.le_of_ble_eq_true rfl) rfl rfl rfl (by decide)
theorem dX11_coup_67 : decode cX11_coup 67 = .ok (.iload 4, 2) := op_21 (a := 4) kcX11_coup (Nat.le_of_ble_eq_true rfl) rfl rfl
theorem dX11_coup_69 : decode cX11_coup 69 = .ok (.ireturn, 1) := op_172 kcX11_coup (Nat.le_of_ble_eq_true rfl) rfl
theorem dX11_coup_70 : decode cX11_coup 70 = .ok (.aload_n 0, 1) := op_42 kcX11_coup (Nat.le_of_ble_eq_true rfl) rfl
theorem dX11_coup_71 : decode cX11_coup 71 = .ok (.getfield 67, 3) := op_180 (a := 0) (b := 67) kcX11_coup (Nat.le_of_ble_eq_true rfl) rfl rfl rfl
theorem dX11_coup_74 : decode cX11_coup 74 = .ok (.iload_n 1, 1) := op_27 kcX11_coup (Nat.le_of_ble_eq_true rfl) rfl
theorem dX11_coup_75 : decode cX11_coup 75 = .ok (.iload 4, 2) := op_21 (a := 4) kcX11_coup (Nat.le_of_ble_eq_true rfl) rfl rfl
theorem dX11_coup_77 : decode cX11_coup 77 = .ok (.invokevirtual 244, 3) := op_182 (a := 0) (b := 244) kcX11_coup (Nat.le_of_ble_eq_true rfl) rfl rfl rfl
theorem dX11_coup_80 : decode cX11_coup 80 = .ok (.ireturn, 1) := op_172 kcX11_coup (Nat.le_of_ble_eq_true rfl) rfl
set_option maxRecDepth 20000 in
theorem ggX11_firm_X6_hasStir : GoodIn wsX11_firm wsX6_hasStir := goodIn_r _ [9, 10, 96, 97, 98, 99, 100, 101, 102] rfl gw_wsX6_hasStir
set_option maxRecDepth 20000 in
theorem gX11_firm_X6_hasStir : GoodIn wsX11_firm (wsV RX11 165 RX6 yX6_hasStir wsX6_hasStir) := goodIn_app (goodIn_of _ (by decide +kernel)) ggX11_firm_X6_hasStir
set_option maxRecDepth 20000 in
theorem ggX11_firm_X2_serveAllKings : GoodIn wsX11_firm wsX2_serveAllKings := goodIn_r _ [15, 16, 17, 18, 19, 20, 14, 21, 22, 23, 24, 25, 26, 27, 8, 28, 29, 30, 31, 32, 33, 34, 35, 103, 104, 105, 106, 107, 96, 97, 98, 99, 100, 101, 102, 108, 109, 110, 111, 112, 113, 114, 115, 116] rfl gw_wsX2_serveAllKings
set_option maxRecDepth 20000 in
theorem gX11_firm_X2_serveAllKings : GoodIn wsX11_firm (wsV RX11 238 RX2 yX2_serveAllKings wsX2_serveAllKings) := goodIn_app (goodIn_of _ (by decide +kernel)) ggX11_firm_X2_serveAllKings
set_option maxRecDepth 20000 in
theorem ggX11_firm_X2_stirPot : GoodIn wsX11_firm wsX2_stirPot := goodIn_r _ [39, 16, 22, 40, 41, 42, 43, 44, 8, 45, 29, 46, 47, 48, 49, 50, 103, 104, 105, 106, 107, 108, 109, 110, 111, 112, 113, 114, 115, 116, 96, 97, 98, 99, 100, 101, 102] rfl gw_wsX2_stirPot
set_option maxRecDepth 20000 in
theorem gX11_firm_X2_stirPot : GoodIn wsX11_firm (wsV RX11 184 RX2 yX2_stirPot wsX2_stirPot) := goodIn_app (goodIn_of _ (by decide +kernel)) ggX11_firm_X2_stirPot
set_option maxRecDepth 20000 in
theorem ggX11_firm_X0_leastLeader : GoodIn wsX11_firm wsX0_leastLeader := goodIn_r _ [55, 56, 57, 58, 59, 60, 61, 54, 62, 63, 64, 65, 66, 67, 68, 69, 14, 70, 41, 71, 72, 73, 74, 23, 75, 76, 77, 78, 79, 80, 117, 103, 104, 105, 106, 107, 96, 97, 98, 99, 100, 101, 102, 108, 109, 110, 111, 112, 113, 114, 115, 116] rfl gw_wsX0_leastLeader
set_option maxRecDepth 20000 in
theorem gX11_firm_X0_leastLeader : GoodIn wsX11_firm (wsV RX11 241 RX0 yX0_leastLeader wsX0_leastLeader) := goodIn_app (goodIn_of _ (by decide +kernel)) ggX11_firm_X0_leastLeader
theorem kcX11_firm : (cX11_firm).data.toList = cbs 0xac1cdfffa70103843d80781d041c0900a0fc10f100b61d4300b42a1c00a28200b40a00b42a1d3e033d03b800b61b2c00b42aee00b62c00b42aac0205009aa500b61b0a00b42a 70 := by decide +kernel
theorem dX11_firm_0 : decode cX11_firm 0 = .ok (.aload_n 0, 1) := op_42 kcX11_firm (Nat.le_of_ble_eq_true rfl) rfl
theorem dX11_firm_1 : decode cX11_firm 1 = .ok (.getfield 10, 3) := op_180 (a := 0) (b := 10) kcX11_firm (Nat.le_of_ble_eq_true rfl) rfl rfl rfl
theorem dX11_firm_4 : decode cX11_firm 4 = .ok (.iload_n 1, 1) := op_27 kcX11_firm (Nat.le_of_ble_eq_true rfl) rfl
theorem dX11_firm_5 : decode cX11_firm 5 = .ok (.invokevirtual 165, 3) := op_182 (a := 0) (b := 165) kcX11_firm (Nat.le_of_ble_eq_true rfl) rfl rfl rfl
theorem dX11_firm_8 : decode cX11_firm 8 = .ok (.ifCond .ne 5, 3) := op_154 (a := 0) (b := 5) kcX11_firm (Nat.le_of_ble_eq_true rfl) rfl rfl rfl (by decide)
theorem dX11_firm_11 : decode cX11_firm 11 = .ok (.iconst (-1), 1) := op_2 kcX11_firm (Nat.le_of_ble_eq_true rfl) rfl
theorem dX11_firm_12 : decode cX11_firm 12 = .ok (.ireturn, 1) := op_172 kcX11_firm (Nat.le_of_ble_eq_true rfl) rfl
theorem dX11_firm_13 : decode cX11_firm 13 = .ok (.aload_n 0, 1) := op_42 kcX11_firm (Nat.le_of_ble_eq_true rfl) rfl
theorem dX11_firm_14 : decode cX11_firm 14 = .ok (.getfield 44, 3) := op_180 (a := 0) (b := 44) kcX11_firm (Nat.le_of_ble_eq_true rfl) rfl rfl rfl
theorem dX11_firm_17 : decode cX11_firm 17 = .ok (.invokevirtual 238, 3) := op_182 (a := 0) (b := 238) kcX11_firm (Nat.le_of_ble_eq_true rfl) rfl rfl rfl
theorem dX11_firm_20 : decode cX11_firm 20 = .ok (.aload_n 0, 1) := op_42 kcX11_firm (Nat.le_of_ble_eq_true rfl) rfl
theorem dX11_firm_21 : decode cX11_firm 21 = .ok (.getfield 44, 3) := op_180 (a := 0) (b := 44) kcX11_firm (Nat.le_of_ble_eq_true rfl) rfl rfl rfl
theorem dX11_firm_24 : decode cX11_firm 24 = .ok (.iload_n 1, 1) := op_27 kcX11_firm (Nat.le_of_ble_eq_true rfl) rfl
theorem dX11_firm_25 : decode cX11_firm 25 = .ok (.invokevirtual 184, 3) := op_182 (a := 0) (b := 184) kcX11_firm (Nat.le_of_ble_eq_true rfl) rfl rfl rfl
theorem dX11_firm_28 : decode cX11_firm 28 = .ok (.iconst 0, 1) := op_3 kcX11_firm (Nat.le_of_ble_eq_true rfl) rfl
theorem dX11_firm_29 : decode cX11_firm 29 = .ok (.istore_n 2, 1) := op_61 kcX11_firm (Nat.le_of_ble_eq_true rfl) rfl
theorem dX11_firm_30 : decode cX11_firm 30 = .ok (.iconst 0, 1) := op_3 kcX11_firm (Nat.le_of_ble_eq_true rfl) rfl
theorem dX11_firm_31 : decode cX11_firm 31 = .ok (.istore_n 3, 1) := op_62 kcX11_firm (Nat.le_of_ble_eq_true rfl) rfl
theorem dX11_firm_32 : decode cX11_firm 32 = .ok (.iload_n 3, 1) := op_29 kcX11_firm (Nat.le_of_ble_eq_true rfl) rfl
theorem dX11_firm_33 : decode cX11_firm 33 = .ok (.aload_n 0, 1) := op_42 kcX11_firm (Nat.le_of_ble_eq_true rfl) rfl
theorem dX11_firm_34 : decode cX11_firm 34 = .ok (.getfield 10, 3) := op_180 (a := 0) (b := 10) kcX11_firm (Nat.le_of_ble_eq_true rfl) rfl rfl rfl
theorem dX11_firm_37 : decode cX11_firm 37 = .ok (.getfield 130, 3) := op_180 (a := 0) (b := 130) kcX11_firm (Nat.le_of_ble_eq_true rfl) rfl rfl rfl
theorem dX11_firm_40 : decode cX11_firm 40 = .ok (.if_icmp .ge 28, 3) := op_162 (a := 0) (b := 28) kcX11_firm (Nat.le_of_ble_eq_true rfl) rfl rfl rfl (by decide)
theorem dX11_firm_43 : decode cX11_firm 43 = .ok (.aload_n 0, 1) := op_42 kcX11_firm (Nat.le_of_ble_eq_true rfl) rfl
theorem dX11_firm_44 : decode cX11_firm 44 = .ok (.getfield 67, 3) := op_180 (a := 0) (b := 67) kcX11_firm (Nat.le_of_ble_eq_true rfl) rfl rfl rfl
theorem dX11_firm_47 : decode cX11_firm 47 = .ok (.iload_n 3, 1) := op_29 kcX11_firm (Nat.le_of_ble_eq_true rfl) rfl
theorem dX11_firm_48 : decode cX11_firm 48 = .ok (.invokevirtual 241, 3) := op_182 (a := 0) (b := 241) kcX11_firm (Nat.le_of_ble_eq_true rfl) rfl rfl rfl
theorem dX11_firm_51 : decode cX11_firm 51 = .ok (.bipush (-4), 2) := op_16 (a := 252) kcX11_firm (Nat.le_of_ble_eq_true rfl) rfl rfl (by decide)
theorem dX11_firm_53 : decode cX11_firm 53 = .ok (.if_icmp .ne 9, 3) := op_160 (a := 0) (b := 9) kcX11_firm (Nat.le_of_ble_eq_true rfl) rfl rfl rfl (by decide)
theorem dX11_firm_56 : decode cX11_firm 56 = .ok (.iload_n 2, 1) := op_28 kcX11_firm (Nat.le_of_ble_eq_true rfl) rfl
theorem dX11_firm_57 : decode cX11_firm 57 = .ok (.iconst 1, 1) := op_4 kcX11_firm (Nat.le_of_ble_eq_true rfl) rfl
theorem dX11_firm_58 : decode cX11_firm 58 = .ok (.iload_n 3, 1) := op_29 kcX11_firm (Nat.le_of_ble_eq_true rfl) rfl
theorem dX11_firm_59 : decode cX11_firm 59 = .ok (.ishl, 1) := op_120 kcX11_firm (Nat.le_of_ble_eq_true rfl) rfl
