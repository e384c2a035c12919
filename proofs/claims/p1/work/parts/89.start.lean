set_option maxHeartbeats 8000000 in
set_option maxRecDepth 100000 in
theorem law_disp {p : Program} {l : Launch} {e : Env} {s : State} {m : MethodId} {below : List Frame} {meth : Method} {c : Code} {b : Nat} {xs : Nat → Int32} {A : Nat → Prop} {D : va_G} {G : Nat → ClassId} {H : Heap} {locs : List Loc} {y0 y1 y2 y3 y4 y5 y6 y7 y8 y9 y10 y11 y12 y13 y14 y15 y16 y17 y18 y19 y20 y21 y22 y23 y24 y25 y26 y27 y28 y29 y30 y31 y32 y33 y34 y35 y36 y37 y38 y39 y40 y41 y42 y43 y44 y45 y46 y47 y48 y49 y50 y51 y52 y53 y54 y55 y56 y57 y58 y59 y60 y61 y62 y63 y64 y65 y66 y67 y68 y69 y70 y71 y72 k0 k1 k2 k3 k4 k5 k6 k7 k8 k9 k10 k11 k12 k13 k14 k15 k16 k17 k18 k19 k20 k21 k22 k23 : Nat} (C0 : lw_At p s m meth c b 5 xs) (hA : ∀ q, s.heap.size ≤ q → A q) (hAf : ∀ q, A q → s.heap.size ≤ q) (hK : va_K D vwCl (tyG G) s) (hP : va_P D vwCl (wF G y0 y1 y2 y3 y4 y5 y6 y7 y8 y9 y10 y11 y12 y13 y14 y15 y16 y17 y18 y19 y20 y21 y22 y23 y24 y25 y26 y27 y28 y29 y30 y31 y32 y33 y34 y35 y36 y37 y38 y39 y40 y41 y42 y43 y44 y45 y46 y47 y48 y49 y50 y51 y52 y53 y54 y55 y56 y57 y58 y59 y60 y61 y62 y63 y64 y65 y66 y67 y68 y69 y70 y71 y72 k0 k1 k2 k3 k4 k5 k6 k7 k8 k9 k10 k11 k12 k13 k14 k15 k16 k17 k18 k19 k20 k21 k22 k23) H) (hD : va_D A (wF G y0 y1 y2 y3 y4 y5 y6 y7 y8 y9 y10 y11 y12 y13 y14 y15 y16 y17 y18 y19 y20 y21 y22 y23 y24 y25 y26 y27 y28 y29 y30 y31 y32 y33 y34 y35 y36 y37 y38 y39 y40 y41 y42 y43 y44 y45 y46 y47 y48 y49 y50 y51 y52 y53 y54 y55 y56 y57 y58 y59 y60 y61 y62 y63 y64 y65 y66 y67 y68 y69 y70 y71 y72 k0 k1 k2 k3 k4 k5 k6 k7 k8 k9 k10 k11 k12 k13 k14 k15 k16 k17 k18 k19 k20 k21 k22 k23)) (hS : va_S A s.heap H locs) (ls : Array Slot) (hl : lv_has ls 4 [(3, .int (0 : Int32)), (2, .ref k0), (1, .ref y0), (0, .ref b)]) (x : Int32) : W p l e room_1 s m #[Value.ref b] below meth c H locs 600000 7302250 (lw_Z below #[Value.ref b] s) (F0 m 32 ls [.int x]) := by
  have hx := C0.1
  have hb := C0.2.1
  rcases Decidable.em (x = (0 : Int32)) with hk0 | hk0
  · refine lv_tableIn (tgt := 192) hx hb dL_law_32 (by rw [hk0]; decide) (by rw [hk0]; decide) (by rw [hk0]; rfl) (by decide) ?_
    exact lc_0 C0 hA hAf hK hP hD hS ls hl
  rcases Decidable.em (x = (1 : Int32)) with hk1 | hk1
  · refine lv_tableIn (tgt := 245) hx hb dL_law_32 (by rw [hk1]; decide) (by rw [hk1]; decide) (by rw [hk1]; rfl) (by decide) ?_
    exact lc_1 C0 hA hAf hK hP hD hS ls hl
  rcases Decidable.em (x = (2 : Int32)) with hk2 | hk2
  · refine lv_tableIn (tgt := 268) hx hb dL_law_32 (by rw [hk2]; decide) (by rw [hk2]; decide) (by rw [hk2]; rfl) (by decide) ?_
    exact lc_2 C0 hA hAf hK hP hD hS ls hl
  rcases Decidable.em (x = (3 : Int32)) with hk3 | hk3
  · refine lv_tableIn (tgt := 281) hx hb dL_law_32 (by rw [hk3]; decide) (by rw [hk3]; decide) (by rw [hk3]; rfl) (by decide) ?_
    exact lc_3 C0 hA hAf hK hP hD hS ls hl
  rcases Decidable.em (x = (4 : Int32)) with hk4 | hk4
  · refine lv_tableIn (tgt := 294) hx hb dL_law_32 (by rw [hk4]; decide) (by rw [hk4]; decide) (by rw [hk4]; rfl) (by decide) ?_
    exact lc_4 C0 hA hAf hK hP hD hS ls hl
  rcases Decidable.em (x = (5 : Int32)) with hk5 | hk5
  · refine lv_tableIn (tgt := 317) hx hb dL_law_32 (by rw [hk5]; decide) (by rw [hk5]; decide) (by rw [hk5]; rfl) (by decide) ?_
    exact lc_5 C0 hA hAf hK hP hD hS ls hl
  rcases Decidable.em (x = (6 : Int32)) with hk6 | hk6
  · refine lv_tableIn (tgt := 340) hx hb dL_law_32 (by rw [hk6]; decide) (by rw [hk6]; decide) (by rw [hk6]; rfl) (by decide) ?_
    exact lc_6 C0 hA hAf hK hP hD hS ls hl
  rcases Decidable.em (x = (7 : Int32)) with hk7 | hk7
  · refine lv_tableIn (tgt := 373) hx hb dL_law_32 (by rw [hk7]; decide) (by rw [hk7]; decide) (by rw [hk7]; rfl) (by decide) ?_
    exact lc_7 C0 hA hAf hK hP hD hS ls hl
  rcases Decidable.em (x = (8 : Int32)) with hk8 | hk8
  · refine lv_tableIn (tgt := 406) hx hb dL_law_32 (by rw [hk8]; decide) (by rw [hk8]; decide) (by rw [hk8]; rfl) (by decide) ?_
    exact lc_8 C0 hA hAf hK hP hD hS ls hl
  rcases Decidable.em (x = (9 : Int32)) with hk9 | hk9
  · refine lv_tableIn (tgt := 465) hx hb dL_law_32 (by rw [hk9]; decide) (by rw [hk9]; decide) (by rw [hk9]; rfl) (by decide) ?_
    exact lc_9 C0 hA hAf hK hP hD hS ls hl
  rcases Decidable.em (x = (10 : Int32)) with hk10 | hk10
  · refine lv_tableIn (tgt := 498) hx hb dL_law_32 (by rw [hk10]; decide) (by rw [hk10]; decide) (by rw [hk10]; rfl) (by decide) ?_
    exact lc_10 C0 hA hAf hK hP hD hS ls hl
  rcases Decidable.em (x = (11 : Int32)) with hk11 | hk11
  · refine lv_tableIn (tgt := 521) hx hb dL_law_32 (by rw [hk11]; decide) (by rw [hk11]; decide) (by rw [hk11]; rfl) (by decide) ?_
    exact lc_11 C0 hA hAf hK hP hD hS ls hl
  rcases Decidable.em (x = (12 : Int32)) with hk12 | hk12
  · refine lv_tableIn (tgt := 554) hx hb dL_law_32 (by rw [hk12]; decide) (by rw [hk12]; decide) (by rw [hk12]; rfl) (by decide) ?_
    exact lc_12 C0 hA hAf hK hP hD hS ls hl
  rcases Decidable.em (x = (13 : Int32)) with hk13 | hk13
  · refine lv_tableIn (tgt := 597) hx hb dL_law_32 (by rw [hk13]; decide) (by rw [hk13]; decide) (by rw [hk13]; rfl) (by decide) ?_
    exact lc_13 C0 hA hAf hK hP hD hS ls hl
  rcases Decidable.em (x = (14 : Int32)) with hk14 | hk14
  · refine lv_tableIn (tgt := 640) hx hb dL_law_32 (by rw [hk14]; decide) (by rw [hk14]; decide) (by rw [hk14]; rfl) (by decide) ?_
    exact lc_14 C0 hA hAf hK hP hD hS ls hl
  rcases Decidable.em (x = (15 : Int32)) with hk15 | hk15
  · refine lv_tableIn (tgt := 673) hx hb dL_law_32 (by rw [hk15]; decide) (by rw [hk15]; decide) (by rw [hk15]; rfl) (by decide) ?_
    exact lc_15 C0 hA hAf hK hP hD hS ls hl
  rcases Decidable.em (x = (16 : Int32)) with hk16 | hk16
  · refine lv_tableIn (tgt := 696) hx hb dL_law_32 (by rw [hk16]; decide) (by rw [hk16]; decide) (by rw [hk16]; rfl) (by decide) ?_
    exact lc_16 C0 hA hAf hK hP hD hS ls hl
  rcases Decidable.em (x = (17 : Int32)) with hk17 | hk17
  · refine lv_tableIn (tgt := 709) hx hb dL_law_32 (by rw [hk17]; decide) (by rw [hk17]; decide) (by rw [hk17]; rfl) (by decide) ?_
    exact lc_17 C0 hA hAf hK hP hD hS ls hl
  rcases Decidable.em (x = (18 : Int32)) with hk18 | hk18
  · refine lv_tableIn (tgt := 753) hx hb dL_law_32 (by rw [hk18]; decide) (by rw [hk18]; decide) (by rw [hk18]; rfl) (by decide) ?_
    exact lc_18 C0 hA hAf hK hP hD hS ls hl
  rcases Decidable.em (x = (19 : Int32)) with hk19 | hk19
  · refine lv_tableIn (tgt := 787) hx hb dL_law_32 (by rw [hk19]; decide) (by rw [hk19]; decide) (by rw [hk19]; rfl) (by decide) ?_
    exact lc_19 C0 hA hAf hK hP hD hS ls hl
  rcases Decidable.em (x = (20 : Int32)) with hk20 | hk20
  · refine lv_tableIn (tgt := 820) hx hb dL_law_32 (by rw [hk20]; decide) (by rw [hk20]; decide) (by rw [hk20]; rfl) (by decide) ?_
    exact lc_20 C0 hA hAf hK hP hD hS ls hl
  rcases Decidable.em (x = (21 : Int32)) with hk21 | hk21
  · refine lv_tableIn (tgt := 853) hx hb dL_law_32 (by rw [hk21]; decide) (by rw [hk21]; decide) (by rw [hk21]; rfl) (by decide) ?_
    exact lc_21 C0 hA hAf hK hP hD hS ls hl
  rcases Decidable.em (x = (22 : Int32)) with hk22 | hk22
  · refine lv_tableIn (tgt := 896) hx hb dL_law_32 (by rw [hk22]; decide) (by rw [hk22]; decide) (by rw [hk22]; rfl) (by decide) ?_
    exact lc_22 C0 hA hAf hK hP hD hS ls hl
  rcases Decidable.em (x = (23 : Int32)) with hk23 | hk23
  · refine lv_tableIn (tgt := 919) hx hb dL_law_32 (by rw [hk23]; decide) (by rw [hk23]; decide) (by rw [hk23]; rfl) (by decide) ?_
    exact lc_23 C0 hA hAf hK hP hD hS ls hl
  rcases Decidable.em (x = (24 : Int32)) with hk24 | hk24
  · refine lv_tableIn (tgt := 942) hx hb dL_law_32 (by rw [hk24]; decide) (by rw [hk24]; decide) (by rw [hk24]; rfl) (by decide) ?_
    exact lc_24 C0 hA hAf hK hP hD hS ls hl
  rcases Decidable.em (x = (25 : Int32)) with hk25 | hk25
  · refine lv_tableIn (tgt := 965) hx hb dL_law_32 (by rw [hk25]; decide) (by rw [hk25]; decide) (by rw [hk25]; rfl) (by decide) ?_
    exact lc_25 C0 hA hAf hK hP hD hS ls hl
  rcases Decidable.em (x = (26 : Int32)) with hk26 | hk26
  · refine lv_tableIn (tgt := 988) hx hb dL_law_32 (by rw [hk26]; decide) (by rw [hk26]; decide) (by rw [hk26]; rfl) (by decide) ?_
    exact lc_26 C0 hA hAf hK hP hD hS ls hl
  rcases Decidable.em (x = (27 : Int32)) with hk27 | hk27
  · refine lv_tableIn (tgt := 1011) hx hb dL_law_32 (by rw [hk27]; decide) (by rw [hk27]; decide) (by rw [hk27]; rfl) (by decide) ?_
    exact lc_27 C0 hA hAf hK hP hD hS ls hl
  rcases Decidable.em (x = (28 : Int32)) with hk28 | hk28
  · refine lv_tableIn (tgt := 1055) hx hb dL_law_32 (by rw [hk28]; decide) (by rw [hk28]; decide) (by rw [hk28]; rfl) (by decide) ?_
    exact lc_28 C0 hA hAf hK hP hD hS ls hl
  rcases Decidable.em (x = (29 : Int32)) with hk29 | hk29
  · refine lv_tableIn (tgt := 1088) hx hb dL_law_32 (by rw [hk29]; decide) (by rw [hk29]; decide) (by rw [hk29]; rfl) (by decide) ?_
    exact lc_29 C0 hA hAf hK hP hD hS ls hl
  rcases Decidable.em (x = (30 : Int32)) with hk30 | hk30
  · refine lv_tableIn (tgt := 1111) hx hb dL_law_32 (by rw [hk30]; decide) (by rw [hk30]; decide) (by rw [hk30]; rfl) (by decide) ?_
    exact lc_30 C0 hA hAf hK hP hD hS ls hl
  rcases Decidable.em (x = (31 : Int32)) with hk31 | hk31
  · refine lv_tableIn (tgt := 1134) hx hb dL_law_32 (by rw [hk31]; decide) (by rw [hk31]; decide) (by rw [hk31]; rfl) (by decide) ?_
    exact lc_31 C0 hA hAf hK hP hD hS ls hl
  rcases Decidable.em (x = (32 : Int32)) with hk32 | hk32
  · refine lv_tableIn (tgt := 1177) hx hb dL_law_32 (by rw [hk32]; decide) (by rw [hk32]; decide) (by rw [hk32]; rfl) (by decide) ?_
    exact lc_32 C0 hA hAf hK hP hD hS ls hl
  rcases Decidable.em (x = (33 : Int32)) with hk33 | hk33
  · refine lv_tableIn (tgt := 1220) hx hb dL_law_32 (by rw [hk33]; decide) (by rw [hk33]; decide) (by rw [hk33]; rfl) (by decide) ?_
    exact lc_33 C0 hA hAf hK hP hD hS ls hl
  rcases Decidable.em (x = (34 : Int32)) with hk34 | hk34
  · refine lv_tableIn (tgt := 1273) hx hb dL_law_32 (by rw [hk34]; decide) (by rw [hk34]; decide) (by rw [hk34]; rfl) (by decide) ?_
    exact lc_34 C0 hA hAf hK hP hD hS ls hl
  rcases Decidable.em (x = (35 : Int32)) with hk35 | hk35
  · refine lv_tableIn (tgt := 1286) hx hb dL_law_32 (by rw [hk35]; decide) (by rw [hk35]; decide) (by rw [hk35]; rfl) (by decide) ?_
    exact lc_35 C0 hA hAf hK hP hD hS ls hl
  have thk0 := tsw_ne hk0
  rw [show ((0 : Int32)).toInt = 0 from by decide] at thk0
  have thk1 := tsw_ne hk1
  rw [show ((1 : Int32)).toInt = 1 from by decide] at thk1
  have thk2 := tsw_ne hk2
  rw [show ((2 : Int32)).toInt = 2 from by decide] at thk2
  have thk3 := tsw_ne hk3
  rw [show ((3 : Int32)).toInt = 3 from by decide] at thk3
  have thk4 := tsw_ne hk4
  rw [show ((4 : Int32)).toInt = 4 from by decide] at thk4
  have thk5 := tsw_ne hk5
  rw [show ((5 : Int32)).toInt = 5 from by decide] at thk5
  have thk6 := tsw_ne hk6
  rw [show ((6 : Int32)).toInt = 6 from by decide] at thk6
  have thk7 := tsw_ne hk7
  rw [show ((7 : Int32)).toInt = 7 from by decide] at thk7
  have thk8 := tsw_ne hk8
  rw [show ((8 : Int32)).toInt = 8 from by decide] at thk8
  have thk9 := tsw_ne hk9
  rw [show ((9 : Int32)).toInt = 9 from by decide] at thk9
  have thk10 := tsw_ne hk10
  rw [show ((10 : Int32)).toInt = 10 from by decide] at thk10
  have thk11 := tsw_ne hk11
  rw [show ((11 : Int32)).toInt = 11 from by decide] at thk11
  have thk12 := tsw_ne hk12
  rw [show ((12 : Int32)).toInt = 12 from by decide] at thk12
  have thk13 := tsw_ne hk13
  rw [show ((13 : Int32)).toInt = 13 from by decide] at thk13
  have thk14 := tsw_ne hk14
  rw [show ((14 : Int32)).toInt = 14 from by decide] at thk14
  have thk15 := tsw_ne hk15
  rw [show ((15 : Int32)).toInt = 15 from by decide] at thk15
  have thk16 := tsw_ne hk16
  rw [show ((16 : Int32)).toInt = 16 from by decide] at thk16
  have thk17 := tsw_ne hk17
  rw [show ((17 : Int32)).toInt = 17 from by decide] at thk17
  have thk18 := tsw_ne hk18
  rw [show ((18 : Int32)).toInt = 18 from by decide] at thk18
  have thk19 := tsw_ne hk19
  rw [show ((19 : Int32)).toInt = 19 from by decide] at thk19
  have thk20 := tsw_ne hk20
  rw [show ((20 : Int32)).toInt = 20 from by decide] at thk20
  have thk21 := tsw_ne hk21
  rw [show ((21 : Int32)).toInt = 21 from by decide] at thk21
  have thk22 := tsw_ne hk22
  rw [show ((22 : Int32)).toInt = 22 from by decide] at thk22
  have thk23 := tsw_ne hk23
  rw [show ((23 : Int32)).toInt = 23 from by decide] at thk23
  have thk24 := tsw_ne hk24
  rw [show ((24 : Int32)).toInt = 24 from by decide] at thk24
  have thk25 := tsw_ne hk25
  rw [show ((25 : Int32)).toInt = 25 from by decide] at thk25
  have thk26 := tsw_ne hk26
  rw [show ((26 : Int32)).toInt = 26 from by decide] at thk26
  have thk27 := tsw_ne hk27
  rw [show ((27 : Int32)).toInt = 27 from by decide] at thk27
  have thk28 := tsw_ne hk28
  rw [show ((28 : Int32)).toInt = 28 from by decide] at thk28
  have thk29 := tsw_ne hk29
  rw [show ((29 : Int32)).toInt = 29 from by decide] at thk29
  have thk30 := tsw_ne hk30
  rw [show ((30 : Int32)).toInt = 30 from by decide] at thk30
  have thk31 := tsw_ne hk31
  rw [show ((31 : Int32)).toInt = 31 from by decide] at thk31
  have thk32 := tsw_ne hk32
  rw [show ((32 : Int32)).toInt = 32 from by decide] at thk32
  have thk33 := tsw_ne hk33
  rw [show ((33 : Int32)).toInt = 33 from by decide] at thk33
  have thk34 := tsw_ne hk34
  rw [show ((34 : Int32)).toInt = 34 from by decide] at thk34
  have thk35 := tsw_ne hk35
  rw [show ((35 : Int32)).toInt = 35 from by decide] at thk35
  refine lv_tableOut (tgt := 1309) hx hb dL_law_32 (by omega) (by decide) ?_
  exact law_end C0 hAf hS ls hl
theorem ml_0 : Cond.instantiable RX0 1 ∈ lw_tbl := by decide +kernel
theorem ml_1 : Cond.instantiable RX1 9 ∈ lw_tbl := by decide +kernel
theorem ml_2 : Cond.instantiable RX2 5 ∈ lw_tbl := by decide +kernel
theorem ml_3 : Cond.instantiable RX3 4 ∈ lw_tbl := by decide +kernel
theorem ml_4 : Cond.instantiable RX4 2 ∈ lw_tbl := by decide +kernel
theorem ml_5 : Cond.instantiable RX5 3 ∈ lw_tbl := by decide +kernel
theorem ml_6 : Cond.instantiable RX6 7 ∈ lw_tbl := by decide +kernel
theorem ml_7 : Cond.instantiable RX7 3 ∈ lw_tbl := by decide +kernel
theorem ml_8 : Cond.instantiable RX8 9 ∈ lw_tbl := by decide +kernel
theorem ml_9 : Cond.instantiable RX9 6 ∈ lw_tbl := by decide +kernel
theorem ml_10 : Cond.instantiable RX10 9 ∈ lw_tbl := by decide +kernel
theorem ml_11 : Cond.instantiable RX11 15 ∈ lw_tbl := by decide +kernel
theorem ml_12 : Cond.instantiable RX12 37 ∈ lw_tbl := by decide +kernel
theorem ml_13 : Cond.arrayClass .byte ∈ lw_tbl := by decide +kernel
theorem ml_14 : Cond.arrayClass .int ∈ lw_tbl := by decide +kernel
theorem ml_15 : Cond.arrayClass .long ∈ lw_tbl := by decide +kernel
theorem ml_16 : Cond.arrayClass .boolean ∈ lw_tbl := by decide +kernel
theorem ml_17 : Cond.arrayOver (.object "LadleKings$State") ∈ lw_tbl := by decide +kernel
theorem ml_18 : Cond.arrayOver (.object "LadleKings$Sheet") ∈ lw_tbl := by decide +kernel
theorem ml_19 : Cond.methodLinkNest RX11 9 yX6_init "LadleKings" ∈ lw_tbl := by decide +kernel
theorem ml_20 : Cond.methodLinkNest RX11 25 yX9_init "LadleKings" ∈ lw_tbl := by decide +kernel
theorem ml_21 : Cond.methodLinkNest RX10 11 yX6_init "LadleKings" ∈ lw_tbl := by decide +kernel
theorem ml_22 : Cond.methodLinkNest RX11 106 yX7_init "LadleKings" ∈ lw_tbl := by decide +kernel
theorem ml_23 : Cond.classLink RL 7 RX11 ∈ lw_tbl := by decide +kernel
theorem ml_24 : Cond.initialized RX11 ∈ lw_tbl := by decide +kernel
theorem ml_25 : Cond.methodLink RL 9 yX11_init ∈ lw_tbl := by decide +kernel
theorem ml_26 : Cond.instanceMethod yX11_init ∈ lw_tbl := by decide +kernel
theorem ml_27 : Cond.classLink RL 10 RX12 ∈ lw_tbl := by decide +kernel
theorem ml_28 : Cond.initialized RX12 ∈ lw_tbl := by decide +kernel
theorem ml_29 : Cond.methodLink RL 12 yX12_init ∈ lw_tbl := by decide +kernel
theorem ml_30 : Cond.instanceMethod yX12_init ∈ lw_tbl := by decide +kernel
set_option maxHeartbeats 16000000 in
set_option maxRecDepth 100000 in
theorem whole_start {p : Program} {e : Env} {s : State} {m : MethodId} {below : List Frame} {meth : Method} {c : Code} (l : Launch) (hflags : l.flags = flags0) {b L : Nat} {xs : Nat → Int32} (hL : L ≤ 5) (C0 : lw_At p s m meth c b L xs) : W p l e room_1 s m #[Value.ref b] below meth c s.heap [] 0 0 (lw_Z below #[Value.ref b] s) (entryFrame m ([Value.ref b] : List Value).toArray 4) := by
  obtain ⟨hx, hb, hr, hml, hown, hts, hX, hbl, hlocks, hgv⟩ := id C0
  have hown : s.vm.findClass RL = some m.cls := hown
  have htsL : ∀ w ∈ wsL_law, w.before #[Value.ref b] s = true := fun w h => hts w (wsL_law_in w h)
  obtain ⟨A, hA, hAf⟩ : ∃ A : Nat → Prop, (∀ q, s.heap.size ≤ q → A q) ∧ (∀ q, A q → s.heap.size ≤ q) := ⟨fun q => s.heap.size ≤ q, fun _ h => h, fun _ h => h⟩
  have hbA : ¬ A b := fun h => absurd (hAf b h) (Nat.not_le.mpr hbl)
  obtain ⟨c0, i0, hKn0⟩ := u_known (C := RX0) (T := TX0) (N := 1) (n := 1) hts inX0 (hts _ ml_0)
  obtain ⟨c1, i1, hKn1⟩ := u_known (C := RX1) (T := TX1) (N := 9) (n := 9) hts inX1 (hts _ ml_1)
  obtain ⟨c2, i2, hKn2⟩ := u_known (C := RX2) (T := TX2) (N := 5) (n := 5) hts inX2 (hts _ ml_2)
  obtain ⟨c3, i3, hKn3⟩ := u_known (C := RX3) (T := TX3) (N := 4) (n := 4) hts inX3 (hts _ ml_3)
  obtain ⟨c4, i4, hKn4⟩ := u_known (C := RX4) (T := TX4) (N := 2) (n := 2) hts inX4 (hts _ ml_4)
  obtain ⟨c5, i5, hKn5⟩ := u_known (C := RX5) (T := TX5) (N := 3) (n := 3) hts inX5 (hts _ ml_5)
  obtain ⟨c6, i6, hKn6⟩ := u_known (C := RX6) (T := TX6) (N := 7) (n := 7) hts inX6 (hts _ ml_6)
  obtain ⟨c7, i7, hKn7⟩ := u_known (C := RX7) (T := TX7) (N := 3) (n := 3) hts inX7 (hts _ ml_7)
  obtain ⟨c8, i8, hKn8⟩ := u_known (C := RX8) (T := TX8) (N := 9) (n := 9) hts inX8 (hts _ ml_8)
  obtain ⟨c9, i9, hKn9⟩ := u_known (C := RX9) (T := TX9) (N := 6) (n := 6) hts inX9 (hts _ ml_9)
  obtain ⟨c10, i10, hKn10⟩ := u_known (C := RX10) (T := TX10) (N := 9) (n := 9) hts inX10 (hts _ ml_10)
  obtain ⟨c11, i11, hKn11⟩ := u_known (C := RX11) (T := TX11) (N := 15) (n := 15) hts inX11 (hts _ ml_11)
  obtain ⟨c12, i12, hKn12⟩ := u_known (C := RX12) (T := TX12) (N := 37) (n := 37) hts inX12 (hts _ ml_12)
  obtain ⟨D, hKc⟩ : ∃ D : va_G, ∀ (k : Nat) (q : vw_C), vwCl[k]? = some q → u_Kn s q.1 q.2.1 q.2.2 (D.1 k) (D.2 k) := by
    refine ⟨(fun k => match k with | 0 => c0 | 1 => c1 | 2 => c2 | 3 => c3 | 4 => c4 | 5 => c5 | 6 => c6 | 7 => c7 | 8 => c8 | 9 => c9 | 10 => c10 | 11 => c11 | _ => c12, fun k => match k with | 0 => i0 | 1 => i1 | 2 => i2 | 3 => i3 | 4 => i4 | 5 => i5 | 6 => i6 | 7 => i7 | 8 => i8 | 9 => i9 | 10 => i10 | 11 => i11 | _ => i12), ?_⟩
    intro k q hq
    match k, hq with
    | 0, hq => cases hq; exact hKn0
    | 1, hq => cases hq; exact hKn1
    | 2, hq => cases hq; exact hKn2
    | 3, hq => cases hq; exact hKn3
    | 4, hq => cases hq; exact hKn4
    | 5, hq => cases hq; exact hKn5
    | 6, hq => cases hq; exact hKn6
    | 7, hq => cases hq; exact hKn7
    | 8, hq => cases hq; exact hKn8
    | 9, hq => cases hq; exact hKn9
    | 10, hq => cases hq; exact hKn10
    | 11, hq => cases hq; exact hKn11
    | 12, hq => cases hq; exact hKn12
    | k + 13, hq => simp [vwCl] at hq
  obtain ⟨g0, gk0, gc0, ga0, gb0, gd0⟩ := Cond.arrayClass_spec (hts _ ml_13)
  obtain ⟨g1, gk1, gc1, ga1, gb1, gd1⟩ := Cond.arrayClass_spec (hts _ ml_14)
  obtain ⟨g2, gk2, gc2, ga2, gb2, gd2⟩ := Cond.arrayClass_spec (hts _ ml_15)
  obtain ⟨g3, gk3, gc3, ga3, gb3, gd3⟩ := Cond.arrayClass_spec (hts _ ml_16)
  have hAO0 : va_AO "LadleKings$State" s := va_AO.of (hts _ ml_17)
  obtain ⟨gc4, g4, gk4, ge4, -, gb4, gd4, ga4⟩ := Cond.arrayOver_spec (show (Cond.arrayOver (.object "LadleKings$State")).holds #[] s none s [] = true from hAO0)
  have hAO1 : va_AO "LadleKings$Sheet" s := va_AO.of (hts _ ml_18)
  obtain ⟨gc5, g5, gk5, ge5, -, gb5, gd5, ga5⟩ := Cond.arrayOver_spec (show (Cond.arrayOver (.object "LadleKings$Sheet")).holds #[] s none s [] = true from hAO1)
  have hNw0 : va_Nw (.methodLinkNest RX11 9 yX6_init "LadleKings") s := va_Nw.of rfl (hts _ ml_19)
  have hNw1 : va_Nw (.methodLinkNest RX11 25 yX9_init "LadleKings") s := va_Nw.of rfl (hts _ ml_20)
  have hNw2 : va_Nw (.methodLinkNest RX10 11 yX6_init "LadleKings") s := va_Nw.of rfl (hts _ ml_21)
  have hNw3 : va_Nw (.methodLinkNest RX11 106 yX7_init "LadleKings") s := va_Nw.of rfl (hts _ ml_22)
  obtain ⟨G, hG⟩ : ∃ G : Nat → ClassId, G = (fun k => match k with | 0 => g0 | 1 => g1 | 2 => g2 | 3 => g3 | 4 => g4 | _ => g5) := ⟨_, rfl⟩
  have hK : va_K D vwCl (tyG G) s := by
    refine ⟨hKc, ?_⟩
    subst hG
    intro k q hq
    match k, hq with
    | 0, hq => cases hq; exact ⟨fun n z => ⟨fun k h => (by cases h), gk0, gb0, gc0, gd0⟩, ga0⟩
    | 1, hq => cases hq; exact ⟨fun n z => ⟨fun k h => (by cases h), gk1, gb1, gc1, gd1⟩, ga1⟩
    | 2, hq => cases hq; exact ⟨fun n z => ⟨fun k h => (by cases h), gk2, gb2, gc2, gd2⟩, ga2⟩
    | 3, hq => cases hq; exact ⟨fun n z => ⟨fun k h => (by cases h), gk3, gb3, gc3, gd3⟩, ga3⟩
    | 4, hq => cases hq; exact ⟨fun n z => ⟨fun k h => (by cases h), gk4, gb4, gc4, gd4⟩, gk4, gc4, gb4, gd4, ge4, ga4⟩
    | 5, hq => cases hq; exact ⟨fun n z => ⟨fun k h => (by cases h), gk5, gb5, gc5, gd5⟩, gk5, gc5, gb5, gd5, ge5, ga5⟩
    | k + 6, hq => simp [tyG] at hq
  clear hG
  have hS : va_S A s.heap s.heap [] := va_S.rf
  have hP : va_P D vwCl [] s.heap := fun k q h => by simp at h
  have hD : va_D A [] := ⟨fun i j p q h => by simp at h, fun k q h => by simp at h⟩
  have hl := lv_entry ([.ref b]) (n := 4) (Nat.le_of_ble_eq_true rfl)
  rw [lg_entry_eq]
  generalize (lg_sl ([.ref b]) ++ List.replicate (4 - (lg_sl ([.ref b])).length) Slot.unset).toArray = ls at hl ⊢
  have hl : lv_has ls 4 [(0, .ref b)] := hl
  refine va_new (ci := 11) (fs := [.null, .null, .null, .null, .null, .null, .null, .null, .null, .null, .null, .null, .null, .int (0 : Int32), .int (0 : Int32)]) (C := RX11) (T := TX11) (N := 15) hx hb hts inX11 tyX11 tyX11_ok hown (hts _ ml_23) (hts _ ml_11) (hts _ ml_24) hK hP hD hS hA rfl (fun j hj => by rcases j with _ | (_ | (_ | (_ | (_ | (_ | (_ | (_ | (_ | (_ | (_ | (_ | (_ | (_ | (_ | j)))))))))))))) <;> first | rfl | (exfalso; omega)) (Nat.le_of_ble_eq_true rfl) (Nat.le_of_ble_eq_true rfl) dL_law_0 (fun q1 H hP hD hS => ?_)
  have hP : va_P D vwCl [(q1, .inr (11, [.null, .null, .null, .null, .null, .null, .null, .null, .null, .null, .null, .null, .null, .int (0 : Int32), .int (0 : Int32)]))] H := hP
  have hD : va_D A [(q1, .inr (11, [.null, .null, .null, .null, .null, .null, .null, .null, .null, .null, .null, .null, .null, .int (0 : Int32), .int (0 : Int32)]))] := hD
  refine lv_dup hx hb dL_law_3 rfl ?_
  have hFc := va_free (wc := [(q1, .inr (11, [.null, .null, .null, .null, .null, .null, .null, .null, .null, .null, .null, .null, .null, .int (0 : Int32), .int (0 : Int32)]))]) hD hS hA [0] rfl
  refine va_callv (va_runI (As := []) (rest := [.ref q1]) ⟨hx, hb, hml, hown, htsL⟩ (c_X11_init (l := l) (D := D) (G := G) (sz := H.size) (a_p0 := q1) (u_fill_0 := u_fill_0) (h_fill := h_fill)) (cwI 0 htsL gL_law_X11_init rfl rfl rfl (hts _ ml_24) (hts _ ml_25) (hts _ ml_26) rfl (by decide +kernel) ⟨(Nat.le_of_ble_eq_true rfl), (Nat.le_of_ble_eq_true rfl)⟩) ⟨fun a U g mk q => by obtain ⟨q0, q1, qP, qK, qD, f0, f1, f2, f3, f4, f5⟩ := q; exact ⟨q0, q1, qP, va_K.moved (u := U) (U := U.calling g mk a) (Vm.Alike.refl U.vm) qK, qD, va_Nw.same rfl rfl f0, va_Nw.same rfl rfl f1, va_Nw.same rfl rfl f2, va_Nw.same rfl rfl f3, va_AO.moved (Vm.Alike.refl U.vm) f4, va_AO.moved (Vm.Alike.refl U.vm) f5⟩, fun U hU hW => ⟨rfl, by rw [hU], by rw [hU]; exact hP.sub [0] rfl, va_K.moved hW.alike hK, (hD.sub [0] rfl rfl).weaken (fun _ _ _ _ => trivial), va_Nw.warmM hW hNw0, va_Nw.warmM hW hNw1, va_Nw.warmM hW hNw2, va_Nw.warmM hW hNw3, va_AO.moved hW.alike hAO0, va_AO.moved hW.alike hAO1⟩⟩ rfl rfl hl.1 rfl (lv_room (Nat.le_of_ble_eq_true rfl)) dL_law_4 ⟨(Nat.le_of_ble_eq_true rfl), (Nat.le_of_ble_eq_true rfl)⟩) hS (fun q _ h => hFc q h) hFc (fun u t H1 locs ht hvm hw hB hz1 hk1 hSn => ?_)
  obtain ⟨q2, q3, q4, q5, q6, q7, q8, q9, q10, q11, q12, q13, q14, q15, q16, q17, q18, q19, q20, q21, q22, q23, q24, q25, q26, q27, q28, q29, q30, q31, q32, q33, q34, q35, q36, q37, q38, q39, q40, q41, q42, q43, q44, q45, q46, q47, q48, q49, q50, q51, q52, q53, q54, q55, q56, q57, q58, q59, q60, q61, q62, q63, q64, q65, q66, q67, q68, q69, q70, q71, q72, q73, hP1, hK1, hD1⟩ := hB
  rw [ht] at hP1
  obtain ⟨hP, hD⟩ := gc_join (ws' := [(q1, .inr (11, [.ref q2, .ref q8, .ref q14, .ref q16, .ref q30, .ref q34, .ref q38, .ref q41, .ref q42, .ref q44, .ref q51, .ref q52, .ref q53, .int (0 : Int32), .int (0 : Int32)])), (q2, .inr (6, [.int (4 : Int32), .int (0 : Int32), .ref q3, .ref q4, .ref q5, .ref q6, .ref q7])), (q3, .inl (G 1, 7, .inl (fun _ => (0 : Int32)))), (q4, .inl (G 1, 5, .inl (fun _ => (0 : Int32)))), (q5, .inl (G 1, 5, .inl (fun _ => (0 : Int32)))), (q6, .inl (G 1, 5, .inl (fun _ => (0 : Int32)))), (q7, .inl (G 1, 35, .inl (fun _ => (0 : Int32)))), (q8, .inr (8, [.ref q9, .ref q10, .ref q11, .ref q12, .ref q13, .int (0 : Int32), .int (0 : Int32), .int (0 : Int32), .int (0 : Int32)])), (q9, .inl (G 1, 7, .inl (fun _ => (0 : Int32)))), (q10, .inl (G 1, 7, .inl (fun _ => (0 : Int32)))), (q11, .inl (G 1, 7, .inl u_fill_0)), (q12, .inl (G 1, 7, .inl (fun _ => (0 : Int32)))), (q13, .inl (G 1, 6, .inl (fun _ => (0 : Int32)))), (q14, .inr (9, [.ref q15, .int (0 : Int32), .int (0 : Int32), .int (0 : Int32), .int (0 : Int32), .int (0 : Int32)])), (q15, .inl (G 0, 320, .inl (fun _ => (0 : Int32)))), (q16, .inr (10, [.ref q14, .ref q17, .ref q23, .int (0 : Int32), .int (0 : Int32), .int (0 : Int32), .int (0 : Int32), .int (0 : Int32), .ref q29])), (q17, .inr (6, [.int (4 : Int32), .int (0 : Int32), .ref q18, .ref q19, .ref q20, .ref q21, .ref q22])), (q18, .inl (G 1, 7, .inl (fun _ => (0 : Int32)))), (q19, .inl (G 1, 5, .inl (fun _ => (0 : Int32)))), (q20, .inl (G 1, 5, .inl (fun _ => (0 : Int32)))), (q21, .inl (G 1, 5, .inl (fun _ => (0 : Int32)))), (q22, .inl (G 1, 35, .inl (fun _ => (0 : Int32)))), (q23, .inr (8, [.ref q24, .ref q25, .ref q26, .ref q27, .ref q28, .int (0 : Int32), .int (0 : Int32), .int (0 : Int32), .int (0 : Int32)])), (q24, .inl (G 1, 7, .inl (fun _ => (0 : Int32)))), (q25, .inl (G 1, 7, .inl (fun _ => (0 : Int32)))), (q26, .inl (G 1, 7, .inl u_fill_0)), (q27, .inl (G 1, 7, .inl (fun _ => (0 : Int32)))), (q28, .inl (G 1, 6, .inl (fun _ => (0 : Int32)))), (q29, .inl (G 1, 7, .inl (fun _ => (0 : Int32)))), (q30, .inr (2, [.ref q2, .ref q8, .ref q31, .ref q32, .ref q33])), (q31, .inl (G 1, 49, .inl (fun _ => (0 : Int32)))), (q32, .inl (G 1, 49, .inl (fun _ => (0 : Int32)))), (q33, .inl (G 1, 7, .inl (fun _ => (0 : Int32)))), (q34, .inr (3, [.ref q30, .ref q35, .ref q36, .ref q37])), (q35, .inl (G 2, 49, .inr (.inl (fun _ => (0 : Int64))))), (q36, .inl (G 2, 49, .inr (.inl (fun _ => (0 : Int64))))), (q37, .inl (G 2, 13, .inr (.inl (fun _ => (0 : Int64))))), (q38, .inr (5, [.ref q30, .ref q39, .ref q40])), (q39, .inl (G 2, 11, .inr (.inl (fun _ => (0 : Int64))))), (q40, .inl (G 1, 10, .inl (fun _ => (0 : Int32)))), (q41, .inr (0, [.ref q30])), (q42, .inr (4, [.ref q30, .ref q43])), (q43, .inl (G 1, 6, .inl (fun _ => (0 : Int32)))), (q44, .inr (1, [.ref q30, .ref q45, .ref q46, .ref q47, .ref q48, .ref q49, .ref q50, .int (0 : Int32), .int (0 : Int32)])), (q45, .inl (G 1, 35, .inl (fun _ => (0 : Int32)))), (q46, .inl (G 1, 35, .inl (fun _ => (0 : Int32)))), (q47, .inl (G 1, 5, .inl (fun _ => (0 : Int32)))), (q48, .inl (G 1, 5, .inl (fun _ => (0 : Int32)))), (q49, .inl (G 1, 4, .inl (fun _ => (0 : Int32)))), (q50, .inl (G 1, 4, .inl (fun _ => (0 : Int32)))), (q51, .inl (G 4, 2, .inr (.inr (.inr (.inr (va_up (va_up (fun _ => none) 0 (some q54)) 1 (some q60))))))), (q52, .inl (G 3, 2, .inl (fun _ => (0 : Int32)))), (q53, .inl (G 5, 4, .inr (.inr (.inr (.inr (va_up (va_up (va_up (va_up (fun _ => none) 0 (some q66)) 1 (some q68)) 2 (some q70)) 3 (some q72))))))), (q54, .inr (8, [.ref q55, .ref q56, .ref q57, .ref q58, .ref q59, .int (0 : Int32), .int (0 : Int32), .int (0 : Int32), .int (0 : Int32)])), (q55, .inl (G 1, 7, .inl (fun _ => (0 : Int32)))), (q56, .inl (G 1, 7, .inl (fun _ => (0 : Int32)))), (q57, .inl (G 1, 7, .inl u_fill_0)), (q58, .inl (G 1, 7, .inl (fun _ => (0 : Int32)))), (q59, .inl (G 1, 6, .inl (fun _ => (0 : Int32)))), (q60, .inr (8, [.ref q61, .ref q62, .ref q63, .ref q64, .ref q65, .int (0 : Int32), .int (0 : Int32), .int (0 : Int32), .int (0 : Int32)])), (q61, .inl (G 1, 7, .inl (fun _ => (0 : Int32)))), (q62, .inl (G 1, 7, .inl (fun _ => (0 : Int32)))), (q63, .inl (G 1, 7, .inl u_fill_0)), (q64, .inl (G 1, 7, .inl (fun _ => (0 : Int32)))), (q65, .inl (G 1, 6, .inl (fun _ => (0 : Int32)))), (q66, .inr (7, [.int (-4 : Int32), .int (0 : Int32), .ref q67])), (q67, .inl (G 1, 40, .inl (fun _ => (0 : Int32)))), (q68, .inr (7, [.int (-4 : Int32), .int (0 : Int32), .ref q69])), (q69, .inl (G 1, 40, .inl (fun _ => (0 : Int32)))), (q70, .inr (7, [.int (-4 : Int32), .int (0 : Int32), .ref q71])), (q71, .inl (G 1, 40, .inl (fun _ => (0 : Int32)))), (q72, .inr (7, [.int (-4 : Int32), .int (0 : Int32), .ref q73])), (q73, .inl (G 1, 40, .inl (fun _ => (0 : Int32))))]) hP hD hS hA [0] [] [0, 1, 2, 3, 4, 5, 6, 7, 8, 9, 10, 11, 12, 13, 14, 15, 16, 17, 18, 19, 20, 21, 22, 23, 24, 25, 26, 27, 28, 29, 30, 31, 32, 33, 34, 35, 36, 37, 38, 39, 40, 41, 42, 43, 44, 45, 46, 47, 48, 49, 50, 51, 52, 53, 54, 55, 56, 57, 58, 59, 60, 61, 62, 63, 64, 65, 66, 67, 68, 69, 70, 71, 72] rfl rfl rfl (by decide) rfl rfl rfl hk1 hP1 hD1
  have hS := hSn
  clear hSn hP1 hK1 hD1 hFc hk1 hz1 hvm
  generalize H1 = H at hP hS ht ⊢
  clear ht
  refine lv_astore_n (lv' := [(1, .ref q1), (0, .ref b)]) hx hb dL_law_7 rfl hl (by decide) rfl (fun ls hl => ?_)
  refine va_new (ci := 12) (fs := [.null, .null, .int (0 : Int32), .int (0 : Int32), .null, .null, .null, .int (0 : Int32), .int (0 : Int32), .null, .null, .int (0 : Int32), .int (0 : Int32), .null, .int (0 : Int32), .int (0 : Int32), .int (0 : Int32), .int (0 : Int32), .int (0 : Int32), .int (0 : Int32), .int (0 : Int32), .null, .null, .null, .null, .null, .null, .null, .null, .null, .null, .null, .null, .null, .null, .null, .int (0 : Int32)]) (C := RX12) (T := TX12) (N := 37) hx hb hts inX12 tyX12 tyX12_ok hown (hts _ ml_27) (hts _ ml_12) (hts _ ml_28) hK hP hD hS hA rfl (fun j hj => by rcases j with _ | (_ | (_ | (_ | (_ | (_ | (_ | (_ | (_ | (_ | (_ | (_ | (_ | (_ | (_ | (_ | (_ | (_ | (_ | (_ | (_ | (_ | (_ | (_ | (_ | (_ | (_ | (_ | (_ | (_ | (_ | (_ | (_ | (_ | (_ | (_ | (_ | j)))))))))))))))))))))))))))))))))))) <;> first | rfl | (exfalso; omega)) (Nat.le_of_ble_eq_true rfl) (Nat.le_of_ble_eq_true rfl) dL_law_8 (fun q74 H hP hD hS => ?_)
  have hP : va_P D vwCl [(q1, .inr (11, [.ref q2, .ref q8, .ref q14, .ref q16, .ref q30, .ref q34, .ref q38, .ref q41, .ref q42, .ref q44, .ref q51, .ref q52, .ref q53, .int (0 : Int32), .int (0 : Int32)])), (q2, .inr (6, [.int (4 : Int32), .int (0 : Int32), .ref q3, .ref q4, .ref q5, .ref q6, .ref q7])), (q3, .inl (G 1, 7, .inl (fun _ => (0 : Int32)))), (q4, .inl (G 1, 5, .inl (fun _ => (0 : Int32)))), (q5, .inl (G 1, 5, .inl (fun _ => (0 : Int32)))), (q6, .inl (G 1, 5, .inl (fun _ => (0 : Int32)))), (q7, .inl (G 1, 35, .inl (fun _ => (0 : Int32)))), (q8, .inr (8, [.ref q9, .ref q10, .ref q11, .ref q12, .ref q13, .int (0 : Int32), .int (0 : Int32), .int (0 : Int32), .int (0 : Int32)])), (q9, .inl (G 1, 7, .inl (fun _ => (0 : Int32)))), (q10, .inl (G 1, 7, .inl (fun _ => (0 : Int32)))), (q11, .inl (G 1, 7, .inl u_fill_0)), (q12, .inl (G 1, 7, .inl (fun _ => (0 : Int32)))), (q13, .inl (G 1, 6, .inl (fun _ => (0 : Int32)))), (q14, .inr (9, [.ref q15, .int (0 : Int32), .int (0 : Int32), .int (0 : Int32), .int (0 : Int32), .int (0 : Int32)])), (q15, .inl (G 0, 320, .inl (fun _ => (0 : Int32)))), (q16, .inr (10, [.ref q14, .ref q17, .ref q23, .int (0 : Int32), .int (0 : Int32), .int (0 : Int32), .int (0 : Int32), .int (0 : Int32), .ref q29])), (q17, .inr (6, [.int (4 : Int32), .int (0 : Int32), .ref q18, .ref q19, .ref q20, .ref q21, .ref q22])), (q18, .inl (G 1, 7, .inl (fun _ => (0 : Int32)))), (q19, .inl (G 1, 5, .inl (fun _ => (0 : Int32)))), (q20, .inl (G 1, 5, .inl (fun _ => (0 : Int32)))), (q21, .inl (G 1, 5, .inl (fun _ => (0 : Int32)))), (q22, .inl (G 1, 35, .inl (fun _ => (0 : Int32)))), (q23, .inr (8, [.ref q24, .ref q25, .ref q26, .ref q27, .ref q28, .int (0 : Int32), .int (0 : Int32), .int (0 : Int32), .int (0 : Int32)])), (q24, .inl (G 1, 7, .inl (fun _ => (0 : Int32)))), (q25, .inl (G 1, 7, .inl (fun _ => (0 : Int32)))), (q26, .inl (G 1, 7, .inl u_fill_0)), (q27, .inl (G 1, 7, .inl (fun _ => (0 : Int32)))), (q28, .inl (G 1, 6, .inl (fun _ => (0 : Int32)))), (q29, .inl (G 1, 7, .inl (fun _ => (0 : Int32)))), (q30, .inr (2, [.ref q2, .ref q8, .ref q31, .ref q32, .ref q33])), (q31, .inl (G 1, 49, .inl (fun _ => (0 : Int32)))), (q32, .inl (G 1, 49, .inl (fun _ => (0 : Int32)))), (q33, .inl (G 1, 7, .inl (fun _ => (0 : Int32)))), (q34, .inr (3, [.ref q30, .ref q35, .ref q36, .ref q37])), (q35, .inl (G 2, 49, .inr (.inl (fun _ => (0 : Int64))))), (q36, .inl (G 2, 49, .inr (.inl (fun _ => (0 : Int64))))), (q37, .inl (G 2, 13, .inr (.inl (fun _ => (0 : Int64))))), (q38, .inr (5, [.ref q30, .ref q39, .ref q40])), (q39, .inl (G 2, 11, .inr (.inl (fun _ => (0 : Int64))))), (q40, .inl (G 1, 10, .inl (fun _ => (0 : Int32)))), (q41, .inr (0, [.ref q30])), (q42, .inr (4, [.ref q30, .ref q43])), (q43, .inl (G 1, 6, .inl (fun _ => (0 : Int32)))), (q44, .inr (1, [.ref q30, .ref q45, .ref q46, .ref q47, .ref q48, .ref q49, .ref q50, .int (0 : Int32), .int (0 : Int32)])), (q45, .inl (G 1, 35, .inl (fun _ => (0 : Int32)))), (q46, .inl (G 1, 35, .inl (fun _ => (0 : Int32)))), (q47, .inl (G 1, 5, .inl (fun _ => (0 : Int32)))), (q48, .inl (G 1, 5, .inl (fun _ => (0 : Int32)))), (q49, .inl (G 1, 4, .inl (fun _ => (0 : Int32)))), (q50, .inl (G 1, 4, .inl (fun _ => (0 : Int32)))), (q51, .inl (G 4, 2, .inr (.inr (.inr (.inr (va_up (va_up (fun _ => none) 0 (some q54)) 1 (some q60))))))), (q52, .inl (G 3, 2, .inl (fun _ => (0 : Int32)))), (q53, .inl (G 5, 4, .inr (.inr (.inr (.inr (va_up (va_up (va_up (va_up (fun _ => none) 0 (some q66)) 1 (some q68)) 2 (some q70)) 3 (some q72))))))), (q54, .inr (8, [.ref q55, .ref q56, .ref q57, .ref q58, .ref q59, .int (0 : Int32), .int (0 : Int32), .int (0 : Int32), .int (0 : Int32)])), (q55, .inl (G 1, 7, .inl (fun _ => (0 : Int32)))), (q56, .inl (G 1, 7, .inl (fun _ => (0 : Int32)))), (q57, .inl (G 1, 7, .inl u_fill_0)), (q58, .inl (G 1, 7, .inl (fun _ => (0 : Int32)))), (q59, .inl (G 1, 6, .inl (fun _ => (0 : Int32)))), (q60, .inr (8, [.ref q61, .ref q62, .ref q63, .ref q64, .ref q65, .int (0 : Int32), .int (0 : Int32), .int (0 : Int32), .int (0 : Int32)])), (q61, .inl (G 1, 7, .inl (fun _ => (0 : Int32)))), (q62, .inl (G 1, 7, .inl (fun _ => (0 : Int32)))), (q63, .inl (G 1, 7, .inl u_fill_0)), (q64, .inl (G 1, 7, .inl (fun _ => (0 : Int32)))), (q65, .inl (G 1, 6, .inl (fun _ => (0 : Int32)))), (q66, .inr (7, [.int (-4 : Int32), .int (0 : Int32), .ref q67])), (q67, .inl (G 1, 40, .inl (fun _ => (0 : Int32)))), (q68, .inr (7, [.int (-4 : Int32), .int (0 : Int32), .ref q69])), (q69, .inl (G 1, 40, .inl (fun _ => (0 : Int32)))), (q70, .inr (7, [.int (-4 : Int32), .int (0 : Int32), .ref q71])), (q71, .inl (G 1, 40, .inl (fun _ => (0 : Int32)))), (q72, .inr (7, [.int (-4 : Int32), .int (0 : Int32), .ref q73])), (q73, .inl (G 1, 40, .inl (fun _ => (0 : Int32)))), (q74, .inr (12, [.null, .null, .int (0 : Int32), .int (0 : Int32), .null, .null, .null, .int (0 : Int32), .int (0 : Int32), .null, .null, .int (0 : Int32), .int (0 : Int32), .null, .int (0 : Int32), .int (0 : Int32), .int (0 : Int32), .int (0 : Int32), .int (0 : Int32), .int (0 : Int32), .int (0 : Int32), .null, .null, .null, .null, .null, .null, .null, .null, .null, .null, .null, .null, .null, .null, .null, .int (0 : Int32)]))] H := hP
  have hD : va_D A [(q1, .inr (11, [.ref q2, .ref q8, .ref q14, .ref q16, .ref q30, .ref q34, .ref q38, .ref q41, .ref q42, .ref q44, .ref q51, .ref q52, .ref q53, .int (0 : Int32), .int (0 : Int32)])), (q2, .inr (6, [.int (4 : Int32), .int (0 : Int32), .ref q3, .ref q4, .ref q5, .ref q6, .ref q7])), (q3, .inl (G 1, 7, .inl (fun _ => (0 : Int32)))), (q4, .inl (G 1, 5, .inl (fun _ => (0 : Int32)))), (q5, .inl (G 1, 5, .inl (fun _ => (0 : Int32)))), (q6, .inl (G 1, 5, .inl (fun _ => (0 : Int32)))), (q7, .inl (G 1, 35, .inl (fun _ => (0 : Int32)))), (q8, .inr (8, [.ref q9, .ref q10, .ref q11, .ref q12, .ref q13, .int (0 : Int32), .int (0 : Int32), .int (0 : Int32), .int (0 : Int32)])), (q9, .inl (G 1, 7, .inl (fun _ => (0 : Int32)))), (q10, .inl (G 1, 7, .inl (fun _ => (0 : Int32)))), (q11, .inl (G 1, 7, .inl u_fill_0)), (q12, .inl (G 1, 7, .inl (fun _ => (0 : Int32)))), (q13, .inl (G 1, 6, .inl (fun _ => (0 : Int32)))), (q14, .inr (9, [.ref q15, .int (0 : Int32), .int (0 : Int32), .int (0 : Int32), .int (0 : Int32), .int (0 : Int32)])), (q15, .inl (G 0, 320, .inl (fun _ => (0 : Int32)))), (q16, .inr (10, [.ref q14, .ref q17, .ref q23, .int (0 : Int32), .int (0 : Int32), .int (0 : Int32), .int (0 : Int32), .int (0 : Int32), .ref q29])), (q17, .inr (6, [.int (4 : Int32), .int (0 : Int32), .ref q18, .ref q19, .ref q20, .ref q21, .ref q22])), (q18, .inl (G 1, 7, .inl (fun _ => (0 : Int32)))), (q19, .inl (G 1, 5, .inl (fun _ => (0 : Int32)))), (q20, .inl (G 1, 5, .inl (fun _ => (0 : Int32)))), (q21, .inl (G 1, 5, .inl (fun _ => (0 : Int32)))), (q22, .inl (G 1, 35, .inl (fun _ => (0 : Int32)))), (q23, .inr (8, [.ref q24, .ref q25, .ref q26, .ref q27, .ref q28, .int (0 : Int32), .int (0 : Int32), .int (0 : Int32), .int (0 : Int32)])), (q24, .inl (G 1, 7, .inl (fun _ => (0 : Int32)))), (q25, .inl (G 1, 7, .inl (fun _ => (0 : Int32)))), (q26, .inl (G 1, 7, .inl u_fill_0)), (q27, .inl (G 1, 7, .inl (fun _ => (0 : Int32)))), (q28, .inl (G 1, 6, .inl (fun _ => (0 : Int32)))), (q29, .inl (G 1, 7, .inl (fun _ => (0 : Int32)))), (q30, .inr (2, [.ref q2, .ref q8, .ref q31, .ref q32, .ref q33])), (q31, .inl (G 1, 49, .inl (fun _ => (0 : Int32)))), (q32, .inl (G 1, 49, .inl (fun _ => (0 : Int32)))), (q33, .inl (G 1, 7, .inl (fun _ => (0 : Int32)))), (q34, .inr (3, [.ref q30, .ref q35, .ref q36, .ref q37])), (q35, .inl (G 2, 49, .inr (.inl (fun _ => (0 : Int64))))), (q36, .inl (G 2, 49, .inr (.inl (fun _ => (0 : Int64))))), (q37, .inl (G 2, 13, .inr (.inl (fun _ => (0 : Int64))))), (q38, .inr (5, [.ref q30, .ref q39, .ref q40])), (q39, .inl (G 2, 11, .inr (.inl (fun _ => (0 : Int64))))), (q40, .inl (G 1, 10, .inl (fun _ => (0 : Int32)))), (q41, .inr (0, [.ref q30])), (q42, .inr (4, [.ref q30, .ref q43])), (q43, .inl (G 1, 6, .inl (fun _ => (0 : Int32)))), (q44, .inr (1, [.ref q30, .ref q45, .ref q46, .ref q47, .ref q48, .ref q49, .ref q50, .int (0 : Int32), .int (0 : Int32)])), (q45, .inl (G 1, 35, .inl (fun _ => (0 : Int32)))), (q46, .inl (G 1, 35, .inl (fun _ => (0 : Int32)))), (q47, .inl (G 1, 5, .inl (fun _ => (0 : Int32)))), (q48, .inl (G 1, 5, .inl (fun _ => (0 : Int32)))), (q49, .inl (G 1, 4, .inl (fun _ => (0 : Int32)))), (q50, .inl (G 1, 4, .inl (fun _ => (0 : Int32)))), (q51, .inl (G 4, 2, .inr (.inr (.inr (.inr (va_up (va_up (fun _ => none) 0 (some q54)) 1 (some q60))))))), (q52, .inl (G 3, 2, .inl (fun _ => (0 : Int32)))), (q53, .inl (G 5, 4, .inr (.inr (.inr (.inr (va_up (va_up (va_up (va_up (fun _ => none) 0 (some q66)) 1 (some q68)) 2 (some q70)) 3 (some q72))))))), (q54, .inr (8, [.ref q55, .ref q56, .ref q57, .ref q58, .ref q59, .int (0 : Int32), .int (0 : Int32), .int (0 : Int32), .int (0 : Int32)])), (q55, .inl (G 1, 7, .inl (fun _ => (0 : Int32)))), (q56, .inl (G 1, 7, .inl (fun _ => (0 : Int32)))), (q57, .inl (G 1, 7, .inl u_fill_0)), (q58, .inl (G 1, 7, .inl (fun _ => (0 : Int32)))), (q59, .inl (G 1, 6, .inl (fun _ => (0 : Int32)))), (q60, .inr (8, [.ref q61, .ref q62, .ref q63, .ref q64, .ref q65, .int (0 : Int32), .int (0 : Int32), .int (0 : Int32), .int (0 : Int32)])), (q61, .inl (G 1, 7, .inl (fun _ => (0 : Int32)))), (q62, .inl (G 1, 7, .inl (fun _ => (0 : Int32)))), (q63, .inl (G 1, 7, .inl u_fill_0)), (q64, .inl (G 1, 7, .inl (fun _ => (0 : Int32)))), (q65, .inl (G 1, 6, .inl (fun _ => (0 : Int32)))), (q66, .inr (7, [.int (-4 : Int32), .int (0 : Int32), .ref q67])), (q67, .inl (G 1, 40, .inl (fun _ => (0 : Int32)))), (q68, .inr (7, [.int (-4 : Int32), .int (0 : Int32), .ref q69])), (q69, .inl (G 1, 40, .inl (fun _ => (0 : Int32)))), (q70, .inr (7, [.int (-4 : Int32), .int (0 : Int32), .ref q71])), (q71, .inl (G 1, 40, .inl (fun _ => (0 : Int32)))), (q72, .inr (7, [.int (-4 : Int32), .int (0 : Int32), .ref q73])), (q73, .inl (G 1, 40, .inl (fun _ => (0 : Int32)))), (q74, .inr (12, [.null, .null, .int (0 : Int32), .int (0 : Int32), .null, .null, .null, .int (0 : Int32), .int (0 : Int32), .null, .null, .int (0 : Int32), .int (0 : Int32), .null, .int (0 : Int32), .int (0 : Int32), .int (0 : Int32), .int (0 : Int32), .int (0 : Int32), .int (0 : Int32), .int (0 : Int32), .null, .null, .null, .null, .null, .null, .null, .null, .null, .null, .null, .null, .null, .null, .null, .int (0 : Int32)]))] := hD
  refine lv_dup hx hb dL_law_11 rfl ?_
  have hFc := va_free (wc := [(q74, .inr (12, [.null, .null, .int (0 : Int32), .int (0 : Int32), .null, .null, .null, .int (0 : Int32), .int (0 : Int32), .null, .null, .int (0 : Int32), .int (0 : Int32), .null, .int (0 : Int32), .int (0 : Int32), .int (0 : Int32), .int (0 : Int32), .int (0 : Int32), .int (0 : Int32), .int (0 : Int32), .null, .null, .null, .null, .null, .null, .null, .null, .null, .null, .null, .null, .null, .null, .null, .int (0 : Int32)]))]) hD hS hA [73] rfl
  refine va_callv (va_runI (As := []) (rest := [.ref q74]) ⟨hx, hb, hml, hown, htsL⟩ (c_X12_init (l := l) (D := D) (G := G) (sz := H.size) (a_p0 := q74) (u_X12_init211_0 := u_X12_init211_0) (u_X12_init211_1 := u_X12_init211_1) (u_X12_init211_2 := u_X12_init211_2) (u_X12_init211_3 := u_X12_init211_3) (u_X12_init211_4 := u_X12_init211_4) (u_X12_init211_5 := u_X12_init211_5) (h_X12_init211 := h_X12_init211) (u_X12_init215_0 := u_X12_init215_0) (u_X12_init215_1 := u_X12_init215_1) (u_X12_init215_2 := u_X12_init215_2) (u_X12_init215_3 := u_X12_init215_3) (u_X12_init215_4 := u_X12_init215_4) (h_X12_init215 := h_X12_init215)) (cwI 0 htsL gL_law_X12_init rfl rfl rfl (hts _ ml_28) (hts _ ml_29) (hts _ ml_30) rfl (by decide +kernel) ⟨(Nat.le_of_ble_eq_true rfl), (Nat.le_of_ble_eq_true rfl)⟩) ⟨fun a U g mk q => by obtain ⟨q0, q1, qP, qK, qD⟩ := q; exact ⟨q0, q1, qP, va_K.moved (u := U) (U := U.calling g mk a) (Vm.Alike.refl U.vm) qK, qD⟩, fun U hU hW => ⟨rfl, by rw [hU], by rw [hU]; exact hP.sub [73] rfl, va_K.moved hW.alike hK, (hD.sub [73] rfl rfl).weaken (fun _ _ _ _ => trivial)⟩⟩ rfl rfl hl.1 rfl (lv_room (Nat.le_of_ble_eq_true rfl)) dL_law_12 ⟨(Nat.le_of_ble_eq_true rfl), (Nat.le_of_ble_eq_true rfl)⟩) hS (fun q _ h => hFc q h) hFc (fun u t H1 locs ht hvm hw hB hz1 hk1 hSn => ?_)
  obtain ⟨q75, q76, q77, q78, q79, q80, q81, q82, q83, q84, q85, q86, q87, q88, q89, q90, q91, q92, q93, q94, q95, q96, q97, hP1, hK1, hD1⟩ := hB
  rw [ht] at hP1
  obtain ⟨hP, hD⟩ := gc_join (ws' := [(q1, .inr (11, [.ref q2, .ref q8, .ref q14, .ref q16, .ref q30, .ref q34, .ref q38, .ref q41, .ref q42, .ref q44, .ref q51, .ref q52, .ref q53, .int (0 : Int32), .int (0 : Int32)])), (q2, .inr (6, [.int (4 : Int32), .int (0 : Int32), .ref q3, .ref q4, .ref q5, .ref q6, .ref q7])), (q3, .inl (G 1, 7, .inl (fun _ => (0 : Int32)))), (q4, .inl (G 1, 5, .inl (fun _ => (0 : Int32)))), (q5, .inl (G 1, 5, .inl (fun _ => (0 : Int32)))), (q6, .inl (G 1, 5, .inl (fun _ => (0 : Int32)))), (q7, .inl (G 1, 35, .inl (fun _ => (0 : Int32)))), (q8, .inr (8, [.ref q9, .ref q10, .ref q11, .ref q12, .ref q13, .int (0 : Int32), .int (0 : Int32), .int (0 : Int32), .int (0 : Int32)])), (q9, .inl (G 1, 7, .inl (fun _ => (0 : Int32)))), (q10, .inl (G 1, 7, .inl (fun _ => (0 : Int32)))), (q11, .inl (G 1, 7, .inl u_fill_0)), (q12, .inl (G 1, 7, .inl (fun _ => (0 : Int32)))), (q13, .inl (G 1, 6, .inl (fun _ => (0 : Int32)))), (q14, .inr (9, [.ref q15, .int (0 : Int32), .int (0 : Int32), .int (0 : Int32), .int (0 : Int32), .int (0 : Int32)])), (q15, .inl (G 0, 320, .inl (fun _ => (0 : Int32)))), (q16, .inr (10, [.ref q14, .ref q17, .ref q23, .int (0 : Int32), .int (0 : Int32), .int (0 : Int32), .int (0 : Int32), .int (0 : Int32), .ref q29])), (q17, .inr (6, [.int (4 : Int32), .int (0 : Int32), .ref q18, .ref q19, .ref q20, .ref q21, .ref q22])), (q18, .inl (G 1, 7, .inl (fun _ => (0 : Int32)))), (q19, .inl (G 1, 5, .inl (fun _ => (0 : Int32)))), (q20, .inl (G 1, 5, .inl (fun _ => (0 : Int32)))), (q21, .inl (G 1, 5, .inl (fun _ => (0 : Int32)))), (q22, .inl (G 1, 35, .inl (fun _ => (0 : Int32)))), (q23, .inr (8, [.ref q24, .ref q25, .ref q26, .ref q27, .ref q28, .int (0 : Int32), .int (0 : Int32), .int (0 : Int32), .int (0 : Int32)])), (q24, .inl (G 1, 7, .inl (fun _ => (0 : Int32)))), (q25, .inl (G 1, 7, .inl (fun _ => (0 : Int32)))), (q26, .inl (G 1, 7, .inl u_fill_0)), (q27, .inl (G 1, 7, .inl (fun _ => (0 : Int32)))), (q28, .inl (G 1, 6, .inl (fun _ => (0 : Int32)))), (q29, .inl (G 1, 7, .inl (fun _ => (0 : Int32)))), (q30, .inr (2, [.ref q2, .ref q8, .ref q31, .ref q32, .ref q33])), (q31, .inl (G 1, 49, .inl (fun _ => (0 : Int32)))), (q32, .inl (G 1, 49, .inl (fun _ => (0 : Int32)))), (q33, .inl (G 1, 7, .inl (fun _ => (0 : Int32)))), (q34, .inr (3, [.ref q30, .ref q35, .ref q36, .ref q37])), (q35, .inl (G 2, 49, .inr (.inl (fun _ => (0 : Int64))))), (q36, .inl (G 2, 49, .inr (.inl (fun _ => (0 : Int64))))), (q37, .inl (G 2, 13, .inr (.inl (fun _ => (0 : Int64))))), (q38, .inr (5, [.ref q30, .ref q39, .ref q40])), (q39, .inl (G 2, 11, .inr (.inl (fun _ => (0 : Int64))))), (q40, .inl (G 1, 10, .inl (fun _ => (0 : Int32)))), (q41, .inr (0, [.ref q30])), (q42, .inr (4, [.ref q30, .ref q43])), (q43, .inl (G 1, 6, .inl (fun _ => (0 : Int32)))), (q44, .inr (1, [.ref q30, .ref q45, .ref q46, .ref q47, .ref q48, .ref q49, .ref q50, .int (0 : Int32), .int (0 : Int32)])), (q45, .inl (G 1, 35, .inl (fun _ => (0 : Int32)))), (q46, .inl (G 1, 35, .inl (fun _ => (0 : Int32)))), (q47, .inl (G 1, 5, .inl (fun _ => (0 : Int32)))), (q48, .inl (G 1, 5, .inl (fun _ => (0 : Int32)))), (q49, .inl (G 1, 4, .inl (fun _ => (0 : Int32)))), (q50, .inl (G 1, 4, .inl (fun _ => (0 : Int32)))), (q51, .inl (G 4, 2, .inr (.inr (.inr (.inr (va_up (va_up (fun _ => none) 0 (some q54)) 1 (some q60))))))), (q52, .inl (G 3, 2, .inl (fun _ => (0 : Int32)))), (q53, .inl (G 5, 4, .inr (.inr (.inr (.inr (va_up (va_up (va_up (va_up (fun _ => none) 0 (some q66)) 1 (some q68)) 2 (some q70)) 3 (some q72))))))), (q54, .inr (8, [.ref q55, .ref q56, .ref q57, .ref q58, .ref q59, .int (0 : Int32), .int (0 : Int32), .int (0 : Int32), .int (0 : Int32)])), (q55, .inl (G 1, 7, .inl (fun _ => (0 : Int32)))), (q56, .inl (G 1, 7, .inl (fun _ => (0 : Int32)))), (q57, .inl (G 1, 7, .inl u_fill_0)), (q58, .inl (G 1, 7, .inl (fun _ => (0 : Int32)))), (q59, .inl (G 1, 6, .inl (fun _ => (0 : Int32)))), (q60, .inr (8, [.ref q61, .ref q62, .ref q63, .ref q64, .ref q65, .int (0 : Int32), .int (0 : Int32), .int (0 : Int32), .int (0 : Int32)])), (q61, .inl (G 1, 7, .inl (fun _ => (0 : Int32)))), (q62, .inl (G 1, 7, .inl (fun _ => (0 : Int32)))), (q63, .inl (G 1, 7, .inl u_fill_0)), (q64, .inl (G 1, 7, .inl (fun _ => (0 : Int32)))), (q65, .inl (G 1, 6, .inl (fun _ => (0 : Int32)))), (q66, .inr (7, [.int (-4 : Int32), .int (0 : Int32), .ref q67])), (q67, .inl (G 1, 40, .inl (fun _ => (0 : Int32)))), (q68, .inr (7, [.int (-4 : Int32), .int (0 : Int32), .ref q69])), (q69, .inl (G 1, 40, .inl (fun _ => (0 : Int32)))), (q70, .inr (7, [.int (-4 : Int32), .int (0 : Int32), .ref q71])), (q71, .inl (G 1, 40, .inl (fun _ => (0 : Int32)))), (q72, .inr (7, [.int (-4 : Int32), .int (0 : Int32), .ref q73])), (q73, .inl (G 1, 40, .inl (fun _ => (0 : Int32)))), (q74, .inr (12, [.ref q75, .ref q76, .int u_X12_init215_0, .int u_X12_init215_1, .ref q77, .ref q78, .ref q79, .int u_X12_init211_0, .int u_X12_init211_1, .ref q80, .ref q81, .int u_X12_init211_2, .int u_X12_init211_3, .ref q82, .int (0 : Int32), .int (0 : Int32), .int (0 : Int32), .int (0 : Int32), .int (0 : Int32), .int (0 : Int32), .int (0 : Int32), .ref q83, .ref q84, .ref q85, .ref q86, .ref q87, .ref q88, .ref q89, .ref q90, .ref q91, .ref q92, .ref q93, .ref q94, .ref q95, .ref q96, .ref q97, .int (0 : Int32)])), (q75, .inl (G 1, 152, .inl u_X12_init215_2)), (q76, .inl (G 3, 2, .inl u_X12_init215_3)), (q77, .inl (G 1, 35, .inl (fun _ => (0 : Int32)))), (q78, .inl (G 1, 7, .inl u_X12_init215_4)), (q79, .inl (G 1, 38, .inl u_X12_init211_4)), (q80, .inl (G 1, 15, .inl (fun _ => (0 : Int32)))), (q81, .inl (G 1, 7, .inl u_X12_init211_5)), (q82, .inl (G 1, 320, .inl (fun _ => (0 : Int32)))), (q83, .inl (G 1, 7, .inl (fun _ => (0 : Int32)))), (q84, .inl (G 1, 7, .inl (fun _ => (0 : Int32)))), (q85, .inl (G 2, 49, .inr (.inl (fun _ => (0 : Int64))))), (q86, .inl (G 2, 49, .inr (.inl (fun _ => (0 : Int64))))), (q87, .inl (G 1, 539, .inl (fun _ => (0 : Int32)))), (q88, .inl (G 1, 49, .inl (fun _ => (0 : Int32)))), (q89, .inl (G 1, 7, .inl (fun _ => (0 : Int32)))), (q90, .inl (G 1, 7, .inl (fun _ => (0 : Int32)))), (q91, .inl (G 1, 343, .inl (fun _ => (0 : Int32)))), (q92, .inl (G 3, 49, .inl (fun _ => (0 : Int32)))), (q93, .inl (G 3, 49, .inl (fun _ => (0 : Int32)))), (q94, .inl (G 1, 4, .inl (fun _ => (0 : Int32)))), (q95, .inl (G 1, 4, .inl (upd (upd (upd (upd (fun _ => (0 : Int32)) ((0 : Int32)).toNatClampNeg (-4 : Int32)) ((1 : Int32)).toNatClampNeg (-4 : Int32)) ((2 : Int32)).toNatClampNeg (-4 : Int32)) ((3 : Int32)).toNatClampNeg (-4 : Int32)))), (q96, .inl (G 1, 4, .inl (fun _ => (0 : Int32)))), (q97, .inl (G 1, 160, .inl (fun _ => (0 : Int32))))]) hP hD hS hA [73] [0, 1, 2, 3, 4, 5, 6, 7, 8, 9, 10, 11, 12, 13, 14, 15, 16, 17, 18, 19, 20, 21, 22, 23, 24, 25, 26, 27, 28, 29, 30, 31, 32, 33, 34, 35, 36, 37, 38, 39, 40, 41, 42, 43, 44, 45, 46, 47, 48, 49, 50, 51, 52, 53, 54, 55, 56, 57, 58, 59, 60, 61, 62, 63, 64, 65, 66, 67, 68, 69, 70, 71, 72] [0, 1, 2, 3, 4, 5, 6, 7, 8, 9, 10, 11, 12, 13, 14, 15, 16, 17, 18, 19, 20, 21, 22, 23, 24, 25, 26, 27, 28, 29, 30, 31, 32, 33, 34, 35, 36, 37, 38, 39, 40, 41, 42, 43, 44, 45, 46, 47, 48, 49, 50, 51, 52, 53, 54, 55, 56, 57, 58, 59, 60, 61, 62, 63, 64, 65, 66, 67, 68, 69, 70, 71, 72, 73, 74, 75, 76, 77, 78, 79, 80, 81, 82, 83, 84, 85, 86, 87, 88, 89, 90, 91, 92, 93, 94, 95, 96] rfl rfl rfl (by decide) rfl rfl rfl hk1 hP1 hD1
  have hS := hSn
  clear hSn hP1 hK1 hD1 hFc hk1 hz1 hvm
  generalize H1 = H at hP hS ht ⊢
  clear ht
  refine lv_astore_n (lv' := [(2, .ref q74), (1, .ref q1), (0, .ref b)]) hx hb dL_law_15 rfl hl (by decide) rfl (fun ls hl => ?_)
  refine lv_iconst (v := (0 : Int32)) hx hb dL_law_16 (by decide) ?_
  refine lv_istore_n (lv' := [(3, .int (0 : Int32)), (2, .ref q74), (1, .ref q1), (0, .ref b)]) hx hb dL_law_17 rfl hl (by decide) rfl (fun ls hl => ?_)
  refine W.widen (k := 600000) (n := 7302250) (Nat.le_of_ble_eq_true rfl) (Nat.le_of_ble_eq_true rfl) ?_
  refine lv_iload_n hx hb dL_law_18 rfl (lv_at hl 0 rfl) ?_
  refine lv_aload_n hx hb dL_law_19 rfl (lv_at hl 3 rfl) ?_
  refine va_slen hx hb hX hbl hbA hS dL_law_20 ?_
  refine lv_iconst (v := (5 : Int32)) hx hb dL_law_21 (by decide) ?_
  refine lv_isub hx hb dL_law_22 ?_
  refine lv_icmp_gt (tgt := 1315) hx hb dL_law_23 (by decide) (fun cc => ?_) (fun cc => ?_)
  · exact law_out C0 hAf hS ls
  · have hL5 : L = 5 := by
      rcases Nat.lt_or_ge L 5 with q | q
      · exact absurd (co_dec (N := 5) (P := fun L => Int32.ofNat L - (5 : Int32) < (0 : Int32)) (by decide +kernel) q) cc
      · omega
    subst hL5
    refine lv_aload_n hx hb dL_law_26 rfl (lv_at hl 3 rfl) ?_
    refine lv_iload_n hx hb dL_law_27 rfl (lv_at hl 0 rfl) ?_
    refine va_sld hx hb hX hbl hbA hS (ixB_in (by decide +kernel)) dL_law_28 ?_
    refine lv_bipush (v := (63 : Int32)) hx hb dL_law_29 (by decide) ?_
    refine lv_iand hx hb dL_law_31 ?_
    refine law_disp (A := A) (D := D) (G := G) (y0 := q1) (y1 := q2) (y2 := q3) (y3 := q4) (y4 := q5) (y5 := q6) (y6 := q7) (y7 := q8) (y8 := q9) (y9 := q10) (y10 := q11) (y11 := q12) (y12 := q13) (y13 := q14) (y14 := q15) (y15 := q16) (y16 := q17) (y17 := q18) (y18 := q19) (y19 := q20) (y20 := q21) (y21 := q22) (y22 := q23) (y23 := q24) (y24 := q25) (y25 := q26) (y26 := q27) (y27 := q28) (y28 := q29) (y29 := q30) (y30 := q31) (y31 := q32) (y32 := q33) (y33 := q34) (y34 := q35) (y35 := q36) (y36 := q37) (y37 := q38) (y38 := q39) (y39 := q40) (y40 := q41) (y41 := q42) (y42 := q43) (y43 := q44) (y44 := q45) (y45 := q46) (y46 := q47) (y47 := q48) (y48 := q49) (y49 := q50) (y50 := q51) (y51 := q52) (y52 := q53) (y53 := q54) (y54 := q55) (y55 := q56) (y56 := q57) (y57 := q58) (y58 := q59) (y59 := q60) (y60 := q61) (y61 := q62) (y62 := q63) (y63 := q64) (y64 := q65) (y65 := q66) (y66 := q67) (y67 := q68) (y68 := q69) (y69 := q70) (y70 := q71) (y71 := q72) (y72 := q73) (k0 := q74) (k1 := q75) (k2 := q76) (k3 := q77) (k4 := q78) (k5 := q79) (k6 := q80) (k7 := q81) (k8 := q82) (k9 := q83) (k10 := q84) (k11 := q85) (k12 := q86) (k13 := q87) (k14 := q88) (k15 := q89) (k16 := q90) (k17 := q91) (k18 := q92) (k19 := q93) (k20 := q94) (k21 := q95) (k22 := q96) (k23 := q97) C0 hA hAf hK hP hD hS ls hl _
