theorem tsw_ne {x : Int32} {k : Int32} (h : ¬ x = k) : x.toInt ≠ k.toInt := fun e => h (Int32.toInt_inj.mp e)
set_option maxHeartbeats 8000000 in
set_option maxRecDepth 100000 in
theorem law_disp {p : Program} {l : Launch} {e : Env} {s : State} {m : MethodId} {below : List Frame} {meth : Method} {c : Code} {b L : Nat} {xs : Nat → Int32} {A : Nat → Prop} {D : va_G} {G : Nat → ClassId} {adT adK adV : Nat → Nat} {y0 y1 y2 y3 y4 y5 y6 y7 y8 y9 y10 y11 y12 y13 y14 y15 y16 y17 y18 y19 y20 y21 y22 y23 y24 y25 y26 y27 y28 y29 y30 y31 y32 y33 y34 y35 y36 y37 y38 y39 y40 y41 y42 y43 y44 y45 y46 y47 y48 y49 y50 y51 y52 y53 y54 y55 y56 y57 y58 y59 y60 y61 y62 y63 y64 y65 y66 y67 y68 y69 y70 y71 y72 k0 k1 k2 k3 k4 k5 k6 k7 k8 k9 k10 k11 k12 k13 k14 k15 k16 k17 k18 k19 k20 k21 k22 k23 : Nat} {xi0_13 : Int} {xi0_14 : Int} {xi1_0 : Int} {xi1_1 : Int} {xv2 : Int → Int} {xv3 : Int → Int} {xv4 : Int → Int} {xv5 : Int → Int} {xv6 : Int → Int} {xi7_5 : Int} {xi7_6 : Int} {xi7_7 : Int} {xi7_8 : Int} {xv8 : Int → Int} {xv9 : Int → Int} {xv10 : Int → Int} {xv11 : Int → Int} {xv12 : Int → Int} {xi13_1 : Int} {xi13_2 : Int} {xi13_3 : Int} {xi13_4 : Int} {xi13_5 : Int} {xv14 : Int → Int} {xi15_3 : Int} {xi15_4 : Int} {xi15_5 : Int} {xi15_6 : Int} {xi15_7 : Int} {xi16_0 : Int} {xi16_1 : Int} {xv17 : Int → Int} {xv18 : Int → Int} {xv19 : Int → Int} {xv20 : Int → Int} {xv21 : Int → Int} {xi22_5 : Int} {xi22_6 : Int} {xi22_7 : Int} {xi22_8 : Int} {xv23 : Int → Int} {xv24 : Int → Int} {xv25 : Int → Int} {xv26 : Int → Int} {xv27 : Int → Int} {xv28 : Int → Int} {xv30 : Int → Int} {xv31 : Int → Int} {xv32 : Int → Int} {xv34 : Int → Int} {xv35 : Int → Int} {xv36 : Int → Int} {xv38 : Int → Int} {xv39 : Int → Int} {xv42 : Int → Int} {xi43_7 : Int} {xi43_8 : Int} {xv44 : Int → Int} {xv45 : Int → Int} {xv46 : Int → Int} {xv47 : Int → Int} {xv48 : Int → Int} {xv49 : Int → Int} {xv51 : Int → Int} {xi53_5 : Int} {xi53_6 : Int} {xi53_7 : Int} {xi53_8 : Int} {xv54 : Int → Int} {xv55 : Int → Int} {xv56 : Int → Int} {xv57 : Int → Int} {xv58 : Int → Int} {xi59_5 : Int} {xi59_6 : Int} {xi59_7 : Int} {xi59_8 : Int} {xv60 : Int → Int} {xv61 : Int → Int} {xv62 : Int → Int} {xv63 : Int → Int} {xv64 : Int → Int} {xi65_0 : Int} {xi65_1 : Int} {xv66 : Int → Int} {xi67_0 : Int} {xi67_1 : Int} {xv68 : Int → Int} {xi69_0 : Int} {xi69_1 : Int} {xv70 : Int → Int} {xi71_0 : Int} {xi71_1 : Int} {xv72 : Int → Int} {mi0_2 : Int} {mi0_3 : Int} {mi0_7 : Int} {mi0_8 : Int} {mi0_11 : Int} {mi0_12 : Int} {mi0_14 : Int} {mi0_15 : Int} {mi0_16 : Int} {mi0_17 : Int} {mi0_18 : Int} {mi0_19 : Int} {mi0_20 : Int} {mi0_36 : Int} {mv1 : Int → Int} {mv2 : Int → Int} {mv3 : Int → Int} {mv4 : Int → Int} {mv5 : Int → Int} {mv6 : Int → Int} {mv7 : Int → Int} {mv8 : Int → Int} {mv9 : Int → Int} {mv10 : Int → Int} {mv11 : Int → Int} {mv12 : Int → Int} {mv13 : Int → Int} {mv14 : Int → Int} {mv15 : Int → Int} {mv16 : Int → Int} {mv17 : Int → Int} {mv18 : Int → Int} {mv19 : Int → Int} {mv20 : Int → Int} {mv21 : Int → Int} {mv22 : Int → Int} {mv23 : Int → Int} {H : Heap} {locs : List Loc} {i : Nat} (C0 : lw_At p s m meth c b L xs) (hL : L ≤ 2560) (hA : ∀ q, s.heap.size ≤ q → A q) (hAf : ∀ q, A q → s.heap.size ≤ q) (hK : va_K D vwCl (tyG G) s) (hE : EV adT adK adV A s s.heap) (hi : i + 5 ≤ L) (hIX : InvX xi13_1 xv14 xi1_0 xi1_1 xv2 xv6 xi7_5 xi7_6 xi7_7 xi7_8 xv8 xv9 xv10 xv11 xv12 xv51 xi53_5 xi53_6 xi53_7 xi53_8 xv54 xv55 xv56 xv57 xv58 xi59_5 xi59_6 xi59_7 xi59_8 xv60 xv61 xv62 xv63 xv64 xi65_0 xi65_1 xi67_0 xi67_1 xi69_0 xi69_1 xi71_0 xi71_1 xv66 xv68 xv70 xv72 xv39 xv49 xi0_14) (hIK : InvK mi0_14 mv8 mi0_2 mi0_3 mv4 mv3 mv1 mv2 mv21 mv22 mv23 mi0_36) (hR : SRel xi13_1 mi0_14 xv14 mv8 xi1_0 xi1_1 mi0_2 mi0_3 xv2 xv6 mv4 mv3 xi7_5 xi7_6 xi7_7 xi7_8 xv8 xv9 xv10 xv11 xv12 mv1 xv51 mv2 xi53_5 xi53_6 xi53_7 xi53_8 xv54 xv55 xv56 xv57 xv58 xi59_5 xi59_6 xi59_7 xi59_8 xv60 xv61 xv62 xv63 xv64 xi65_0 mv21 xi65_1 mv22 xv66 mv23 xi67_0 xi67_1 xv68 xi69_0 xi69_1 xv70 xi71_0 xi71_1 xv72 xi0_14 mi0_36) (hP : va_P D vwCl (wF G y0 y1 y2 y3 y4 y5 y6 y7 y8 y9 y10 y11 y12 y13 y14 y15 y16 y17 y18 y19 y20 y21 y22 y23 y24 y25 y26 y27 y28 y29 y30 y31 y32 y33 y34 y35 y36 y37 y38 y39 y40 y41 y42 y43 y44 y45 y46 y47 y48 y49 y50 y51 y52 y53 y54 y55 y56 y57 y58 y59 y60 y61 y62 y63 y64 y65 y66 y67 y68 y69 y70 y71 y72 k0 k1 k2 k3 k4 k5 k6 k7 k8 k9 k10 k11 k12 k13 k14 k15 k16 k17 k18 k19 k20 k21 k22 k23 xi0_13 xi0_14 xi1_0 xi1_1 xv2 xv3 xv4 xv5 xv6 xi7_5 xi7_6 xi7_7 xi7_8 xv8 xv9 xv10 xv11 xv12 xi13_1 xi13_2 xi13_3 xi13_4 xi13_5 xv14 xi15_3 xi15_4 xi15_5 xi15_6 xi15_7 xi16_0 xi16_1 xv17 xv18 xv19 xv20 xv21 xi22_5 xi22_6 xi22_7 xi22_8 xv23 xv24 xv25 xv26 xv27 xv28 xv30 xv31 xv32 xv34 xv35 xv36 xv38 xv39 xv42 xi43_7 xi43_8 xv44 xv45 xv46 xv47 xv48 xv49 xv51 xi53_5 xi53_6 xi53_7 xi53_8 xv54 xv55 xv56 xv57 xv58 xi59_5 xi59_6 xi59_7 xi59_8 xv60 xv61 xv62 xv63 xv64 xi65_0 xi65_1 xv66 xi67_0 xi67_1 xv68 xi69_0 xi69_1 xv70 xi71_0 xi71_1 xv72 mi0_2 mi0_3 mi0_7 mi0_8 mi0_11 mi0_12 mi0_14 mi0_15 mi0_16 mi0_17 mi0_18 mi0_19 mi0_20 mi0_36 mv1 mv2 mv3 mv4 mv5 mv6 mv7 mv8 mv9 mv10 mv11 mv12 mv13 mv14 mv15 mv16 mv17 mv18 mv19 mv20 mv21 mv22 mv23) H) (hD : va_D A (wF G y0 y1 y2 y3 y4 y5 y6 y7 y8 y9 y10 y11 y12 y13 y14 y15 y16 y17 y18 y19 y20 y21 y22 y23 y24 y25 y26 y27 y28 y29 y30 y31 y32 y33 y34 y35 y36 y37 y38 y39 y40 y41 y42 y43 y44 y45 y46 y47 y48 y49 y50 y51 y52 y53 y54 y55 y56 y57 y58 y59 y60 y61 y62 y63 y64 y65 y66 y67 y68 y69 y70 y71 y72 k0 k1 k2 k3 k4 k5 k6 k7 k8 k9 k10 k11 k12 k13 k14 k15 k16 k17 k18 k19 k20 k21 k22 k23 xi0_13 xi0_14 xi1_0 xi1_1 xv2 xv3 xv4 xv5 xv6 xi7_5 xi7_6 xi7_7 xi7_8 xv8 xv9 xv10 xv11 xv12 xi13_1 xi13_2 xi13_3 xi13_4 xi13_5 xv14 xi15_3 xi15_4 xi15_5 xi15_6 xi15_7 xi16_0 xi16_1 xv17 xv18 xv19 xv20 xv21 xi22_5 xi22_6 xi22_7 xi22_8 xv23 xv24 xv25 xv26 xv27 xv28 xv30 xv31 xv32 xv34 xv35 xv36 xv38 xv39 xv42 xi43_7 xi43_8 xv44 xv45 xv46 xv47 xv48 xv49 xv51 xi53_5 xi53_6 xi53_7 xi53_8 xv54 xv55 xv56 xv57 xv58 xi59_5 xi59_6 xi59_7 xi59_8 xv60 xv61 xv62 xv63 xv64 xi65_0 xi65_1 xv66 xi67_0 xi67_1 xv68 xi69_0 xi69_1 xv70 xi71_0 xi71_1 xv72 mi0_2 mi0_3 mi0_7 mi0_8 mi0_11 mi0_12 mi0_14 mi0_15 mi0_16 mi0_17 mi0_18 mi0_19 mi0_20 mi0_36 mv1 mv2 mv3 mv4 mv5 mv6 mv7 mv8 mv9 mv10 mv11 mv12 mv13 mv14 mv15 mv16 mv17 mv18 mv19 mv20 mv21 mv22 mv23)) (hS : va_S A s.heap H locs) (ls : Array Slot) (hl : lv_has ls 4 [(3, .int (Int32.ofInt (i : Int))), (2, .ref k0), (1, .ref y0), (0, .ref b)]) (kont : ∀ (xi0_13 : Int) (xi0_14 : Int) (xi1_0 : Int) (xi1_1 : Int) (xv2 : Int → Int) (xv3 : Int → Int) (xv4 : Int → Int) (xv5 : Int → Int) (xv6 : Int → Int) (xi7_5 : Int) (xi7_6 : Int) (xi7_7 : Int) (xi7_8 : Int) (xv8 : Int → Int) (xv9 : Int → Int) (xv10 : Int → Int) (xv11 : Int → Int) (xv12 : Int → Int) (xi13_1 : Int) (xi13_2 : Int) (xi13_3 : Int) (xi13_4 : Int) (xi13_5 : Int) (xv14 : Int → Int) (xi15_3 : Int) (xi15_4 : Int) (xi15_5 : Int) (xi15_6 : Int) (xi15_7 : Int) (xi16_0 : Int) (xi16_1 : Int) (xv17 : Int → Int) (xv18 : Int → Int) (xv19 : Int → Int) (xv20 : Int → Int) (xv21 : Int → Int) (xi22_5 : Int) (xi22_6 : Int) (xi22_7 : Int) (xi22_8 : Int) (xv23 : Int → Int) (xv24 : Int → Int) (xv25 : Int → Int) (xv26 : Int → Int) (xv27 : Int → Int) (xv28 : Int → Int) (xv30 : Int → Int) (xv31 : Int → Int) (xv32 : Int → Int) (xv34 : Int → Int) (xv35 : Int → Int) (xv36 : Int → Int) (xv38 : Int → Int) (xv39 : Int → Int) (xv42 : Int → Int) (xi43_7 : Int) (xi43_8 : Int) (xv44 : Int → Int) (xv45 : Int → Int) (xv46 : Int → Int) (xv47 : Int → Int) (xv48 : Int → Int) (xv49 : Int → Int) (xv51 : Int → Int) (xi53_5 : Int) (xi53_6 : Int) (xi53_7 : Int) (xi53_8 : Int) (xv54 : Int → Int) (xv55 : Int → Int) (xv56 : Int → Int) (xv57 : Int → Int) (xv58 : Int → Int) (xi59_5 : Int) (xi59_6 : Int) (xi59_7 : Int) (xi59_8 : Int) (xv60 : Int → Int) (xv61 : Int → Int) (xv62 : Int → Int) (xv63 : Int → Int) (xv64 : Int → Int) (xi65_0 : Int) (xi65_1 : Int) (xv66 : Int → Int) (xi67_0 : Int) (xi67_1 : Int) (xv68 : Int → Int) (xi69_0 : Int) (xi69_1 : Int) (xv70 : Int → Int) (xi71_0 : Int) (xi71_1 : Int) (xv72 : Int → Int) (mi0_2 : Int) (mi0_3 : Int) (mi0_7 : Int) (mi0_8 : Int) (mi0_11 : Int) (mi0_12 : Int) (mi0_14 : Int) (mi0_15 : Int) (mi0_16 : Int) (mi0_17 : Int) (mi0_18 : Int) (mi0_19 : Int) (mi0_20 : Int) (mi0_36 : Int) (mv1 : Int → Int) (mv2 : Int → Int) (mv3 : Int → Int) (mv4 : Int → Int) (mv5 : Int → Int) (mv6 : Int → Int) (mv7 : Int → Int) (mv8 : Int → Int) (mv9 : Int → Int) (mv10 : Int → Int) (mv11 : Int → Int) (mv12 : Int → Int) (mv13 : Int → Int) (mv14 : Int → Int) (mv15 : Int → Int) (mv16 : Int → Int) (mv17 : Int → Int) (mv18 : Int → Int) (mv19 : Int → Int) (mv20 : Int → Int) (mv21 : Int → Int) (mv22 : Int → Int) (mv23 : Int → Int), InvX xi13_1 xv14 xi1_0 xi1_1 xv2 xv6 xi7_5 xi7_6 xi7_7 xi7_8 xv8 xv9 xv10 xv11 xv12 xv51 xi53_5 xi53_6 xi53_7 xi53_8 xv54 xv55 xv56 xv57 xv58 xi59_5 xi59_6 xi59_7 xi59_8 xv60 xv61 xv62 xv63 xv64 xi65_0 xi65_1 xi67_0 xi67_1 xi69_0 xi69_1 xi71_0 xi71_1 xv66 xv68 xv70 xv72 xv39 xv49 xi0_14 → InvK mi0_14 mv8 mi0_2 mi0_3 mv4 mv3 mv1 mv2 mv21 mv22 mv23 mi0_36 → SRel xi13_1 mi0_14 xv14 mv8 xi1_0 xi1_1 mi0_2 mi0_3 xv2 xv6 mv4 mv3 xi7_5 xi7_6 xi7_7 xi7_8 xv8 xv9 xv10 xv11 xv12 mv1 xv51 mv2 xi53_5 xi53_6 xi53_7 xi53_8 xv54 xv55 xv56 xv57 xv58 xi59_5 xi59_6 xi59_7 xi59_8 xv60 xv61 xv62 xv63 xv64 xi65_0 mv21 xi65_1 mv22 xv66 mv23 xi67_0 xi67_1 xv68 xi69_0 xi69_1 xv70 xi71_0 xi71_1 xv72 xi0_14 mi0_36 → ∀ (H : Heap) (locs : List Loc), va_P D vwCl (wF G y0 y1 y2 y3 y4 y5 y6 y7 y8 y9 y10 y11 y12 y13 y14 y15 y16 y17 y18 y19 y20 y21 y22 y23 y24 y25 y26 y27 y28 y29 y30 y31 y32 y33 y34 y35 y36 y37 y38 y39 y40 y41 y42 y43 y44 y45 y46 y47 y48 y49 y50 y51 y52 y53 y54 y55 y56 y57 y58 y59 y60 y61 y62 y63 y64 y65 y66 y67 y68 y69 y70 y71 y72 k0 k1 k2 k3 k4 k5 k6 k7 k8 k9 k10 k11 k12 k13 k14 k15 k16 k17 k18 k19 k20 k21 k22 k23 xi0_13 xi0_14 xi1_0 xi1_1 xv2 xv3 xv4 xv5 xv6 xi7_5 xi7_6 xi7_7 xi7_8 xv8 xv9 xv10 xv11 xv12 xi13_1 xi13_2 xi13_3 xi13_4 xi13_5 xv14 xi15_3 xi15_4 xi15_5 xi15_6 xi15_7 xi16_0 xi16_1 xv17 xv18 xv19 xv20 xv21 xi22_5 xi22_6 xi22_7 xi22_8 xv23 xv24 xv25 xv26 xv27 xv28 xv30 xv31 xv32 xv34 xv35 xv36 xv38 xv39 xv42 xi43_7 xi43_8 xv44 xv45 xv46 xv47 xv48 xv49 xv51 xi53_5 xi53_6 xi53_7 xi53_8 xv54 xv55 xv56 xv57 xv58 xi59_5 xi59_6 xi59_7 xi59_8 xv60 xv61 xv62 xv63 xv64 xi65_0 xi65_1 xv66 xi67_0 xi67_1 xv68 xi69_0 xi69_1 xv70 xi71_0 xi71_1 xv72 mi0_2 mi0_3 mi0_7 mi0_8 mi0_11 mi0_12 mi0_14 mi0_15 mi0_16 mi0_17 mi0_18 mi0_19 mi0_20 mi0_36 mv1 mv2 mv3 mv4 mv5 mv6 mv7 mv8 mv9 mv10 mv11 mv12 mv13 mv14 mv15 mv16 mv17 mv18 mv19 mv20 mv21 mv22 mv23) H → va_D A (wF G y0 y1 y2 y3 y4 y5 y6 y7 y8 y9 y10 y11 y12 y13 y14 y15 y16 y17 y18 y19 y20 y21 y22 y23 y24 y25 y26 y27 y28 y29 y30 y31 y32 y33 y34 y35 y36 y37 y38 y39 y40 y41 y42 y43 y44 y45 y46 y47 y48 y49 y50 y51 y52 y53 y54 y55 y56 y57 y58 y59 y60 y61 y62 y63 y64 y65 y66 y67 y68 y69 y70 y71 y72 k0 k1 k2 k3 k4 k5 k6 k7 k8 k9 k10 k11 k12 k13 k14 k15 k16 k17 k18 k19 k20 k21 k22 k23 xi0_13 xi0_14 xi1_0 xi1_1 xv2 xv3 xv4 xv5 xv6 xi7_5 xi7_6 xi7_7 xi7_8 xv8 xv9 xv10 xv11 xv12 xi13_1 xi13_2 xi13_3 xi13_4 xi13_5 xv14 xi15_3 xi15_4 xi15_5 xi15_6 xi15_7 xi16_0 xi16_1 xv17 xv18 xv19 xv20 xv21 xi22_5 xi22_6 xi22_7 xi22_8 xv23 xv24 xv25 xv26 xv27 xv28 xv30 xv31 xv32 xv34 xv35 xv36 xv38 xv39 xv42 xi43_7 xi43_8 xv44 xv45 xv46 xv47 xv48 xv49 xv51 xi53_5 xi53_6 xi53_7 xi53_8 xv54 xv55 xv56 xv57 xv58 xi59_5 xi59_6 xi59_7 xi59_8 xv60 xv61 xv62 xv63 xv64 xi65_0 xi65_1 xv66 xi67_0 xi67_1 xv68 xi69_0 xi69_1 xv70 xi71_0 xi71_1 xv72 mi0_2 mi0_3 mi0_7 mi0_8 mi0_11 mi0_12 mi0_14 mi0_15 mi0_16 mi0_17 mi0_18 mi0_19 mi0_20 mi0_36 mv1 mv2 mv3 mv4 mv5 mv6 mv7 mv8 mv9 mv10 mv11 mv12 mv13 mv14 mv15 mv16 mv17 mv18 mv19 mv20 mv21 mv22 mv23) → va_S A s.heap H locs → W p l e room_1 s m #[Value.ref b] below meth c H locs 600000 7302250 (lw_Z below #[Value.ref b] s) (F0 m 1306 ls [])) (x : Int32) : W p l e room_1 s m #[Value.ref b] below meth c H locs 600000 7302250 (lw_Z below #[Value.ref b] s) (F0 m 32 ls [.int x]) := by
  have hx := C0.1
  have hb := C0.2.1
  rcases Decidable.em (x = (0 : Int32)) with hk0 | hk0
  · refine lv_tableIn (tgt := 192) hx hb dL_law_32 (by rw [hk0]; decide) (by rw [hk0]; decide) (by rw [hk0]; rfl) (by decide) ?_
    exact lc_0 C0 hL hA hAf hK hE hi hIX hIK hR hP hD hS ls hl kont
  rcases Decidable.em (x = (1 : Int32)) with hk1 | hk1
  · refine lv_tableIn (tgt := 245) hx hb dL_law_32 (by rw [hk1]; decide) (by rw [hk1]; decide) (by rw [hk1]; rfl) (by decide) ?_
    exact lc_1 C0 hL hA hAf hK hE hi hIX hIK hR hP hD hS ls hl kont
  rcases Decidable.em (x = (2 : Int32)) with hk2 | hk2
  · refine lv_tableIn (tgt := 268) hx hb dL_law_32 (by rw [hk2]; decide) (by rw [hk2]; decide) (by rw [hk2]; rfl) (by decide) ?_
    exact lc_2 C0 hL hA hAf hK hE hi hIX hIK hR hP hD hS ls hl kont
  rcases Decidable.em (x = (3 : Int32)) with hk3 | hk3
  · refine lv_tableIn (tgt := 281) hx hb dL_law_32 (by rw [hk3]; decide) (by rw [hk3]; decide) (by rw [hk3]; rfl) (by decide) ?_
    exact lc_3 C0 hL hA hAf hK hE hi hIX hIK hR hP hD hS ls hl kont
  rcases Decidable.em (x = (4 : Int32)) with hk4 | hk4
  · refine lv_tableIn (tgt := 294) hx hb dL_law_32 (by rw [hk4]; decide) (by rw [hk4]; decide) (by rw [hk4]; rfl) (by decide) ?_
    exact lc_4 C0 hL hA hAf hK hE hi hIX hIK hR hP hD hS ls hl kont
  rcases Decidable.em (x = (5 : Int32)) with hk5 | hk5
  · refine lv_tableIn (tgt := 317) hx hb dL_law_32 (by rw [hk5]; decide) (by rw [hk5]; decide) (by rw [hk5]; rfl) (by decide) ?_
    exact lc_5 C0 hL hA hAf hK hE hi hIX hIK hR hP hD hS ls hl kont
  rcases Decidable.em (x = (6 : Int32)) with hk6 | hk6
  · refine lv_tableIn (tgt := 340) hx hb dL_law_32 (by rw [hk6]; decide) (by rw [hk6]; decide) (by rw [hk6]; rfl) (by decide) ?_
    exact lc_6 C0 hL hA hAf hK hE hi hIX hIK hR hP hD hS ls hl kont
  rcases Decidable.em (x = (7 : Int32)) with hk7 | hk7
  · refine lv_tableIn (tgt := 373) hx hb dL_law_32 (by rw [hk7]; decide) (by rw [hk7]; decide) (by rw [hk7]; rfl) (by decide) ?_
    exact lc_7 C0 hL hA hAf hK hE hi hIX hIK hR hP hD hS ls hl kont
  rcases Decidable.em (x = (8 : Int32)) with hk8 | hk8
  · refine lv_tableIn (tgt := 406) hx hb dL_law_32 (by rw [hk8]; decide) (by rw [hk8]; decide) (by rw [hk8]; rfl) (by decide) ?_
    exact lc_8 C0 hL hA hAf hK hE hi hIX hIK hR hP hD hS ls hl kont
  rcases Decidable.em (x = (9 : Int32)) with hk9 | hk9
  · refine lv_tableIn (tgt := 465) hx hb dL_law_32 (by rw [hk9]; decide) (by rw [hk9]; decide) (by rw [hk9]; rfl) (by decide) ?_
    exact lc_9 C0 hL hA hAf hK hE hi hIX hIK hR hP hD hS ls hl kont
  rcases Decidable.em (x = (10 : Int32)) with hk10 | hk10
  · refine lv_tableIn (tgt := 498) hx hb dL_law_32 (by rw [hk10]; decide) (by rw [hk10]; decide) (by rw [hk10]; rfl) (by decide) ?_
    exact lc_10 C0 hL hA hAf hK hE hi hIX hIK hR hP hD hS ls hl kont
  rcases Decidable.em (x = (11 : Int32)) with hk11 | hk11
  · refine lv_tableIn (tgt := 521) hx hb dL_law_32 (by rw [hk11]; decide) (by rw [hk11]; decide) (by rw [hk11]; rfl) (by decide) ?_
    exact lc_11 C0 hL hA hAf hK hE hi hIX hIK hR hP hD hS ls hl kont
  rcases Decidable.em (x = (12 : Int32)) with hk12 | hk12
  · refine lv_tableIn (tgt := 554) hx hb dL_law_32 (by rw [hk12]; decide) (by rw [hk12]; decide) (by rw [hk12]; rfl) (by decide) ?_
    exact lc_12 C0 hL hA hAf hK hE hi hIX hIK hR hP hD hS ls hl kont
  rcases Decidable.em (x = (13 : Int32)) with hk13 | hk13
  · refine lv_tableIn (tgt := 597) hx hb dL_law_32 (by rw [hk13]; decide) (by rw [hk13]; decide) (by rw [hk13]; rfl) (by decide) ?_
    exact lc_13 C0 hL hA hAf hK hE hi hIX hIK hR hP hD hS ls hl kont
  rcases Decidable.em (x = (14 : Int32)) with hk14 | hk14
  · refine lv_tableIn (tgt := 640) hx hb dL_law_32 (by rw [hk14]; decide) (by rw [hk14]; decide) (by rw [hk14]; rfl) (by decide) ?_
    exact lc_14 C0 hL hA hAf hK hE hi hIX hIK hR hP hD hS ls hl kont
  rcases Decidable.em (x = (15 : Int32)) with hk15 | hk15
  · refine lv_tableIn (tgt := 673) hx hb dL_law_32 (by rw [hk15]; decide) (by rw [hk15]; decide) (by rw [hk15]; rfl) (by decide) ?_
    exact lc_15 C0 hL hA hAf hK hE hi hIX hIK hR hP hD hS ls hl kont
  rcases Decidable.em (x = (16 : Int32)) with hk16 | hk16
  · refine lv_tableIn (tgt := 696) hx hb dL_law_32 (by rw [hk16]; decide) (by rw [hk16]; decide) (by rw [hk16]; rfl) (by decide) ?_
    exact lc_16 C0 hL hA hAf hK hE hi hIX hIK hR hP hD hS ls hl kont
  rcases Decidable.em (x = (17 : Int32)) with hk17 | hk17
  · refine lv_tableIn (tgt := 709) hx hb dL_law_32 (by rw [hk17]; decide) (by rw [hk17]; decide) (by rw [hk17]; rfl) (by decide) ?_
    exact lc_17 C0 hL hA hAf hK hE hi hIX hIK hR hP hD hS ls hl kont
  rcases Decidable.em (x = (18 : Int32)) with hk18 | hk18
  · refine lv_tableIn (tgt := 752) hx hb dL_law_32 (by rw [hk18]; decide) (by rw [hk18]; decide) (by rw [hk18]; rfl) (by decide) ?_
    exact lc_18 C0 hL hA hAf hK hE hi hIX hIK hR hP hD hS ls hl kont
  rcases Decidable.em (x = (19 : Int32)) with hk19 | hk19
  · refine lv_tableIn (tgt := 785) hx hb dL_law_32 (by rw [hk19]; decide) (by rw [hk19]; decide) (by rw [hk19]; rfl) (by decide) ?_
    exact lc_19 C0 hL hA hAf hK hE hi hIX hIK hR hP hD hS ls hl kont
  rcases Decidable.em (x = (20 : Int32)) with hk20 | hk20
  · refine lv_tableIn (tgt := 818) hx hb dL_law_32 (by rw [hk20]; decide) (by rw [hk20]; decide) (by rw [hk20]; rfl) (by decide) ?_
    exact lc_20 C0 hL hA hAf hK hE hi hIX hIK hR hP hD hS ls hl kont
  rcases Decidable.em (x = (21 : Int32)) with hk21 | hk21
  · refine lv_tableIn (tgt := 851) hx hb dL_law_32 (by rw [hk21]; decide) (by rw [hk21]; decide) (by rw [hk21]; rfl) (by decide) ?_
    exact lc_21 C0 hL hA hAf hK hE hi hIX hIK hR hP hD hS ls hl kont
  rcases Decidable.em (x = (22 : Int32)) with hk22 | hk22
  · refine lv_tableIn (tgt := 894) hx hb dL_law_32 (by rw [hk22]; decide) (by rw [hk22]; decide) (by rw [hk22]; rfl) (by decide) ?_
    exact lc_22 C0 hL hA hAf hK hE hi hIX hIK hR hP hD hS ls hl kont
  rcases Decidable.em (x = (23 : Int32)) with hk23 | hk23
  · refine lv_tableIn (tgt := 917) hx hb dL_law_32 (by rw [hk23]; decide) (by rw [hk23]; decide) (by rw [hk23]; rfl) (by decide) ?_
    exact lc_23 C0 hL hA hAf hK hE hi hIX hIK hR hP hD hS ls hl kont
  rcases Decidable.em (x = (24 : Int32)) with hk24 | hk24
  · refine lv_tableIn (tgt := 940) hx hb dL_law_32 (by rw [hk24]; decide) (by rw [hk24]; decide) (by rw [hk24]; rfl) (by decide) ?_
    exact lc_24 C0 hL hA hAf hK hE hi hIX hIK hR hP hD hS ls hl kont
  rcases Decidable.em (x = (25 : Int32)) with hk25 | hk25
  · refine lv_tableIn (tgt := 963) hx hb dL_law_32 (by rw [hk25]; decide) (by rw [hk25]; decide) (by rw [hk25]; rfl) (by decide) ?_
    exact lc_25 C0 hL hA hAf hK hE hi hIX hIK hR hP hD hS ls hl kont
  rcases Decidable.em (x = (26 : Int32)) with hk26 | hk26
  · refine lv_tableIn (tgt := 986) hx hb dL_law_32 (by rw [hk26]; decide) (by rw [hk26]; decide) (by rw [hk26]; rfl) (by decide) ?_
    exact lc_26 C0 hL hA hAf hK hE hi hIX hIK hR hP hD hS ls hl kont
  rcases Decidable.em (x = (27 : Int32)) with hk27 | hk27
  · refine lv_tableIn (tgt := 1009) hx hb dL_law_32 (by rw [hk27]; decide) (by rw [hk27]; decide) (by rw [hk27]; rfl) (by decide) ?_
    exact lc_27 C0 hL hA hAf hK hE hi hIX hIK hR hP hD hS ls hl kont
  rcases Decidable.em (x = (28 : Int32)) with hk28 | hk28
  · refine lv_tableIn (tgt := 1052) hx hb dL_law_32 (by rw [hk28]; decide) (by rw [hk28]; decide) (by rw [hk28]; rfl) (by decide) ?_
    exact lc_28 C0 hL hA hAf hK hE hi hIX hIK hR hP hD hS ls hl kont
  rcases Decidable.em (x = (29 : Int32)) with hk29 | hk29
  · refine lv_tableIn (tgt := 1085) hx hb dL_law_32 (by rw [hk29]; decide) (by rw [hk29]; decide) (by rw [hk29]; rfl) (by decide) ?_
    exact lc_29 C0 hL hA hAf hK hE hi hIX hIK hR hP hD hS ls hl kont
  rcases Decidable.em (x = (30 : Int32)) with hk30 | hk30
  · refine lv_tableIn (tgt := 1108) hx hb dL_law_32 (by rw [hk30]; decide) (by rw [hk30]; decide) (by rw [hk30]; rfl) (by decide) ?_
    exact lc_30 C0 hL hA hAf hK hE hi hIX hIK hR hP hD hS ls hl kont
  rcases Decidable.em (x = (31 : Int32)) with hk31 | hk31
  · refine lv_tableIn (tgt := 1131) hx hb dL_law_32 (by rw [hk31]; decide) (by rw [hk31]; decide) (by rw [hk31]; rfl) (by decide) ?_
    exact lc_31 C0 hL hA hAf hK hE hi hIX hIK hR hP hD hS ls hl kont
  rcases Decidable.em (x = (32 : Int32)) with hk32 | hk32
  · refine lv_tableIn (tgt := 1174) hx hb dL_law_32 (by rw [hk32]; decide) (by rw [hk32]; decide) (by rw [hk32]; rfl) (by decide) ?_
    exact lc_32 C0 hL hA hAf hK hE hi hIX hIK hR hP hD hS ls hl kont
  rcases Decidable.em (x = (33 : Int32)) with hk33 | hk33
  · refine lv_tableIn (tgt := 1217) hx hb dL_law_32 (by rw [hk33]; decide) (by rw [hk33]; decide) (by rw [hk33]; rfl) (by decide) ?_
    exact lc_33 C0 hL hA hAf hK hE hi hIX hIK hR hP hD hS ls hl kont
  rcases Decidable.em (x = (34 : Int32)) with hk34 | hk34
  · refine lv_tableIn (tgt := 1270) hx hb dL_law_32 (by rw [hk34]; decide) (by rw [hk34]; decide) (by rw [hk34]; rfl) (by decide) ?_
    exact lc_34 C0 hL hA hAf hK hE hi hIX hIK hR hP hD hS ls hl kont
  rcases Decidable.em (x = (35 : Int32)) with hk35 | hk35
  · refine lv_tableIn (tgt := 1283) hx hb dL_law_32 (by rw [hk35]; decide) (by rw [hk35]; decide) (by rw [hk35]; rfl) (by decide) ?_
    exact lc_35 C0 hL hA hAf hK hE hi hIX hIK hR hP hD hS ls hl kont
  have thk0 := tsw_ne hk0
  rw [show ((0 : Int32)).toInt = 0 from by decide] at thk0
  have thk1 := tsw_ne hk1
  rw [show ((1 : Int32)).toInt = 1 from by decide] at thk1
  have thk2 := tsw_ne hk2
  rw [show ((2 : Int32)).toInt = 2 from by decide] at thk2
  have thk3 := tsw_ne hk3
  rw [show ((3 : Int32)).toInt = 3 from by decide] at thk3
  have thk4 := tsw_ne hk4
  rw [show ((4 : Int32)).toInt = 4 from by decide] at thk4
  have thk5 := tsw_ne hk5
  rw [show ((5 : Int32)).toInt = 5 from by decide] at thk5
  have thk6 := tsw_ne hk6
  rw [show ((6 : Int32)).toInt = 6 from by decide] at thk6
  have thk7 := tsw_ne hk7
  rw [show ((7 : Int32)).toInt = 7 from by decide] at thk7
  have thk8 := tsw_ne hk8
  rw [show ((8 : Int32)).toInt = 8 from by decide] at thk8
  have thk9 := tsw_ne hk9
  rw [show ((9 : Int32)).toInt = 9 from by decide] at thk9
  have thk10 := tsw_ne hk10
  rw [show ((10 : Int32)).toInt = 10 from by decide] at thk10
  have thk11 := tsw_ne hk11
  rw [show ((11 : Int32)).toInt = 11 from by decide] at thk11
  have thk12 := tsw_ne hk12
  rw [show ((12 : Int32)).toInt = 12 from by decide] at thk12
  have thk13 := tsw_ne hk13
  rw [show ((13 : Int32)).toInt = 13 from by decide] at thk13
  have thk14 := tsw_ne hk14
  rw [show ((14 : Int32)).toInt = 14 from by decide] at thk14
  have thk15 := tsw_ne hk15
  rw [show ((15 : Int32)).toInt = 15 from by decide] at thk15
  have thk16 := tsw_ne hk16
  rw [show ((16 : Int32)).toInt = 16 from by decide] at thk16
  have thk17 := tsw_ne hk17
  rw [show ((17 : Int32)).toInt = 17 from by decide] at thk17
  have thk18 := tsw_ne hk18
  rw [show ((18 : Int32)).toInt = 18 from by decide] at thk18
  have thk19 := tsw_ne hk19
  rw [show ((19 : Int32)).toInt = 19 from by decide] at thk19
  have thk20 := tsw_ne hk20
  rw [show ((20 : Int32)).toInt = 20 from by decide] at thk20
  have thk21 := tsw_ne hk21
  rw [show ((21 : Int32)).toInt = 21 from by decide] at thk21
  have thk22 := tsw_ne hk22
  rw [show ((22 : Int32)).toInt = 22 from by decide] at thk22
  have thk23 := tsw_ne hk23
  rw [show ((23 : Int32)).toInt = 23 from by decide] at thk23
  have thk24 := tsw_ne hk24
  rw [show ((24 : Int32)).toInt = 24 from by decide] at thk24
  have thk25 := tsw_ne hk25
  rw [show ((25 : Int32)).toInt = 25 from by decide] at thk25
  have thk26 := tsw_ne hk26
  rw [show ((26 : Int32)).toInt = 26 from by decide] at thk26
  have thk27 := tsw_ne hk27
  rw [show ((27 : Int32)).toInt = 27 from by decide] at thk27
  have thk28 := tsw_ne hk28
  rw [show ((28 : Int32)).toInt = 28 from by decide] at thk28
  have thk29 := tsw_ne hk29
  rw [show ((29 : Int32)).toInt = 29 from by decide] at thk29
  have thk30 := tsw_ne hk30
  rw [show ((30 : Int32)).toInt = 30 from by decide] at thk30
  have thk31 := tsw_ne hk31
  rw [show ((31 : Int32)).toInt = 31 from by decide] at thk31
  have thk32 := tsw_ne hk32
  rw [show ((32 : Int32)).toInt = 32 from by decide] at thk32
  have thk33 := tsw_ne hk33
  rw [show ((33 : Int32)).toInt = 33 from by decide] at thk33
  have thk34 := tsw_ne hk34
  rw [show ((34 : Int32)).toInt = 34 from by decide] at thk34
  have thk35 := tsw_ne hk35
  rw [show ((35 : Int32)).toInt = 35 from by decide] at thk35
  refine lv_tableOut (tgt := 1306) hx hb dL_law_32 (by omega) (by decide) ?_
  exact kont xi0_13 xi0_14 xi1_0 xi1_1 xv2 xv3 xv4 xv5 xv6 xi7_5 xi7_6 xi7_7 xi7_8 xv8 xv9 xv10 xv11 xv12 xi13_1 xi13_2 xi13_3 xi13_4 xi13_5 xv14 xi15_3 xi15_4 xi15_5 xi15_6 xi15_7 xi16_0 xi16_1 xv17 xv18 xv19 xv20 xv21 xi22_5 xi22_6 xi22_7 xi22_8 xv23 xv24 xv25 xv26 xv27 xv28 xv30 xv31 xv32 xv34 xv35 xv36 xv38 xv39 xv42 xi43_7 xi43_8 xv44 xv45 xv46 xv47 xv48 xv49 xv51 xi53_5 xi53_6 xi53_7 xi53_8 xv54 xv55 xv56 xv57 xv58 xi59_5 xi59_6 xi59_7 xi59_8 xv60 xv61 xv62 xv63 xv64 xi65_0 xi65_1 xv66 xi67_0 xi67_1 xv68 xi69_0 xi69_1 xv70 xi71_0 xi71_1 xv72 mi0_2 mi0_3 mi0_7 mi0_8 mi0_11 mi0_12 mi0_14 mi0_15 mi0_16 mi0_17 mi0_18 mi0_19 mi0_20 mi0_36 mv1 mv2 mv3 mv4 mv5 mv6 mv7 mv8 mv9 mv10 mv11 mv12 mv13 mv14 mv15 mv16 mv17 mv18 mv19 mv20 mv21 mv22 mv23 hIX hIK hR H locs hP hD hS
set_option maxRecDepth 100000 in
theorem law_out {p : Program} {l : Launch} {e : Env} {s : State} {m : MethodId} {below : List Frame} {meth : Method} {c : Code} {b L : Nat} {xs : Nat → Int32} {A : Nat → Prop} {H : Heap} {locs : List Loc} (C0 : lw_At p s m meth c b L xs) (hAf : ∀ q, A q → s.heap.size ≤ q) (hS : va_S A s.heap H locs) (ls : Array Slot) : W p l e room_1 s m #[Value.ref b] below meth c H locs 600000 7302250 (lw_Z below #[Value.ref b] s) (F0 m 1312 ls []) := by
  obtain ⟨hx, hb, hr, hml, hown, hts, hX, hbl, hlocks, hgv⟩ := C0
  refine lv_iconst (v := (1 : Int32)) hx hb dL_law_1312 (by decide) ?_
  refine va_forget (fun q hq => hAf _ (hS.2.2 q hq)) ?_
  exact lw_ret hx hb hr hlocks dL_law_1313
set_option maxHeartbeats 8000000 in
set_option maxRecDepth 100000 in
theorem law_loop {p : Program} {l : Launch} {e : Env} {s : State} {m : MethodId} {below : List Frame} {meth : Method} {c : Code} {b L : Nat} {xs : Nat → Int32} {A : Nat → Prop} {D : va_G} {G : Nat → ClassId} {adT adK adV : Nat → Nat} {y0 y1 y2 y3 y4 y5 y6 y7 y8 y9 y10 y11 y12 y13 y14 y15 y16 y17 y18 y19 y20 y21 y22 y23 y24 y25 y26 y27 y28 y29 y30 y31 y32 y33 y34 y35 y36 y37 y38 y39 y40 y41 y42 y43 y44 y45 y46 y47 y48 y49 y50 y51 y52 y53 y54 y55 y56 y57 y58 y59 y60 y61 y62 y63 y64 y65 y66 y67 y68 y69 y70 y71 y72 k0 k1 k2 k3 k4 k5 k6 k7 k8 k9 k10 k11 k12 k13 k14 k15 k16 k17 k18 k19 k20 k21 k22 k23 : Nat} (C0 : lw_At p s m meth c b L xs) (hL : L ≤ 2560) (hA : ∀ q, s.heap.size ≤ q → A q) (hAf : ∀ q, A q → s.heap.size ≤ q) (hK : va_K D vwCl (tyG G) s) (hE : EV adT adK adV A s s.heap) : ∀ (n i : Nat), L + 5 ≤ i + 5 * n → i ≤ 2560 → ∀ (xi0_13 : Int) (xi0_14 : Int) (xi1_0 : Int) (xi1_1 : Int) (xv2 : Int → Int) (xv3 : Int → Int) (xv4 : Int → Int) (xv5 : Int → Int) (xv6 : Int → Int) (xi7_5 : Int) (xi7_6 : Int) (xi7_7 : Int) (xi7_8 : Int) (xv8 : Int → Int) (xv9 : Int → Int) (xv10 : Int → Int) (xv11 : Int → Int) (xv12 : Int → Int) (xi13_1 : Int) (xi13_2 : Int) (xi13_3 : Int) (xi13_4 : Int) (xi13_5 : Int) (xv14 : Int → Int) (xi15_3 : Int) (xi15_4 : Int) (xi15_5 : Int) (xi15_6 : Int) (xi15_7 : Int) (xi16_0 : Int) (xi16_1 : Int) (xv17 : Int → Int) (xv18 : Int → Int) (xv19 : Int → Int) (xv20 : Int → Int) (xv21 : Int → Int) (xi22_5 : Int) (xi22_6 : Int) (xi22_7 : Int) (xi22_8 : Int) (xv23 : Int → Int) (xv24 : Int → Int) (xv25 : Int → Int) (xv26 : Int → Int) (xv27 : Int → Int) (xv28 : Int → Int) (xv30 : Int → Int) (xv31 : Int → Int) (xv32 : Int → Int) (xv34 : Int → Int) (xv35 : Int → Int) (xv36 : Int → Int) (xv38 : Int → Int) (xv39 : Int → Int) (xv42 : Int → Int) (xi43_7 : Int) (xi43_8 : Int) (xv44 : Int → Int) (xv45 : Int → Int) (xv46 : Int → Int) (xv47 : Int → Int) (xv48 : Int → Int) (xv49 : Int → Int) (xv51 : Int → Int) (xi53_5 : Int) (xi53_6 : Int) (xi53_7 : Int) (xi53_8 : Int) (xv54 : Int → Int) (xv55 : Int → Int) (xv56 : Int → Int) (xv57 : Int → Int) (xv58 : Int → Int) (xi59_5 : Int) (xi59_6 : Int) (xi59_7 : Int) (xi59_8 : Int) (xv60 : Int → Int) (xv61 : Int → Int) (xv62 : Int → Int) (xv63 : Int → Int) (xv64 : Int → Int) (xi65_0 : Int) (xi65_1 : Int) (xv66 : Int → Int) (xi67_0 : Int) (xi67_1 : Int) (xv68 : Int → Int) (xi69_0 : Int) (xi69_1 : Int) (xv70 : Int → Int) (xi71_0 : Int) (xi71_1 : Int) (xv72 : Int → Int) (mi0_2 : Int) (mi0_3 : Int) (mi0_7 : Int) (mi0_8 : Int) (mi0_11 : Int) (mi0_12 : Int) (mi0_14 : Int) (mi0_15 : Int) (mi0_16 : Int) (mi0_17 : Int) (mi0_18 : Int) (mi0_19 : Int) (mi0_20 : Int) (mi0_36 : Int) (mv1 : Int → Int) (mv2 : Int → Int) (mv3 : Int → Int) (mv4 : Int → Int) (mv5 : Int → Int) (mv6 : Int → Int) (mv7 : Int → Int) (mv8 : Int → Int) (mv9 : Int → Int) (mv10 : Int → Int) (mv11 : Int → Int) (mv12 : Int → Int) (mv13 : Int → Int) (mv14 : Int → Int) (mv15 : Int → Int) (mv16 : Int → Int) (mv17 : Int → Int) (mv18 : Int → Int) (mv19 : Int → Int) (mv20 : Int → Int) (mv21 : Int → Int) (mv22 : Int → Int) (mv23 : Int → Int), InvX xi13_1 xv14 xi1_0 xi1_1 xv2 xv6 xi7_5 xi7_6 xi7_7 xi7_8 xv8 xv9 xv10 xv11 xv12 xv51 xi53_5 xi53_6 xi53_7 xi53_8 xv54 xv55 xv56 xv57 xv58 xi59_5 xi59_6 xi59_7 xi59_8 xv60 xv61 xv62 xv63 xv64 xi65_0 xi65_1 xi67_0 xi67_1 xi69_0 xi69_1 xi71_0 xi71_1 xv66 xv68 xv70 xv72 xv39 xv49 xi0_14 → InvK mi0_14 mv8 mi0_2 mi0_3 mv4 mv3 mv1 mv2 mv21 mv22 mv23 mi0_36 → SRel xi13_1 mi0_14 xv14 mv8 xi1_0 xi1_1 mi0_2 mi0_3 xv2 xv6 mv4 mv3 xi7_5 xi7_6 xi7_7 xi7_8 xv8 xv9 xv10 xv11 xv12 mv1 xv51 mv2 xi53_5 xi53_6 xi53_7 xi53_8 xv54 xv55 xv56 xv57 xv58 xi59_5 xi59_6 xi59_7 xi59_8 xv60 xv61 xv62 xv63 xv64 xi65_0 mv21 xi65_1 mv22 xv66 mv23 xi67_0 xi67_1 xv68 xi69_0 xi69_1 xv70 xi71_0 xi71_1 xv72 xi0_14 mi0_36 → ∀ (H : Heap) (locs : List Loc) (ls : Array Slot), va_P D vwCl (wF G y0 y1 y2 y3 y4 y5 y6 y7 y8 y9 y10 y11 y12 y13 y14 y15 y16 y17 y18 y19 y20 y21 y22 y23 y24 y25 y26 y27 y28 y29 y30 y31 y32 y33 y34 y35 y36 y37 y38 y39 y40 y41 y42 y43 y44 y45 y46 y47 y48 y49 y50 y51 y52 y53 y54 y55 y56 y57 y58 y59 y60 y61 y62 y63 y64 y65 y66 y67 y68 y69 y70 y71 y72 k0 k1 k2 k3 k4 k5 k6 k7 k8 k9 k10 k11 k12 k13 k14 k15 k16 k17 k18 k19 k20 k21 k22 k23 xi0_13 xi0_14 xi1_0 xi1_1 xv2 xv3 xv4 xv5 xv6 xi7_5 xi7_6 xi7_7 xi7_8 xv8 xv9 xv10 xv11 xv12 xi13_1 xi13_2 xi13_3 xi13_4 xi13_5 xv14 xi15_3 xi15_4 xi15_5 xi15_6 xi15_7 xi16_0 xi16_1 xv17 xv18 xv19 xv20 xv21 xi22_5 xi22_6 xi22_7 xi22_8 xv23 xv24 xv25 xv26 xv27 xv28 xv30 xv31 xv32 xv34 xv35 xv36 xv38 xv39 xv42 xi43_7 xi43_8 xv44 xv45 xv46 xv47 xv48 xv49 xv51 xi53_5 xi53_6 xi53_7 xi53_8 xv54 xv55 xv56 xv57 xv58 xi59_5 xi59_6 xi59_7 xi59_8 xv60 xv61 xv62 xv63 xv64 xi65_0 xi65_1 xv66 xi67_0 xi67_1 xv68 xi69_0 xi69_1 xv70 xi71_0 xi71_1 xv72 mi0_2 mi0_3 mi0_7 mi0_8 mi0_11 mi0_12 mi0_14 mi0_15 mi0_16 mi0_17 mi0_18 mi0_19 mi0_20 mi0_36 mv1 mv2 mv3 mv4 mv5 mv6 mv7 mv8 mv9 mv10 mv11 mv12 mv13 mv14 mv15 mv16 mv17 mv18 mv19 mv20 mv21 mv22 mv23) H → va_D A (wF G y0 y1 y2 y3 y4 y5 y6 y7 y8 y9 y10 y11 y12 y13 y14 y15 y16 y17 y18 y19 y20 y21 y22 y23 y24 y25 y26 y27 y28 y29 y30 y31 y32 y33 y34 y35 y36 y37 y38 y39 y40 y41 y42 y43 y44 y45 y46 y47 y48 y49 y50 y51 y52 y53 y54 y55 y56 y57 y58 y59 y60 y61 y62 y63 y64 y65 y66 y67 y68 y69 y70 y71 y72 k0 k1 k2 k3 k4 k5 k6 k7 k8 k9 k10 k11 k12 k13 k14 k15 k16 k17 k18 k19 k20 k21 k22 k23 xi0_13 xi0_14 xi1_0 xi1_1 xv2 xv3 xv4 xv5 xv6 xi7_5 xi7_6 xi7_7 xi7_8 xv8 xv9 xv10 xv11 xv12 xi13_1 xi13_2 xi13_3 xi13_4 xi13_5 xv14 xi15_3 xi15_4 xi15_5 xi15_6 xi15_7 xi16_0 xi16_1 xv17 xv18 xv19 xv20 xv21 xi22_5 xi22_6 xi22_7 xi22_8 xv23 xv24 xv25 xv26 xv27 xv28 xv30 xv31 xv32 xv34 xv35 xv36 xv38 xv39 xv42 xi43_7 xi43_8 xv44 xv45 xv46 xv47 xv48 xv49 xv51 xi53_5 xi53_6 xi53_7 xi53_8 xv54 xv55 xv56 xv57 xv58 xi59_5 xi59_6 xi59_7 xi59_8 xv60 xv61 xv62 xv63 xv64 xi65_0 xi65_1 xv66 xi67_0 xi67_1 xv68 xi69_0 xi69_1 xv70 xi71_0 xi71_1 xv72 mi0_2 mi0_3 mi0_7 mi0_8 mi0_11 mi0_12 mi0_14 mi0_15 mi0_16 mi0_17 mi0_18 mi0_19 mi0_20 mi0_36 mv1 mv2 mv3 mv4 mv5 mv6 mv7 mv8 mv9 mv10 mv11 mv12 mv13 mv14 mv15 mv16 mv17 mv18 mv19 mv20 mv21 mv22 mv23) → va_S A s.heap H locs → lv_has ls 4 [(3, .int (Int32.ofInt (i : Int))), (2, .ref k0), (1, .ref y0), (0, .ref b)] → W p l e room_1 s m #[Value.ref b] below meth c H locs 600000 7302250 (lw_Z below #[Value.ref b] s) (F0 m 18 ls []) := by
  obtain ⟨hx, hb, hr, hml, hown, hts, hX, hbl, hlocks, hgv⟩ := id C0
  have hbA : ¬ A b := fun h => absurd (hAf b h) (Nat.not_le.mpr hbl)
  intro n
  induction n with
  | zero =>
    intro i hn hi2 xi0_13 xi0_14 xi1_0 xi1_1 xv2 xv3 xv4 xv5 xv6 xi7_5 xi7_6 xi7_7 xi7_8 xv8 xv9 xv10 xv11 xv12 xi13_1 xi13_2 xi13_3 xi13_4 xi13_5 xv14 xi15_3 xi15_4 xi15_5 xi15_6 xi15_7 xi16_0 xi16_1 xv17 xv18 xv19 xv20 xv21 xi22_5 xi22_6 xi22_7 xi22_8 xv23 xv24 xv25 xv26 xv27 xv28 xv30 xv31 xv32 xv34 xv35 xv36 xv38 xv39 xv42 xi43_7 xi43_8 xv44 xv45 xv46 xv47 xv48 xv49 xv51 xi53_5 xi53_6 xi53_7 xi53_8 xv54 xv55 xv56 xv57 xv58 xi59_5 xi59_6 xi59_7 xi59_8 xv60 xv61 xv62 xv63 xv64 xi65_0 xi65_1 xv66 xi67_0 xi67_1 xv68 xi69_0 xi69_1 xv70 xi71_0 xi71_1 xv72 mi0_2 mi0_3 mi0_7 mi0_8 mi0_11 mi0_12 mi0_14 mi0_15 mi0_16 mi0_17 mi0_18 mi0_19 mi0_20 mi0_36 mv1 mv2 mv3 mv4 mv5 mv6 mv7 mv8 mv9 mv10 mv11 mv12 mv13 mv14 mv15 mv16 mv17 mv18 mv19 mv20 mv21 mv22 mv23 hIX hIK hR H locs ls hP hD hS hl
    refine lv_iload_n hx hb dL_law_18 rfl (lv_at hl 0 rfl) ?_
    refine lv_aload_n hx hb dL_law_19 rfl (lv_at hl 3 rfl) ?_
    refine va_slen hx hb hX hbl hbA hS dL_law_20 ?_
    refine lv_iconst (v := Int32.ofInt (5 : Int)) hx hb dL_law_21 (by decide) ?_
    refine lv_isub hx hb dL_law_22 ?_
    refine lv_icmp_gt (tgt := 1312) hx hb dL_law_23 (by decide) (fun _ => ?_) (fun cc => absurd ((sx_gt hL hi2).mpr (by omega)) cc)
    exact law_out C0 hAf hS ls
  | succ n ih =>
    intro i hn hi2 xi0_13 xi0_14 xi1_0 xi1_1 xv2 xv3 xv4 xv5 xv6 xi7_5 xi7_6 xi7_7 xi7_8 xv8 xv9 xv10 xv11 xv12 xi13_1 xi13_2 xi13_3 xi13_4 xi13_5 xv14 xi15_3 xi15_4 xi15_5 xi15_6 xi15_7 xi16_0 xi16_1 xv17 xv18 xv19 xv20 xv21 xi22_5 xi22_6 xi22_7 xi22_8 xv23 xv24 xv25 xv26 xv27 xv28 xv30 xv31 xv32 xv34 xv35 xv36 xv38 xv39 xv42 xi43_7 xi43_8 xv44 xv45 xv46 xv47 xv48 xv49 xv51 xi53_5 xi53_6 xi53_7 xi53_8 xv54 xv55 xv56 xv57 xv58 xi59_5 xi59_6 xi59_7 xi59_8 xv60 xv61 xv62 xv63 xv64 xi65_0 xi65_1 xv66 xi67_0 xi67_1 xv68 xi69_0 xi69_1 xv70 xi71_0 xi71_1 xv72 mi0_2 mi0_3 mi0_7 mi0_8 mi0_11 mi0_12 mi0_14 mi0_15 mi0_16 mi0_17 mi0_18 mi0_19 mi0_20 mi0_36 mv1 mv2 mv3 mv4 mv5 mv6 mv7 mv8 mv9 mv10 mv11 mv12 mv13 mv14 mv15 mv16 mv17 mv18 mv19 mv20 mv21 mv22 mv23 hIX hIK hR H locs ls hP hD hS hl
    refine lv_iload_n hx hb dL_law_18 rfl (lv_at hl 0 rfl) ?_
    refine lv_aload_n hx hb dL_law_19 rfl (lv_at hl 3 rfl) ?_
    refine va_slen hx hb hX hbl hbA hS dL_law_20 ?_
    refine lv_iconst (v := Int32.ofInt (5 : Int)) hx hb dL_law_21 (by decide) ?_
    refine lv_isub hx hb dL_law_22 ?_
    refine lv_icmp_gt (tgt := 1312) hx hb dL_law_23 (by decide) (fun _ => law_out C0 hAf hS ls) (fun cc => ?_)
    have hi : i + 5 ≤ L := by
      have := mt (sx_gt hL hi2).mpr cc
      omega
    refine lv_aload_n hx hb dL_law_26 rfl (lv_at hl 3 rfl) ?_
    refine lv_iload_n hx hb dL_law_27 rfl (lv_at hl 0 rfl) ?_
    refine va_sld hx hb hX hbl hbA hS (sx_in0 (i := i) (by omega) hL) dL_law_28 ?_
    refine lv_bipush (v := (63 : Int32)) hx hb dL_law_29 (by decide) ?_
    refine lv_iand hx hb dL_law_31 ?_
    refine law_disp C0 hL hA hAf hK hE hi hIX hIK hR hP hD hS ls hl (fun xi0_13 xi0_14 xi1_0 xi1_1 xv2 xv3 xv4 xv5 xv6 xi7_5 xi7_6 xi7_7 xi7_8 xv8 xv9 xv10 xv11 xv12 xi13_1 xi13_2 xi13_3 xi13_4 xi13_5 xv14 xi15_3 xi15_4 xi15_5 xi15_6 xi15_7 xi16_0 xi16_1 xv17 xv18 xv19 xv20 xv21 xi22_5 xi22_6 xi22_7 xi22_8 xv23 xv24 xv25 xv26 xv27 xv28 xv30 xv31 xv32 xv34 xv35 xv36 xv38 xv39 xv42 xi43_7 xi43_8 xv44 xv45 xv46 xv47 xv48 xv49 xv51 xi53_5 xi53_6 xi53_7 xi53_8 xv54 xv55 xv56 xv57 xv58 xi59_5 xi59_6 xi59_7 xi59_8 xv60 xv61 xv62 xv63 xv64 xi65_0 xi65_1 xv66 xi67_0 xi67_1 xv68 xi69_0 xi69_1 xv70 xi71_0 xi71_1 xv72 mi0_2 mi0_3 mi0_7 mi0_8 mi0_11 mi0_12 mi0_14 mi0_15 mi0_16 mi0_17 mi0_18 mi0_19 mi0_20 mi0_36 mv1 mv2 mv3 mv4 mv5 mv6 mv7 mv8 mv9 mv10 mv11 mv12 mv13 mv14 mv15 mv16 mv17 mv18 mv19 mv20 mv21 mv22 mv23 hIX hIK hR H locs hP hD hS => ?_) _
    refine lv_iinc (v := Int32.ofInt ((i + 5 : Nat) : Int)) (lv' := [(3, .int (Int32.ofInt ((i + 5 : Nat) : Int))), (2, .ref k0), (1, .ref y0), (0, .ref b)]) hx hb dL_law_1306 hl (k := 0) rfl (by rw [← Int32.ofInt_add, show (i : Int) + 5 = ((i + 5 : Nat) : Int) from by omega]) (by decide) rfl (fun ls hl => ?_)
    refine lv_goto (tgt := 18) hx hb dL_law_1309 (by decide) ?_
    exact ih (i + 5) (by omega) (by omega) xi0_13 xi0_14 xi1_0 xi1_1 xv2 xv3 xv4 xv5 xv6 xi7_5 xi7_6 xi7_7 xi7_8 xv8 xv9 xv10 xv11 xv12 xi13_1 xi13_2 xi13_3 xi13_4 xi13_5 xv14 xi15_3 xi15_4 xi15_5 xi15_6 xi15_7 xi16_0 xi16_1 xv17 xv18 xv19 xv20 xv21 xi22_5 xi22_6 xi22_7 xi22_8 xv23 xv24 xv25 xv26 xv27 xv28 xv30 xv31 xv32 xv34 xv35 xv36 xv38 xv39 xv42 xi43_7 xi43_8 xv44 xv45 xv46 xv47 xv48 xv49 xv51 xi53_5 xi53_6 xi53_7 xi53_8 xv54 xv55 xv56 xv57 xv58 xi59_5 xi59_6 xi59_7 xi59_8 xv60 xv61 xv62 xv63 xv64 xi65_0 xi65_1 xv66 xi67_0 xi67_1 xv68 xi69_0 xi69_1 xv70 xi71_0 xi71_1 xv72 mi0_2 mi0_3 mi0_7 mi0_8 mi0_11 mi0_12 mi0_14 mi0_15 mi0_16 mi0_17 mi0_18 mi0_19 mi0_20 mi0_36 mv1 mv2 mv3 mv4 mv5 mv6 mv7 mv8 mv9 mv10 mv11 mv12 mv13 mv14 mv15 mv16 mv17 mv18 mv19 mv20 mv21 mv22 mv23 hIX hIK hR H locs ls hP hD hS hl
