set_option maxHeartbeats 8000000 in
set_option maxRecDepth 100000 in
theorem lc_12 {p : Program} {l : Launch} {e : Env} {s : State} {m : MethodId} {below : List Frame} {meth : Method} {c : Code} {b : Nat} {xs : Nat → Int32} {A : Nat → Prop} {D : va_G} {G : Nat → ClassId} {H : Heap} {locs : List Loc} {y0 y1 y2 y3 y4 y5 y6 y7 y8 y9 y10 y11 y12 y13 y14 y15 y16 y17 y18 y19 y20 y21 y22 y23 y24 y25 y26 y27 y28 y29 y30 y31 y32 y33 y34 y35 y36 y37 y38 y39 y40 y41 y42 y43 y44 y45 y46 y47 y48 y49 y50 y51 y52 y53 y54 y55 y56 y57 y58 y59 y60 y61 y62 y63 y64 y65 y66 y67 y68 y69 y70 y71 y72 k0 k1 k2 k3 k4 k5 k6 k7 k8 k9 k10 k11 k12 k13 k14 k15 k16 k17 k18 k19 k20 k21 k22 k23 : Nat} (C0 : lw_At p s m meth c b 5 xs) (hA : ∀ q, s.heap.size ≤ q → A q) (hAf : ∀ q, A q → s.heap.size ≤ q) (hK : va_K D vwCl (tyG G) s) (hP : va_P D vwCl (wF G y0 y1 y2 y3 y4 y5 y6 y7 y8 y9 y10 y11 y12 y13 y14 y15 y16 y17 y18 y19 y20 y21 y22 y23 y24 y25 y26 y27 y28 y29 y30 y31 y32 y33 y34 y35 y36 y37 y38 y39 y40 y41 y42 y43 y44 y45 y46 y47 y48 y49 y50 y51 y52 y53 y54 y55 y56 y57 y58 y59 y60 y61 y62 y63 y64 y65 y66 y67 y68 y69 y70 y71 y72 k0 k1 k2 k3 k4 k5 k6 k7 k8 k9 k10 k11 k12 k13 k14 k15 k16 k17 k18 k19 k20 k21 k22 k23) H) (hD : va_D A (wF G y0 y1 y2 y3 y4 y5 y6 y7 y8 y9 y10 y11 y12 y13 y14 y15 y16 y17 y18 y19 y20 y21 y22 y23 y24 y25 y26 y27 y28 y29 y30 y31 y32 y33 y34 y35 y36 y37 y38 y39 y40 y41 y42 y43 y44 y45 y46 y47 y48 y49 y50 y51 y52 y53 y54 y55 y56 y57 y58 y59 y60 y61 y62 y63 y64 y65 y66 y67 y68 y69 y70 y71 y72 k0 k1 k2 k3 k4 k5 k6 k7 k8 k9 k10 k11 k12 k13 k14 k15 k16 k17 k18 k19 k20 k21 k22 k23)) (hS : va_S A s.heap H locs) (ls : Array Slot) (hl : lv_has ls 4 [(3, .int (0 : Int32)), (2, .ref k0), (1, .ref y0), (0, .ref b)]) : W p l e room_1 s m #[Value.ref b] below meth c H locs 600000 7302250 (lw_Z below #[Value.ref b] s) (F0 m 554 ls []) := by
  obtain ⟨hx, hb, hr, hml, hown, hts, hX, hbl, hlocks, hgv⟩ := id C0
  have hbA : ¬ A b := fun h => absurd (hAf b h) (Nat.not_le.mpr hbl)
  have hown : s.vm.findClass RL = some m.cls := hown
  have htsL : ∀ w ∈ wsL_law, w.before #[Value.ref b] s = true := fun w h => hts w (wsL_law_in w h)
  refine lv_aload_n hx hb dL_law_554 rfl (lv_at hl 2 rfl) ?_
  refine lv_aload_n hx hb dL_law_555 rfl (lv_at hl 3 rfl) ?_
  refine lv_iload_n hx hb dL_law_556 rfl (lv_at hl 0 rfl) ?_
  refine lv_iconst (v := (1 : Int32)) hx hb dL_law_557 (by decide) ?_
  refine lv_iadd hx hb dL_law_558 ?_
  refine va_sld hx hb hX hbl hbA hS (ixB_in (by decide +kernel)) dL_law_559 ?_
  refine W.eq (g2 := F0 m 560 ls [.int (xs 1), .ref y0]) rfl ?_
  refine lv_aload_n hx hb dL_law_560 rfl (lv_at hl 3 rfl) ?_
  refine lv_iload_n hx hb dL_law_561 rfl (lv_at hl 0 rfl) ?_
  refine lv_iconst (v := (2 : Int32)) hx hb dL_law_562 (by decide) ?_
  refine lv_iadd hx hb dL_law_563 ?_
  refine va_sld hx hb hX hbl hbA hS (ixB_in (by decide +kernel)) dL_law_564 ?_
  refine W.eq (g2 := F0 m 565 ls [.int (xs 2), .int (xs 1), .ref y0]) rfl ?_
  refine lv_aload_n hx hb dL_law_565 rfl (lv_at hl 3 rfl) ?_
  refine lv_iload_n hx hb dL_law_566 rfl (lv_at hl 0 rfl) ?_
  refine lv_iconst (v := (3 : Int32)) hx hb dL_law_567 (by decide) ?_
  refine lv_iadd hx hb dL_law_568 ?_
  refine va_sld hx hb hX hbl hbA hS (ixB_in (by decide +kernel)) dL_law_569 ?_
  refine W.eq (g2 := F0 m 570 ls [.int (xs 3), .int (xs 2), .int (xs 1), .ref y0]) rfl ?_
  obtain ⟨r, hcx, hck⟩ := z_bowl (xs 1) (xs 2) (xs 3)
  refine gcI (ws' := (wK G k0 k1 k2 k3 k4 k5 k6 k7 k8 k9 k10 k11 k12 k13 k14 k15 k16 k17 k18 k19 k20 k21 k22 k23)) (va_runV (As := [.int (xs 1), .int (xs 2), .int (xs 3)]) (rest := []) ⟨hx, hb, hml, hown, htsL⟩ (c_X11_bowl (l := l) (D := D) (G := G) (sz := H.size) (a_p0 := y0) (a_p0_rules := y1) (a_p0_state := y7) (a_p0_tape := y13) (a_p0_reader := y15) (a_p0_kitchen := y29) (a_p0_luck := y33) (a_p0_plans := y37) (a_p0_coups := y40) (a_p0_past := y41) (a_p0_fairDays := y43) (a_p0_images := y50) (a_p0_imageHeld := y51) (a_p0_sheets := y52) (a_p0_rules_need := y2) (a_p0_rules_kind := y3) (a_p0_rules_first := y4) (a_p0_rules_second := y5) (a_p0_rules_after := y6) (i_p0_latestFault := (0 : Int32)) (i_p0_latestTear := (0 : Int32)) (i_p0_rules_seats := (4 : Int32)) (i_p0_rules_stirs := (0 : Int32)) (x1 := (xs 1)) (x2 := (xs 2)) (x3 := (xs 3)) (r := r) (hf := hcx)) (cwV 3 htsL gL_law_X11_bowl rfl rfl rfl (by decide +kernel) ⟨(Nat.le_of_ble_eq_true rfl), (Nat.le_of_ble_eq_true rfl)⟩) (preG_V (ci := 11) (hP.sub [0, 1] rfl) (hD.sub [0, 1] rfl rfl) hK rfl rfl) rfl rfl hl.1 rfl (lv_room (Nat.le_of_ble_eq_true rfl)) dL_law_570 ⟨(Nat.le_of_ble_eq_true rfl), (Nat.le_of_ble_eq_true rfl)⟩) hP hD hS hA [0, 1] [73, 74, 75, 76, 77, 78, 79, 80, 81, 82, 83, 84, 85, 86, 87, 88, 89, 90, 91, 92, 93, 94, 95, 96] [0, 1, 2, 3, 4, 5, 6, 7, 8, 9, 10, 11, 12, 13, 14, 15, 16, 17, 18, 19, 20, 21, 22, 23] rfl rfl rfl (by decide) rfl rfl rfl (fun H locs hP hD hS => ?_)
  refine lv_aload_n hx hb dL_law_573 rfl (lv_at hl 1 rfl) ?_
  refine lv_aload_n hx hb dL_law_574 rfl (lv_at hl 3 rfl) ?_
  refine lv_iload_n hx hb dL_law_575 rfl (lv_at hl 0 rfl) ?_
  refine lv_iconst (v := (1 : Int32)) hx hb dL_law_576 (by decide) ?_
  refine lv_iadd hx hb dL_law_577 ?_
  refine va_sld hx hb hX hbl hbA hS (ixB_in (by decide +kernel)) dL_law_578 ?_
  refine W.eq (g2 := F0 m 579 ls [.int (xs 1), .ref k0, .int r]) rfl ?_
  refine lv_aload_n hx hb dL_law_579 rfl (lv_at hl 3 rfl) ?_
  refine lv_iload_n hx hb dL_law_580 rfl (lv_at hl 0 rfl) ?_
  refine lv_iconst (v := (2 : Int32)) hx hb dL_law_581 (by decide) ?_
  refine lv_iadd hx hb dL_law_582 ?_
  refine va_sld hx hb hX hbl hbA hS (ixB_in (by decide +kernel)) dL_law_583 ?_
  refine W.eq (g2 := F0 m 584 ls [.int (xs 2), .int (xs 1), .ref k0, .int r]) rfl ?_
  refine lv_aload_n hx hb dL_law_584 rfl (lv_at hl 3 rfl) ?_
  refine lv_iload_n hx hb dL_law_585 rfl (lv_at hl 0 rfl) ?_
  refine lv_iconst (v := (3 : Int32)) hx hb dL_law_586 (by decide) ?_
  refine lv_iadd hx hb dL_law_587 ?_
  refine va_sld hx hb hX hbl hbA hS (ixB_in (by decide +kernel)) dL_law_588 ?_
  refine W.eq (g2 := F0 m 589 ls [.int (xs 3), .int (xs 2), .int (xs 1), .ref k0, .int r]) rfl ?_
  refine gcI (ws' := []) (va_runV (As := [.int (xs 1), .int (xs 2), .int (xs 3)]) (rest := [.int r]) ⟨hx, hb, hml, hown, htsL⟩ (c_X12_bowl (l := l) (D := D) (G := G) (sz := H.size) (a_p0 := k0) (a_p0_st := k1) (a_p0_isKept := k2) (a_p0_brings := k3) (a_p0_need := k4) (a_p0_draft := k5) (a_p0_dStir := k6) (a_p0_dNeed := k7) (a_p0_tape := k8) (a_p0_places := k9) (a_p0_stirred := k10) (a_p0_ways := k11) (a_p0_waysThen := k12) (a_p0_stays := k13) (a_p0_fewest := k14) (a_p0_bowls := k15) (a_p0_has := k16) (a_p0_goesOn := k17) (a_p0_isThere := k18) (a_p0_isThereThen := k19) (a_p0_bestRow := k20) (a_p0_lanes := k21) (a_p0_sizes := k22) (a_p0_cells := k23) (i_p0_seats := u_X12_init215_0) (i_p0_stirs := u_X12_init215_1) (i_p0_dSeats := u_X12_init211_0) (i_p0_dStirs := u_X12_init211_1) (i_p0_told := u_X12_init211_2) (i_p0_highest := u_X12_init211_3) (i_p0_taped := (0 : Int32)) (i_p0_pos := (0 : Int32)) (i_p0_from := (0 : Int32)) (i_p0_sort := (0 : Int32)) (i_p0_value := (0 : Int32)) (i_p0_fault := (0 : Int32)) (i_p0_wrongAt := (0 : Int32)) (i_p0_torn := (0 : Int32)) (x1 := (xs 1)) (x2 := (xs 2)) (x3 := (xs 3)) (r := r) (hf := hck)) (cwV 3 htsL gL_law_X12_bowl rfl rfl rfl (by decide +kernel) ⟨(Nat.le_of_ble_eq_true rfl), (Nat.le_of_ble_eq_true rfl)⟩) (preG_V (ci := 12) (hP.sub [0] rfl) (hD.sub [0] rfl rfl) hK rfl rfl) rfl rfl hl.1 rfl (lv_room (Nat.le_of_ble_eq_true rfl)) dL_law_589 ⟨(Nat.le_of_ble_eq_true rfl), (Nat.le_of_ble_eq_true rfl)⟩) hP hD hS hA [0] [] [] rfl rfl rfl (by decide) rfl rfl rfl (fun H locs hP hD hS => ?_)
  refine lv_icmp_eq (tgt := 1309) hx hb dL_law_592 (by decide) (fun _ => ?_) (fun cc => absurd rfl cc)
  exact law_end C0 hAf hS ls hl
set_option maxHeartbeats 8000000 in
set_option maxRecDepth 100000 in
theorem lc_13 {p : Program} {l : Launch} {e : Env} {s : State} {m : MethodId} {below : List Frame} {meth : Method} {c : Code} {b : Nat} {xs : Nat → Int32} {A : Nat → Prop} {D : va_G} {G : Nat → ClassId} {H : Heap} {locs : List Loc} {y0 y1 y2 y3 y4 y5 y6 y7 y8 y9 y10 y11 y12 y13 y14 y15 y16 y17 y18 y19 y20 y21 y22 y23 y24 y25 y26 y27 y28 y29 y30 y31 y32 y33 y34 y35 y36 y37 y38 y39 y40 y41 y42 y43 y44 y45 y46 y47 y48 y49 y50 y51 y52 y53 y54 y55 y56 y57 y58 y59 y60 y61 y62 y63 y64 y65 y66 y67 y68 y69 y70 y71 y72 k0 k1 k2 k3 k4 k5 k6 k7 k8 k9 k10 k11 k12 k13 k14 k15 k16 k17 k18 k19 k20 k21 k22 k23 : Nat} (C0 : lw_At p s m meth c b 5 xs) (hA : ∀ q, s.heap.size ≤ q → A q) (hAf : ∀ q, A q → s.heap.size ≤ q) (hK : va_K D vwCl (tyG G) s) (hP : va_P D vwCl (wF G y0 y1 y2 y3 y4 y5 y6 y7 y8 y9 y10 y11 y12 y13 y14 y15 y16 y17 y18 y19 y20 y21 y22 y23 y24 y25 y26 y27 y28 y29 y30 y31 y32 y33 y34 y35 y36 y37 y38 y39 y40 y41 y42 y43 y44 y45 y46 y47 y48 y49 y50 y51 y52 y53 y54 y55 y56 y57 y58 y59 y60 y61 y62 y63 y64 y65 y66 y67 y68 y69 y70 y71 y72 k0 k1 k2 k3 k4 k5 k6 k7 k8 k9 k10 k11 k12 k13 k14 k15 k16 k17 k18 k19 k20 k21 k22 k23) H) (hD : va_D A (wF G y0 y1 y2 y3 y4 y5 y6 y7 y8 y9 y10 y11 y12 y13 y14 y15 y16 y17 y18 y19 y20 y21 y22 y23 y24 y25 y26 y27 y28 y29 y30 y31 y32 y33 y34 y35 y36 y37 y38 y39 y40 y41 y42 y43 y44 y45 y46 y47 y48 y49 y50 y51 y52 y53 y54 y55 y56 y57 y58 y59 y60 y61 y62 y63 y64 y65 y66 y67 y68 y69 y70 y71 y72 k0 k1 k2 k3 k4 k5 k6 k7 k8 k9 k10 k11 k12 k13 k14 k15 k16 k17 k18 k19 k20 k21 k22 k23)) (hS : va_S A s.heap H locs) (ls : Array Slot) (hl : lv_has ls 4 [(3, .int (0 : Int32)), (2, .ref k0), (1, .ref y0), (0, .ref b)]) : W p l e room_1 s m #[Value.ref b] below meth c H locs 600000 7302250 (lw_Z below #[Value.ref b] s) (F0 m 597 ls []) := by
  obtain ⟨hx, hb, hr, hml, hown, hts, hX, hbl, hlocks, hgv⟩ := id C0
  have hbA : ¬ A b := fun h => absurd (hAf b h) (Nat.not_le.mpr hbl)
  have hown : s.vm.findClass RL = some m.cls := hown
  have htsL : ∀ w ∈ wsL_law, w.before #[Value.ref b] s = true := fun w h => hts w (wsL_law_in w h)
  refine lv_aload_n hx hb dL_law_597 rfl (lv_at hl 2 rfl) ?_
  refine lv_aload_n hx hb dL_law_598 rfl (lv_at hl 3 rfl) ?_
  refine lv_iload_n hx hb dL_law_599 rfl (lv_at hl 0 rfl) ?_
  refine lv_iconst (v := (1 : Int32)) hx hb dL_law_600 (by decide) ?_
  refine lv_iadd hx hb dL_law_601 ?_
  refine va_sld hx hb hX hbl hbA hS (ixB_in (by decide +kernel)) dL_law_602 ?_
  refine W.eq (g2 := F0 m 603 ls [.int (xs 1), .ref y0]) rfl ?_
  refine lv_aload_n hx hb dL_law_603 rfl (lv_at hl 3 rfl) ?_
  refine lv_iload_n hx hb dL_law_604 rfl (lv_at hl 0 rfl) ?_
  refine lv_iconst (v := (2 : Int32)) hx hb dL_law_605 (by decide) ?_
  refine lv_iadd hx hb dL_law_606 ?_
  refine va_sld hx hb hX hbl hbA hS (ixB_in (by decide +kernel)) dL_law_607 ?_
  refine W.eq (g2 := F0 m 608 ls [.int (xs 2), .int (xs 1), .ref y0]) rfl ?_
  refine lv_aload_n hx hb dL_law_608 rfl (lv_at hl 3 rfl) ?_
  refine lv_iload_n hx hb dL_law_609 rfl (lv_at hl 0 rfl) ?_
  refine lv_iconst (v := (3 : Int32)) hx hb dL_law_610 (by decide) ?_
  refine lv_iadd hx hb dL_law_611 ?_
  refine va_sld hx hb hX hbl hbA hS (ixB_in (by decide +kernel)) dL_law_612 ?_
  refine W.eq (g2 := F0 m 613 ls [.int (xs 3), .int (xs 2), .int (xs 1), .ref y0]) rfl ?_
  obtain ⟨r, hcx, hck⟩ := z_ladle (xs 1) (xs 2) (xs 3)
  refine gcI (ws' := (wK G k0 k1 k2 k3 k4 k5 k6 k7 k8 k9 k10 k11 k12 k13 k14 k15 k16 k17 k18 k19 k20 k21 k22 k23)) (va_runV (As := [.int (xs 1), .int (xs 2), .int (xs 3)]) (rest := []) ⟨hx, hb, hml, hown, htsL⟩ (c_X11_ladle (l := l) (D := D) (G := G) (sz := H.size) (a_p0 := y0) (a_p0_rules := y1) (a_p0_state := y7) (a_p0_tape := y13) (a_p0_reader := y15) (a_p0_kitchen := y29) (a_p0_luck := y33) (a_p0_plans := y37) (a_p0_coups := y40) (a_p0_past := y41) (a_p0_fairDays := y43) (a_p0_images := y50) (a_p0_imageHeld := y51) (a_p0_sheets := y52) (a_p0_rules_need := y2) (a_p0_rules_kind := y3) (a_p0_rules_first := y4) (a_p0_rules_second := y5) (a_p0_rules_after := y6) (i_p0_latestFault := (0 : Int32)) (i_p0_latestTear := (0 : Int32)) (i_p0_rules_seats := (4 : Int32)) (i_p0_rules_stirs := (0 : Int32)) (x1 := (xs 1)) (x2 := (xs 2)) (x3 := (xs 3)) (r := r) (hf := hcx)) (cwV 3 htsL gL_law_X11_ladle rfl rfl rfl (by decide +kernel) ⟨(Nat.le_of_ble_eq_true rfl), (Nat.le_of_ble_eq_true rfl)⟩) (preG_V (ci := 11) (hP.sub [0, 1] rfl) (hD.sub [0, 1] rfl rfl) hK rfl rfl) rfl rfl hl.1 rfl (lv_room (Nat.le_of_ble_eq_true rfl)) dL_law_613 ⟨(Nat.le_of_ble_eq_true rfl), (Nat.le_of_ble_eq_true rfl)⟩) hP hD hS hA [0, 1] [73, 74, 75, 76, 77, 78, 79, 80, 81, 82, 83, 84, 85, 86, 87, 88, 89, 90, 91, 92, 93, 94, 95, 96] [0, 1, 2, 3, 4, 5, 6, 7, 8, 9, 10, 11, 12, 13, 14, 15, 16, 17, 18, 19, 20, 21, 22, 23] rfl rfl rfl (by decide) rfl rfl rfl (fun H locs hP hD hS => ?_)
  refine lv_aload_n hx hb dL_law_616 rfl (lv_at hl 1 rfl) ?_
  refine lv_aload_n hx hb dL_law_617 rfl (lv_at hl 3 rfl) ?_
  refine lv_iload_n hx hb dL_law_618 rfl (lv_at hl 0 rfl) ?_
  refine lv_iconst (v := (1 : Int32)) hx hb dL_law_619 (by decide) ?_
  refine lv_iadd hx hb dL_law_620 ?_
  refine va_sld hx hb hX hbl hbA hS (ixB_in (by decide +kernel)) dL_law_621 ?_
  refine W.eq (g2 := F0 m 622 ls [.int (xs 1), .ref k0, .int r]) rfl ?_
  refine lv_aload_n hx hb dL_law_622 rfl (lv_at hl 3 rfl) ?_
  refine lv_iload_n hx hb dL_law_623 rfl (lv_at hl 0 rfl) ?_
  refine lv_iconst (v := (2 : Int32)) hx hb dL_law_624 (by decide) ?_
  refine lv_iadd hx hb dL_law_625 ?_
  refine va_sld hx hb hX hbl hbA hS (ixB_in (by decide +kernel)) dL_law_626 ?_
  refine W.eq (g2 := F0 m 627 ls [.int (xs 2), .int (xs 1), .ref k0, .int r]) rfl ?_
  refine lv_aload_n hx hb dL_law_627 rfl (lv_at hl 3 rfl) ?_
  refine lv_iload_n hx hb dL_law_628 rfl (lv_at hl 0 rfl) ?_
  refine lv_iconst (v := (3 : Int32)) hx hb dL_law_629 (by decide) ?_
  refine lv_iadd hx hb dL_law_630 ?_
  refine va_sld hx hb hX hbl hbA hS (ixB_in (by decide +kernel)) dL_law_631 ?_
  refine W.eq (g2 := F0 m 632 ls [.int (xs 3), .int (xs 2), .int (xs 1), .ref k0, .int r]) rfl ?_
  refine gcI (ws' := []) (va_runV (As := [.int (xs 1), .int (xs 2), .int (xs 3)]) (rest := [.int r]) ⟨hx, hb, hml, hown, htsL⟩ (c_X12_ladle (l := l) (D := D) (G := G) (sz := H.size) (a_p0 := k0) (a_p0_st := k1) (a_p0_isKept := k2) (a_p0_brings := k3) (a_p0_need := k4) (a_p0_draft := k5) (a_p0_dStir := k6) (a_p0_dNeed := k7) (a_p0_tape := k8) (a_p0_places := k9) (a_p0_stirred := k10) (a_p0_ways := k11) (a_p0_waysThen := k12) (a_p0_stays := k13) (a_p0_fewest := k14) (a_p0_bowls := k15) (a_p0_has := k16) (a_p0_goesOn := k17) (a_p0_isThere := k18) (a_p0_isThereThen := k19) (a_p0_bestRow := k20) (a_p0_lanes := k21) (a_p0_sizes := k22) (a_p0_cells := k23) (i_p0_seats := u_X12_init215_0) (i_p0_stirs := u_X12_init215_1) (i_p0_dSeats := u_X12_init211_0) (i_p0_dStirs := u_X12_init211_1) (i_p0_told := u_X12_init211_2) (i_p0_highest := u_X12_init211_3) (i_p0_taped := (0 : Int32)) (i_p0_pos := (0 : Int32)) (i_p0_from := (0 : Int32)) (i_p0_sort := (0 : Int32)) (i_p0_value := (0 : Int32)) (i_p0_fault := (0 : Int32)) (i_p0_wrongAt := (0 : Int32)) (i_p0_torn := (0 : Int32)) (x1 := (xs 1)) (x2 := (xs 2)) (x3 := (xs 3)) (r := r) (hf := hck)) (cwV 3 htsL gL_law_X12_ladle rfl rfl rfl (by decide +kernel) ⟨(Nat.le_of_ble_eq_true rfl), (Nat.le_of_ble_eq_true rfl)⟩) (preG_V (ci := 12) (hP.sub [0] rfl) (hD.sub [0] rfl rfl) hK rfl rfl) rfl rfl hl.1 rfl (lv_room (Nat.le_of_ble_eq_true rfl)) dL_law_632 ⟨(Nat.le_of_ble_eq_true rfl), (Nat.le_of_ble_eq_true rfl)⟩) hP hD hS hA [0] [] [] rfl rfl rfl (by decide) rfl rfl rfl (fun H locs hP hD hS => ?_)
  refine lv_icmp_eq (tgt := 1309) hx hb dL_law_635 (by decide) (fun _ => ?_) (fun cc => absurd rfl cc)
  exact law_end C0 hAf hS ls hl
set_option maxHeartbeats 8000000 in
set_option maxRecDepth 100000 in
theorem lc_14 {p : Program} {l : Launch} {e : Env} {s : State} {m : MethodId} {below : List Frame} {meth : Method} {c : Code} {b : Nat} {xs : Nat → Int32} {A : Nat → Prop} {D : va_G} {G : Nat → ClassId} {H : Heap} {locs : List Loc} {y0 y1 y2 y3 y4 y5 y6 y7 y8 y9 y10 y11 y12 y13 y14 y15 y16 y17 y18 y19 y20 y21 y22 y23 y24 y25 y26 y27 y28 y29 y30 y31 y32 y33 y34 y35 y36 y37 y38 y39 y40 y41 y42 y43 y44 y45 y46 y47 y48 y49 y50 y51 y52 y53 y54 y55 y56 y57 y58 y59 y60 y61 y62 y63 y64 y65 y66 y67 y68 y69 y70 y71 y72 k0 k1 k2 k3 k4 k5 k6 k7 k8 k9 k10 k11 k12 k13 k14 k15 k16 k17 k18 k19 k20 k21 k22 k23 : Nat} (C0 : lw_At p s m meth c b 5 xs) (hA : ∀ q, s.heap.size ≤ q → A q) (hAf : ∀ q, A q → s.heap.size ≤ q) (hK : va_K D vwCl (tyG G) s) (hP : va_P D vwCl (wF G y0 y1 y2 y3 y4 y5 y6 y7 y8 y9 y10 y11 y12 y13 y14 y15 y16 y17 y18 y19 y20 y21 y22 y23 y24 y25 y26 y27 y28 y29 y30 y31 y32 y33 y34 y35 y36 y37 y38 y39 y40 y41 y42 y43 y44 y45 y46 y47 y48 y49 y50 y51 y52 y53 y54 y55 y56 y57 y58 y59 y60 y61 y62 y63 y64 y65 y66 y67 y68 y69 y70 y71 y72 k0 k1 k2 k3 k4 k5 k6 k7 k8 k9 k10 k11 k12 k13 k14 k15 k16 k17 k18 k19 k20 k21 k22 k23) H) (hD : va_D A (wF G y0 y1 y2 y3 y4 y5 y6 y7 y8 y9 y10 y11 y12 y13 y14 y15 y16 y17 y18 y19 y20 y21 y22 y23 y24 y25 y26 y27 y28 y29 y30 y31 y32 y33 y34 y35 y36 y37 y38 y39 y40 y41 y42 y43 y44 y45 y46 y47 y48 y49 y50 y51 y52 y53 y54 y55 y56 y57 y58 y59 y60 y61 y62 y63 y64 y65 y66 y67 y68 y69 y70 y71 y72 k0 k1 k2 k3 k4 k5 k6 k7 k8 k9 k10 k11 k12 k13 k14 k15 k16 k17 k18 k19 k20 k21 k22 k23)) (hS : va_S A s.heap H locs) (ls : Array Slot) (hl : lv_has ls 4 [(3, .int (0 : Int32)), (2, .ref k0), (1, .ref y0), (0, .ref b)]) : W p l e room_1 s m #[Value.ref b] below meth c H locs 600000 7302250 (lw_Z below #[Value.ref b] s) (F0 m 640 ls []) := by
  obtain ⟨hx, hb, hr, hml, hown, hts, hX, hbl, hlocks, hgv⟩ := id C0
  have hbA : ¬ A b := fun h => absurd (hAf b h) (Nat.not_le.mpr hbl)
  have hown : s.vm.findClass RL = some m.cls := hown
  have htsL : ∀ w ∈ wsL_law, w.before #[Value.ref b] s = true := fun w h => hts w (wsL_law_in w h)
  refine lv_aload_n hx hb dL_law_640 rfl (lv_at hl 2 rfl) ?_
  refine lv_aload_n hx hb dL_law_641 rfl (lv_at hl 3 rfl) ?_
  refine lv_iload_n hx hb dL_law_642 rfl (lv_at hl 0 rfl) ?_
  refine lv_iconst (v := (1 : Int32)) hx hb dL_law_643 (by decide) ?_
  refine lv_iadd hx hb dL_law_644 ?_
  refine va_sld hx hb hX hbl hbA hS (ixB_in (by decide +kernel)) dL_law_645 ?_
  refine W.eq (g2 := F0 m 646 ls [.int (xs 1), .ref y0]) rfl ?_
  refine lv_aload_n hx hb dL_law_646 rfl (lv_at hl 3 rfl) ?_
  refine lv_iload_n hx hb dL_law_647 rfl (lv_at hl 0 rfl) ?_
  refine lv_iconst (v := (2 : Int32)) hx hb dL_law_648 (by decide) ?_
  refine lv_iadd hx hb dL_law_649 ?_
  refine va_sld hx hb hX hbl hbA hS (ixB_in (by decide +kernel)) dL_law_650 ?_
  refine W.eq (g2 := F0 m 651 ls [.int (xs 2), .int (xs 1), .ref y0]) rfl ?_
  obtain ⟨r, hcx, hck⟩ := z_next (xs 1) (xs 2)
  refine gcI (ws' := (wK G k0 k1 k2 k3 k4 k5 k6 k7 k8 k9 k10 k11 k12 k13 k14 k15 k16 k17 k18 k19 k20 k21 k22 k23)) (va_runV (As := [.int (xs 1), .int (xs 2)]) (rest := []) ⟨hx, hb, hml, hown, htsL⟩ (c_X11_next (l := l) (D := D) (G := G) (sz := H.size) (a_p0 := y0) (a_p0_rules := y1) (a_p0_state := y7) (a_p0_tape := y13) (a_p0_reader := y15) (a_p0_kitchen := y29) (a_p0_luck := y33) (a_p0_plans := y37) (a_p0_coups := y40) (a_p0_past := y41) (a_p0_fairDays := y43) (a_p0_images := y50) (a_p0_imageHeld := y51) (a_p0_sheets := y52) (a_p0_rules_need := y2) (a_p0_rules_kind := y3) (a_p0_rules_first := y4) (a_p0_rules_second := y5) (a_p0_rules_after := y6) (i_p0_latestFault := (0 : Int32)) (i_p0_latestTear := (0 : Int32)) (i_p0_rules_seats := (4 : Int32)) (i_p0_rules_stirs := (0 : Int32)) (x1 := (xs 1)) (x2 := (xs 2)) (r := r) (hf := hcx)) (cwV 2 htsL gL_law_X11_next rfl rfl rfl (by decide +kernel) ⟨(Nat.le_of_ble_eq_true rfl), (Nat.le_of_ble_eq_true rfl)⟩) (preG_V (ci := 11) (hP.sub [0, 1] rfl) (hD.sub [0, 1] rfl rfl) hK rfl rfl) rfl rfl hl.1 rfl (lv_room (Nat.le_of_ble_eq_true rfl)) dL_law_651 ⟨(Nat.le_of_ble_eq_true rfl), (Nat.le_of_ble_eq_true rfl)⟩) hP hD hS hA [0, 1] [73, 74, 75, 76, 77, 78, 79, 80, 81, 82, 83, 84, 85, 86, 87, 88, 89, 90, 91, 92, 93, 94, 95, 96] [0, 1, 2, 3, 4, 5, 6, 7, 8, 9, 10, 11, 12, 13, 14, 15, 16, 17, 18, 19, 20, 21, 22, 23] rfl rfl rfl (by decide) rfl rfl rfl (fun H locs hP hD hS => ?_)
  refine lv_aload_n hx hb dL_law_654 rfl (lv_at hl 1 rfl) ?_
  refine lv_aload_n hx hb dL_law_655 rfl (lv_at hl 3 rfl) ?_
  refine lv_iload_n hx hb dL_law_656 rfl (lv_at hl 0 rfl) ?_
  refine lv_iconst (v := (1 : Int32)) hx hb dL_law_657 (by decide) ?_
  refine lv_iadd hx hb dL_law_658 ?_
  refine va_sld hx hb hX hbl hbA hS (ixB_in (by decide +kernel)) dL_law_659 ?_
  refine W.eq (g2 := F0 m 660 ls [.int (xs 1), .ref k0, .int r]) rfl ?_
  refine lv_aload_n hx hb dL_law_660 rfl (lv_at hl 3 rfl) ?_
  refine lv_iload_n hx hb dL_law_661 rfl (lv_at hl 0 rfl) ?_
  refine lv_iconst (v := (2 : Int32)) hx hb dL_law_662 (by decide) ?_
  refine lv_iadd hx hb dL_law_663 ?_
  refine va_sld hx hb hX hbl hbA hS (ixB_in (by decide +kernel)) dL_law_664 ?_
  refine W.eq (g2 := F0 m 665 ls [.int (xs 2), .int (xs 1), .ref k0, .int r]) rfl ?_
  refine gcI (ws' := []) (va_runV (As := [.int (xs 1), .int (xs 2)]) (rest := [.int r]) ⟨hx, hb, hml, hown, htsL⟩ (c_X12_next (l := l) (D := D) (G := G) (sz := H.size) (a_p0 := k0) (a_p0_st := k1) (a_p0_isKept := k2) (a_p0_brings := k3) (a_p0_need := k4) (a_p0_draft := k5) (a_p0_dStir := k6) (a_p0_dNeed := k7) (a_p0_tape := k8) (a_p0_places := k9) (a_p0_stirred := k10) (a_p0_ways := k11) (a_p0_waysThen := k12) (a_p0_stays := k13) (a_p0_fewest := k14) (a_p0_bowls := k15) (a_p0_has := k16) (a_p0_goesOn := k17) (a_p0_isThere := k18) (a_p0_isThereThen := k19) (a_p0_bestRow := k20) (a_p0_lanes := k21) (a_p0_sizes := k22) (a_p0_cells := k23) (i_p0_seats := u_X12_init215_0) (i_p0_stirs := u_X12_init215_1) (i_p0_dSeats := u_X12_init211_0) (i_p0_dStirs := u_X12_init211_1) (i_p0_told := u_X12_init211_2) (i_p0_highest := u_X12_init211_3) (i_p0_taped := (0 : Int32)) (i_p0_pos := (0 : Int32)) (i_p0_from := (0 : Int32)) (i_p0_sort := (0 : Int32)) (i_p0_value := (0 : Int32)) (i_p0_fault := (0 : Int32)) (i_p0_wrongAt := (0 : Int32)) (i_p0_torn := (0 : Int32)) (v_p0_st := u_X12_init215_2) (x1 := (xs 1)) (x2 := (xs 2)) (r := r) (hf := hck)) (cwV 2 htsL gL_law_X12_next rfl rfl rfl (by decide +kernel) ⟨(Nat.le_of_ble_eq_true rfl), (Nat.le_of_ble_eq_true rfl)⟩) (preG_V (ci := 12) (hP.sub [0, 1] rfl) (hD.sub [0, 1] rfl rfl) hK rfl rfl) rfl rfl hl.1 rfl (lv_room (Nat.le_of_ble_eq_true rfl)) dL_law_665 ⟨(Nat.le_of_ble_eq_true rfl), (Nat.le_of_ble_eq_true rfl)⟩) hP hD hS hA [0, 1] [] [] rfl rfl rfl (by decide) rfl rfl rfl (fun H locs hP hD hS => ?_)
  refine lv_icmp_eq (tgt := 1309) hx hb dL_law_668 (by decide) (fun _ => ?_) (fun cc => absurd rfl cc)
  exact law_end C0 hAf hS ls hl
set_option maxHeartbeats 8000000 in
set_option maxRecDepth 100000 in
theorem lc_15 {p : Program} {l : Launch} {e : Env} {s : State} {m : MethodId} {below : List Frame} {meth : Method} {c : Code} {b : Nat} {xs : Nat → Int32} {A : Nat → Prop} {D : va_G} {G : Nat → ClassId} {H : Heap} {locs : List Loc} {y0 y1 y2 y3 y4 y5 y6 y7 y8 y9 y10 y11 y12 y13 y14 y15 y16 y17 y18 y19 y20 y21 y22 y23 y24 y25 y26 y27 y28 y29 y30 y31 y32 y33 y34 y35 y36 y37 y38 y39 y40 y41 y42 y43 y44 y45 y46 y47 y48 y49 y50 y51 y52 y53 y54 y55 y56 y57 y58 y59 y60 y61 y62 y63 y64 y65 y66 y67 y68 y69 y70 y71 y72 k0 k1 k2 k3 k4 k5 k6 k7 k8 k9 k10 k11 k12 k13 k14 k15 k16 k17 k18 k19 k20 k21 k22 k23 : Nat} (C0 : lw_At p s m meth c b 5 xs) (hA : ∀ q, s.heap.size ≤ q → A q) (hAf : ∀ q, A q → s.heap.size ≤ q) (hK : va_K D vwCl (tyG G) s) (hP : va_P D vwCl (wF G y0 y1 y2 y3 y4 y5 y6 y7 y8 y9 y10 y11 y12 y13 y14 y15 y16 y17 y18 y19 y20 y21 y22 y23 y24 y25 y26 y27 y28 y29 y30 y31 y32 y33 y34 y35 y36 y37 y38 y39 y40 y41 y42 y43 y44 y45 y46 y47 y48 y49 y50 y51 y52 y53 y54 y55 y56 y57 y58 y59 y60 y61 y62 y63 y64 y65 y66 y67 y68 y69 y70 y71 y72 k0 k1 k2 k3 k4 k5 k6 k7 k8 k9 k10 k11 k12 k13 k14 k15 k16 k17 k18 k19 k20 k21 k22 k23) H) (hD : va_D A (wF G y0 y1 y2 y3 y4 y5 y6 y7 y8 y9 y10 y11 y12 y13 y14 y15 y16 y17 y18 y19 y20 y21 y22 y23 y24 y25 y26 y27 y28 y29 y30 y31 y32 y33 y34 y35 y36 y37 y38 y39 y40 y41 y42 y43 y44 y45 y46 y47 y48 y49 y50 y51 y52 y53 y54 y55 y56 y57 y58 y59 y60 y61 y62 y63 y64 y65 y66 y67 y68 y69 y70 y71 y72 k0 k1 k2 k3 k4 k5 k6 k7 k8 k9 k10 k11 k12 k13 k14 k15 k16 k17 k18 k19 k20 k21 k22 k23)) (hS : va_S A s.heap H locs) (ls : Array Slot) (hl : lv_has ls 4 [(3, .int (0 : Int32)), (2, .ref k0), (1, .ref y0), (0, .ref b)]) : W p l e room_1 s m #[Value.ref b] below meth c H locs 600000 7302250 (lw_Z below #[Value.ref b] s) (F0 m 673 ls []) := by
  obtain ⟨hx, hb, hr, hml, hown, hts, hX, hbl, hlocks, hgv⟩ := id C0
  have hbA : ¬ A b := fun h => absurd (hAf b h) (Nat.not_le.mpr hbl)
  have hown : s.vm.findClass RL = some m.cls := hown
  have htsL : ∀ w ∈ wsL_law, w.before #[Value.ref b] s = true := fun w h => hts w (wsL_law_in w h)
  refine lv_aload_n hx hb dL_law_673 rfl (lv_at hl 2 rfl) ?_
  refine lv_aload_n hx hb dL_law_674 rfl (lv_at hl 3 rfl) ?_
  refine lv_iload_n hx hb dL_law_675 rfl (lv_at hl 0 rfl) ?_
  refine lv_iconst (v := (1 : Int32)) hx hb dL_law_676 (by decide) ?_
  refine lv_iadd hx hb dL_law_677 ?_
  refine va_sld hx hb hX hbl hbA hS (ixB_in (by decide +kernel)) dL_law_678 ?_
  refine W.eq (g2 := F0 m 679 ls [.int (xs 1), .ref y0]) rfl ?_
  obtain ⟨r, hcx, hck⟩ := z_day (xs 1)
  refine gcI (ws' := (wK G k0 k1 k2 k3 k4 k5 k6 k7 k8 k9 k10 k11 k12 k13 k14 k15 k16 k17 k18 k19 k20 k21 k22 k23)) (va_runV (As := [.int (xs 1)]) (rest := []) ⟨hx, hb, hml, hown, htsL⟩ (c_X11_day (l := l) (D := D) (G := G) (sz := H.size) (a_p0 := y0) (a_p0_rules := y1) (a_p0_state := y7) (a_p0_tape := y13) (a_p0_reader := y15) (a_p0_kitchen := y29) (a_p0_luck := y33) (a_p0_plans := y37) (a_p0_coups := y40) (a_p0_past := y41) (a_p0_fairDays := y43) (a_p0_images := y50) (a_p0_imageHeld := y51) (a_p0_sheets := y52) (a_p0_rules_need := y2) (a_p0_rules_kind := y3) (a_p0_rules_first := y4) (a_p0_rules_second := y5) (a_p0_rules_after := y6) (a_p0_state_pieces := y8) (a_p0_state_friends := y9) (a_p0_state_spoons := y10) (a_p0_state_eaten := y11) (a_p0_state_seen := y12) (i_p0_latestFault := (0 : Int32)) (i_p0_latestTear := (0 : Int32)) (i_p0_rules_seats := (4 : Int32)) (i_p0_rules_stirs := (0 : Int32)) (i_p0_state_seenDays := (0 : Int32)) (i_p0_state_bone := (0 : Int32)) (i_p0_state_king := (0 : Int32)) (i_p0_state_days := (0 : Int32)) (x1 := (xs 1)) (r := r) (hf := hcx)) (cwV 1 htsL gL_law_X11_day rfl rfl rfl (by decide +kernel) ⟨(Nat.le_of_ble_eq_true rfl), (Nat.le_of_ble_eq_true rfl)⟩) (preG_V (ci := 11) (hP.sub [0, 1, 7] rfl) (hD.sub [0, 1, 7] rfl rfl) hK rfl rfl) rfl rfl hl.1 rfl (lv_room (Nat.le_of_ble_eq_true rfl)) dL_law_679 ⟨(Nat.le_of_ble_eq_true rfl), (Nat.le_of_ble_eq_true rfl)⟩) hP hD hS hA [0, 1, 7] [73, 74, 75, 76, 77, 78, 79, 80, 81, 82, 83, 84, 85, 86, 87, 88, 89, 90, 91, 92, 93, 94, 95, 96] [0, 1, 2, 3, 4, 5, 6, 7, 8, 9, 10, 11, 12, 13, 14, 15, 16, 17, 18, 19, 20, 21, 22, 23] rfl rfl rfl (by decide) rfl rfl rfl (fun H locs hP hD hS => ?_)
  refine lv_aload_n hx hb dL_law_682 rfl (lv_at hl 1 rfl) ?_
  refine lv_aload_n hx hb dL_law_683 rfl (lv_at hl 3 rfl) ?_
  refine lv_iload_n hx hb dL_law_684 rfl (lv_at hl 0 rfl) ?_
  refine lv_iconst (v := (1 : Int32)) hx hb dL_law_685 (by decide) ?_
  refine lv_iadd hx hb dL_law_686 ?_
  refine va_sld hx hb hX hbl hbA hS (ixB_in (by decide +kernel)) dL_law_687 ?_
  refine W.eq (g2 := F0 m 688 ls [.int (xs 1), .ref k0, .int r]) rfl ?_
  refine gcI (ws' := []) (va_runV (As := [.int (xs 1)]) (rest := [.int r]) ⟨hx, hb, hml, hown, htsL⟩ (c_X12_day (l := l) (D := D) (G := G) (sz := H.size) (a_p0 := k0) (a_p0_st := k1) (a_p0_isKept := k2) (a_p0_brings := k3) (a_p0_need := k4) (a_p0_draft := k5) (a_p0_dStir := k6) (a_p0_dNeed := k7) (a_p0_tape := k8) (a_p0_places := k9) (a_p0_stirred := k10) (a_p0_ways := k11) (a_p0_waysThen := k12) (a_p0_stays := k13) (a_p0_fewest := k14) (a_p0_bowls := k15) (a_p0_has := k16) (a_p0_goesOn := k17) (a_p0_isThere := k18) (a_p0_isThereThen := k19) (a_p0_bestRow := k20) (a_p0_lanes := k21) (a_p0_sizes := k22) (a_p0_cells := k23) (i_p0_seats := u_X12_init215_0) (i_p0_stirs := u_X12_init215_1) (i_p0_dSeats := u_X12_init211_0) (i_p0_dStirs := u_X12_init211_1) (i_p0_told := u_X12_init211_2) (i_p0_highest := u_X12_init211_3) (i_p0_taped := (0 : Int32)) (i_p0_pos := (0 : Int32)) (i_p0_from := (0 : Int32)) (i_p0_sort := (0 : Int32)) (i_p0_value := (0 : Int32)) (i_p0_fault := (0 : Int32)) (i_p0_wrongAt := (0 : Int32)) (i_p0_torn := (0 : Int32)) (v_p0_st := u_X12_init215_2) (x1 := (xs 1)) (r := r) (hf := hck)) (cwV 1 htsL gL_law_X12_day rfl rfl rfl (by decide +kernel) ⟨(Nat.le_of_ble_eq_true rfl), (Nat.le_of_ble_eq_true rfl)⟩) (preG_V (ci := 12) (hP.sub [0, 1] rfl) (hD.sub [0, 1] rfl rfl) hK rfl rfl) rfl rfl hl.1 rfl (lv_room (Nat.le_of_ble_eq_true rfl)) dL_law_688 ⟨(Nat.le_of_ble_eq_true rfl), (Nat.le_of_ble_eq_true rfl)⟩) hP hD hS hA [0, 1] [] [] rfl rfl rfl (by decide) rfl rfl rfl (fun H locs hP hD hS => ?_)
  refine lv_icmp_eq (tgt := 1309) hx hb dL_law_691 (by decide) (fun _ => ?_) (fun cc => absurd rfl cc)
  exact law_end C0 hAf hS ls hl
