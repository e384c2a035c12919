set_option maxHeartbeats 8000000 in
set_option maxRecDepth 100000 in
theorem lc_8 {p : Program} {l : Launch} {e : Env} {s : State} {m : MethodId} {below : List Frame} {meth : Method} {c : Code} {b : Nat} {xs : Nat → Int32} {A : Nat → Prop} {D : va_G} {G : Nat → ClassId} {H : Heap} {locs : List Loc} {y0 y1 y2 y3 y4 y5 y6 y7 y8 y9 y10 y11 y12 y13 y14 y15 y16 y17 y18 y19 y20 y21 y22 y23 y24 y25 y26 y27 y28 y29 y30 y31 y32 y33 y34 y35 y36 y37 y38 y39 y40 y41 y42 y43 y44 y45 y46 y47 y48 y49 y50 y51 y52 y53 y54 y55 y56 y57 y58 y59 y60 y61 y62 y63 y64 y65 y66 y67 y68 y69 y70 y71 y72 k0 k1 k2 k3 k4 k5 k6 k7 k8 k9 k10 k11 k12 k13 k14 k15 k16 k17 k18 k19 k20 k21 k22 k23 : Nat} (C0 : lw_At p s m meth c b 5 xs) (hA : ∀ q, s.heap.size ≤ q → A q) (hAf : ∀ q, A q → s.heap.size ≤ q) (hK : va_K D vwCl (tyG G) s) (hP : va_P D vwCl (wF G y0 y1 y2 y3 y4 y5 y6 y7 y8 y9 y10 y11 y12 y13 y14 y15 y16 y17 y18 y19 y20 y21 y22 y23 y24 y25 y26 y27 y28 y29 y30 y31 y32 y33 y34 y35 y36 y37 y38 y39 y40 y41 y42 y43 y44 y45 y46 y47 y48 y49 y50 y51 y52 y53 y54 y55 y56 y57 y58 y59 y60 y61 y62 y63 y64 y65 y66 y67 y68 y69 y70 y71 y72 k0 k1 k2 k3 k4 k5 k6 k7 k8 k9 k10 k11 k12 k13 k14 k15 k16 k17 k18 k19 k20 k21 k22 k23) H) (hD : va_D A (wF G y0 y1 y2 y3 y4 y5 y6 y7 y8 y9 y10 y11 y12 y13 y14 y15 y16 y17 y18 y19 y20 y21 y22 y23 y24 y25 y26 y27 y28 y29 y30 y31 y32 y33 y34 y35 y36 y37 y38 y39 y40 y41 y42 y43 y44 y45 y46 y47 y48 y49 y50 y51 y52 y53 y54 y55 y56 y57 y58 y59 y60 y61 y62 y63 y64 y65 y66 y67 y68 y69 y70 y71 y72 k0 k1 k2 k3 k4 k5 k6 k7 k8 k9 k10 k11 k12 k13 k14 k15 k16 k17 k18 k19 k20 k21 k22 k23)) (hS : va_S A s.heap H locs) (ls : Array Slot) (hl : lv_has ls 4 [(3, .int (0 : Int32)), (2, .ref k0), (1, .ref y0), (0, .ref b)]) : W p l e room_1 s m #[Value.ref b] below meth c H locs 600000 7302250 (lw_Z below #[Value.ref b] s) (F0 m 406 ls []) := by
  obtain ⟨hx, hb, hr, hml, hown, hts, hX, hbl, hlocks, hgv⟩ := id C0
  have hbA : ¬ A b := fun h => absurd (hAf b h) (Nat.not_le.mpr hbl)
  have hown : s.vm.findClass RL = some m.cls := hown
  have htsL : ∀ w ∈ wsL_law, w.before #[Value.ref b] s = true := fun w h => hts w (wsL_law_in w h)
  refine lv_aload_n hx hb dL_law_406 rfl (lv_at hl 2 rfl) ?_
  refine lv_aload_n hx hb dL_law_407 rfl (lv_at hl 3 rfl) ?_
  refine lv_iload_n hx hb dL_law_408 rfl (lv_at hl 0 rfl) ?_
  refine lv_iconst (v := (1 : Int32)) hx hb dL_law_409 (by decide) ?_
  refine lv_iadd hx hb dL_law_410 ?_
  refine va_sld hx hb hX hbl hbA hS (ixB_in (by decide +kernel)) dL_law_411 ?_
  refine W.eq (g2 := F0 m 412 ls [.int (xs 1), .ref y0]) rfl ?_
  refine lv_aload_n hx hb dL_law_412 rfl (lv_at hl 3 rfl) ?_
  refine lv_iload_n hx hb dL_law_413 rfl (lv_at hl 0 rfl) ?_
  refine lv_iconst (v := (2 : Int32)) hx hb dL_law_414 (by decide) ?_
  refine lv_iadd hx hb dL_law_415 ?_
  refine va_sld hx hb hX hbl hbA hS (ixB_in (by decide +kernel)) dL_law_416 ?_
  refine W.eq (g2 := F0 m 417 ls [.int (xs 2), .int (xs 1), .ref y0]) rfl ?_
  refine lv_aload_n hx hb dL_law_417 rfl (lv_at hl 3 rfl) ?_
  refine lv_iload_n hx hb dL_law_418 rfl (lv_at hl 0 rfl) ?_
  refine lv_iconst (v := (3 : Int32)) hx hb dL_law_419 (by decide) ?_
  refine lv_iadd hx hb dL_law_420 ?_
  refine va_sld hx hb hX hbl hbA hS (ixB_in (by decide +kernel)) dL_law_421 ?_
  refine W.eq (g2 := F0 m 422 ls [.int (xs 3), .int (xs 2), .int (xs 1), .ref y0]) rfl ?_
  refine lv_if_eq (tgt := 429) hx hb dL_law_422 (by decide) (fun hbl0 => ?_) (fun hbl0 => ?_)
  ·
    refine lv_iconst (v := (0 : Int32)) hx hb dL_law_429 (by decide) ?_
    obtain ⟨r, xo1, hcx, ko1, hck⟩ := z_befriend (xs 1) (xs 2) (0 : Int32) ⟨0, by decide, rfl⟩
    refine gcI (ws' := (wK G k0 k1 k2 k3 k4 k5 k6 k7 k8 k9 k10 k11 k12 k13 k14 k15 k16 k17 k18 k19 k20 k21 k22 k23)) (va_runV (As := [.int (xs 1), .int (xs 2), .int (0 : Int32)]) (rest := []) ⟨hx, hb, hml, hown, htsL⟩ (c_X11_befriend (l := l) (D := D) (G := G) (sz := H.size) (a_p0 := y0) (a_p0_rules := y1) (a_p0_state := y7) (a_p0_tape := y13) (a_p0_reader := y15) (a_p0_kitchen := y29) (a_p0_luck := y33) (a_p0_plans := y37) (a_p0_coups := y40) (a_p0_past := y41) (a_p0_fairDays := y43) (a_p0_images := y50) (a_p0_imageHeld := y51) (a_p0_sheets := y52) (a_p0_rules_need := y2) (a_p0_rules_kind := y3) (a_p0_rules_first := y4) (a_p0_rules_second := y5) (a_p0_rules_after := y6) (a_p0_state_pieces := y8) (a_p0_state_friends := y9) (a_p0_state_spoons := y10) (a_p0_state_eaten := y11) (a_p0_state_seen := y12) (i_p0_latestFault := (0 : Int32)) (i_p0_latestTear := (0 : Int32)) (i_p0_rules_seats := (4 : Int32)) (i_p0_rules_stirs := (0 : Int32)) (i_p0_state_seenDays := (0 : Int32)) (i_p0_state_bone := (0 : Int32)) (i_p0_state_king := (0 : Int32)) (i_p0_state_days := (0 : Int32)) (v_p0_state_friends := (fun _ => (0 : Int32))) (x1 := (xs 1)) (x2 := (xs 2)) (x3 := (0 : Int32)) (r := r) (o_v_p0_state_friends := xo1) (hf := hcx)) (cwV 3 htsL gL_law_X11_befriend rfl rfl rfl (by decide +kernel) ⟨(Nat.le_of_ble_eq_true rfl), (Nat.le_of_ble_eq_true rfl)⟩) (preG_V (ci := 11) (hP.sub [0, 1, 7, 9] rfl) (hD.sub [0, 1, 7, 9] rfl rfl) hK rfl rfl) rfl rfl hl.1 rfl (lv_room (Nat.le_of_ble_eq_true rfl)) dL_law_430 ⟨(Nat.le_of_ble_eq_true rfl), (Nat.le_of_ble_eq_true rfl)⟩) hP hD hS hA [0, 1, 7, 9] [73, 74, 75, 76, 77, 78, 79, 80, 81, 82, 83, 84, 85, 86, 87, 88, 89, 90, 91, 92, 93, 94, 95, 96] [0, 1, 2, 3, 4, 5, 6, 7, 8, 9, 10, 11, 12, 13, 14, 15, 16, 17, 18, 19, 20, 21, 22, 23] rfl rfl rfl (by decide) rfl rfl rfl (fun H locs hP hD hS => ?_)
    refine lv_aload_n hx hb dL_law_433 rfl (lv_at hl 1 rfl) ?_
    refine lv_aload_n hx hb dL_law_434 rfl (lv_at hl 3 rfl) ?_
    refine lv_iload_n hx hb dL_law_435 rfl (lv_at hl 0 rfl) ?_
    refine lv_iconst (v := (1 : Int32)) hx hb dL_law_436 (by decide) ?_
    refine lv_iadd hx hb dL_law_437 ?_
    refine va_sld hx hb hX hbl hbA hS (ixB_in (by decide +kernel)) dL_law_438 ?_
    refine W.eq (g2 := F0 m 439 ls [.int (xs 1), .ref k0, .int r]) rfl ?_
    refine lv_aload_n hx hb dL_law_439 rfl (lv_at hl 3 rfl) ?_
    refine lv_iload_n hx hb dL_law_440 rfl (lv_at hl 0 rfl) ?_
    refine lv_iconst (v := (2 : Int32)) hx hb dL_law_441 (by decide) ?_
    refine lv_iadd hx hb dL_law_442 ?_
    refine va_sld hx hb hX hbl hbA hS (ixB_in (by decide +kernel)) dL_law_443 ?_
    refine W.eq (g2 := F0 m 444 ls [.int (xs 2), .int (xs 1), .ref k0, .int r]) rfl ?_
    refine lv_aload_n hx hb dL_law_444 rfl (lv_at hl 3 rfl) ?_
    refine lv_iload_n hx hb dL_law_445 rfl (lv_at hl 0 rfl) ?_
    refine lv_iconst (v := (3 : Int32)) hx hb dL_law_446 (by decide) ?_
    refine lv_iadd hx hb dL_law_447 ?_
    refine va_sld hx hb hX hbl hbA hS (ixB_in (by decide +kernel)) dL_law_448 ?_
    refine W.eq (g2 := F0 m 449 ls [.int (xs 3), .int (xs 2), .int (xs 1), .ref k0, .int r]) rfl ?_
    refine lv_if_eq (tgt := 456) hx hb dL_law_449 (by decide) (fun _ => ?_) (fun cc => absurd hbl0 cc)
    refine lv_iconst (v := (0 : Int32)) hx hb dL_law_456 (by decide) ?_
    refine gcI (ws' := []) (va_runV (As := [.int (xs 1), .int (xs 2), .int (0 : Int32)]) (rest := [.int r]) ⟨hx, hb, hml, hown, htsL⟩ (c_X12_befriend (l := l) (D := D) (G := G) (sz := H.size) (a_p0 := k0) (a_p0_st := k1) (a_p0_isKept := k2) (a_p0_brings := k3) (a_p0_need := k4) (a_p0_draft := k5) (a_p0_dStir := k6) (a_p0_dNeed := k7) (a_p0_tape := k8) (a_p0_places := k9) (a_p0_stirred := k10) (a_p0_ways := k11) (a_p0_waysThen := k12) (a_p0_stays := k13) (a_p0_fewest := k14) (a_p0_bowls := k15) (a_p0_has := k16) (a_p0_goesOn := k17) (a_p0_isThere := k18) (a_p0_isThereThen := k19) (a_p0_bestRow := k20) (a_p0_lanes := k21) (a_p0_sizes := k22) (a_p0_cells := k23) (i_p0_seats := u_X12_init215_0) (i_p0_stirs := u_X12_init215_1) (i_p0_dSeats := u_X12_init211_0) (i_p0_dStirs := u_X12_init211_1) (i_p0_told := u_X12_init211_2) (i_p0_highest := u_X12_init211_3) (i_p0_taped := (0 : Int32)) (i_p0_pos := (0 : Int32)) (i_p0_from := (0 : Int32)) (i_p0_sort := (0 : Int32)) (i_p0_value := (0 : Int32)) (i_p0_fault := (0 : Int32)) (i_p0_wrongAt := (0 : Int32)) (i_p0_torn := (0 : Int32)) (v_p0_st := u_X12_init215_2) (x1 := (xs 1)) (x2 := (xs 2)) (x3 := (0 : Int32)) (r := r) (o_v_p0_st := ko1) (hf := hck)) (cwV 3 htsL gL_law_X12_befriend rfl rfl rfl (by decide +kernel) ⟨(Nat.le_of_ble_eq_true rfl), (Nat.le_of_ble_eq_true rfl)⟩) (preG_V (ci := 12) (hP.sub [0, 1] rfl) (hD.sub [0, 1] rfl rfl) hK rfl rfl) rfl rfl hl.1 rfl (lv_room (Nat.le_of_ble_eq_true rfl)) dL_law_457 ⟨(Nat.le_of_ble_eq_true rfl), (Nat.le_of_ble_eq_true rfl)⟩) hP hD hS hA [0, 1] [] [] rfl rfl rfl (by decide) rfl rfl rfl (fun H locs hP hD hS => ?_)
    refine lv_icmp_eq (tgt := 1309) hx hb dL_law_460 (by decide) (fun _ => ?_) (fun cc => absurd rfl cc)
    exact law_end C0 hAf hS ls hl
  ·
    refine lv_iconst (v := (1 : Int32)) hx hb dL_law_425 (by decide) ?_
    refine lv_goto (tgt := 430) hx hb dL_law_426 (by decide) ?_
    obtain ⟨r, xo1, hcx, ko1, hck⟩ := z_befriend (xs 1) (xs 2) (1 : Int32) ⟨1, by decide, rfl⟩
    refine gcI (ws' := (wK G k0 k1 k2 k3 k4 k5 k6 k7 k8 k9 k10 k11 k12 k13 k14 k15 k16 k17 k18 k19 k20 k21 k22 k23)) (va_runV (As := [.int (xs 1), .int (xs 2), .int (1 : Int32)]) (rest := []) ⟨hx, hb, hml, hown, htsL⟩ (c_X11_befriend (l := l) (D := D) (G := G) (sz := H.size) (a_p0 := y0) (a_p0_rules := y1) (a_p0_state := y7) (a_p0_tape := y13) (a_p0_reader := y15) (a_p0_kitchen := y29) (a_p0_luck := y33) (a_p0_plans := y37) (a_p0_coups := y40) (a_p0_past := y41) (a_p0_fairDays := y43) (a_p0_images := y50) (a_p0_imageHeld := y51) (a_p0_sheets := y52) (a_p0_rules_need := y2) (a_p0_rules_kind := y3) (a_p0_rules_first := y4) (a_p0_rules_second := y5) (a_p0_rules_after := y6) (a_p0_state_pieces := y8) (a_p0_state_friends := y9) (a_p0_state_spoons := y10) (a_p0_state_eaten := y11) (a_p0_state_seen := y12) (i_p0_latestFault := (0 : Int32)) (i_p0_latestTear := (0 : Int32)) (i_p0_rules_seats := (4 : Int32)) (i_p0_rules_stirs := (0 : Int32)) (i_p0_state_seenDays := (0 : Int32)) (i_p0_state_bone := (0 : Int32)) (i_p0_state_king := (0 : Int32)) (i_p0_state_days := (0 : Int32)) (v_p0_state_friends := (fun _ => (0 : Int32))) (x1 := (xs 1)) (x2 := (xs 2)) (x3 := (1 : Int32)) (r := r) (o_v_p0_state_friends := xo1) (hf := hcx)) (cwV 3 htsL gL_law_X11_befriend rfl rfl rfl (by decide +kernel) ⟨(Nat.le_of_ble_eq_true rfl), (Nat.le_of_ble_eq_true rfl)⟩) (preG_V (ci := 11) (hP.sub [0, 1, 7, 9] rfl) (hD.sub [0, 1, 7, 9] rfl rfl) hK rfl rfl) rfl rfl hl.1 rfl (lv_room (Nat.le_of_ble_eq_true rfl)) dL_law_430 ⟨(Nat.le_of_ble_eq_true rfl), (Nat.le_of_ble_eq_true rfl)⟩) hP hD hS hA [0, 1, 7, 9] [73, 74, 75, 76, 77, 78, 79, 80, 81, 82, 83, 84, 85, 86, 87, 88, 89, 90, 91, 92, 93, 94, 95, 96] [0, 1, 2, 3, 4, 5, 6, 7, 8, 9, 10, 11, 12, 13, 14, 15, 16, 17, 18, 19, 20, 21, 22, 23] rfl rfl rfl (by decide) rfl rfl rfl (fun H locs hP hD hS => ?_)
    refine lv_aload_n hx hb dL_law_433 rfl (lv_at hl 1 rfl) ?_
    refine lv_aload_n hx hb dL_law_434 rfl (lv_at hl 3 rfl) ?_
    refine lv_iload_n hx hb dL_law_435 rfl (lv_at hl 0 rfl) ?_
    refine lv_iconst (v := (1 : Int32)) hx hb dL_law_436 (by decide) ?_
    refine lv_iadd hx hb dL_law_437 ?_
    refine va_sld hx hb hX hbl hbA hS (ixB_in (by decide +kernel)) dL_law_438 ?_
    refine W.eq (g2 := F0 m 439 ls [.int (xs 1), .ref k0, .int r]) rfl ?_
    refine lv_aload_n hx hb dL_law_439 rfl (lv_at hl 3 rfl) ?_
    refine lv_iload_n hx hb dL_law_440 rfl (lv_at hl 0 rfl) ?_
    refine lv_iconst (v := (2 : Int32)) hx hb dL_law_441 (by decide) ?_
    refine lv_iadd hx hb dL_law_442 ?_
    refine va_sld hx hb hX hbl hbA hS (ixB_in (by decide +kernel)) dL_law_443 ?_
    refine W.eq (g2 := F0 m 444 ls [.int (xs 2), .int (xs 1), .ref k0, .int r]) rfl ?_
    refine lv_aload_n hx hb dL_law_444 rfl (lv_at hl 3 rfl) ?_
    refine lv_iload_n hx hb dL_law_445 rfl (lv_at hl 0 rfl) ?_
    refine lv_iconst (v := (3 : Int32)) hx hb dL_law_446 (by decide) ?_
    refine lv_iadd hx hb dL_law_447 ?_
    refine va_sld hx hb hX hbl hbA hS (ixB_in (by decide +kernel)) dL_law_448 ?_
    refine W.eq (g2 := F0 m 449 ls [.int (xs 3), .int (xs 2), .int (xs 1), .ref k0, .int r]) rfl ?_
    refine lv_if_eq (tgt := 456) hx hb dL_law_449 (by decide) (fun cc => absurd cc hbl0) (fun _ => ?_)
    refine lv_iconst (v := (1 : Int32)) hx hb dL_law_452 (by decide) ?_
    refine lv_goto (tgt := 457) hx hb dL_law_453 (by decide) ?_
    refine gcI (ws' := []) (va_runV (As := [.int (xs 1), .int (xs 2), .int (1 : Int32)]) (rest := [.int r]) ⟨hx, hb, hml, hown, htsL⟩ (c_X12_befriend (l := l) (D := D) (G := G) (sz := H.size) (a_p0 := k0) (a_p0_st := k1) (a_p0_isKept := k2) (a_p0_brings := k3) (a_p0_need := k4) (a_p0_draft := k5) (a_p0_dStir := k6) (a_p0_dNeed := k7) (a_p0_tape := k8) (a_p0_places := k9) (a_p0_stirred := k10) (a_p0_ways := k11) (a_p0_waysThen := k12) (a_p0_stays := k13) (a_p0_fewest := k14) (a_p0_bowls := k15) (a_p0_has := k16) (a_p0_goesOn := k17) (a_p0_isThere := k18) (a_p0_isThereThen := k19) (a_p0_bestRow := k20) (a_p0_lanes := k21) (a_p0_sizes := k22) (a_p0_cells := k23) (i_p0_seats := u_X12_init215_0) (i_p0_stirs := u_X12_init215_1) (i_p0_dSeats := u_X12_init211_0) (i_p0_dStirs := u_X12_init211_1) (i_p0_told := u_X12_init211_2) (i_p0_highest := u_X12_init211_3) (i_p0_taped := (0 : Int32)) (i_p0_pos := (0 : Int32)) (i_p0_from := (0 : Int32)) (i_p0_sort := (0 : Int32)) (i_p0_value := (0 : Int32)) (i_p0_fault := (0 : Int32)) (i_p0_wrongAt := (0 : Int32)) (i_p0_torn := (0 : Int32)) (v_p0_st := u_X12_init215_2) (x1 := (xs 1)) (x2 := (xs 2)) (x3 := (1 : Int32)) (r := r) (o_v_p0_st := ko1) (hf := hck)) (cwV 3 htsL gL_law_X12_befriend rfl rfl rfl (by decide +kernel) ⟨(Nat.le_of_ble_eq_true rfl), (Nat.le_of_ble_eq_true rfl)⟩) (preG_V (ci := 12) (hP.sub [0, 1] rfl) (hD.sub [0, 1] rfl rfl) hK rfl rfl) rfl rfl hl.1 rfl (lv_room (Nat.le_of_ble_eq_true rfl)) dL_law_457 ⟨(Nat.le_of_ble_eq_true rfl), (Nat.le_of_ble_eq_true rfl)⟩) hP hD hS hA [0, 1] [] [] rfl rfl rfl (by decide) rfl rfl rfl (fun H locs hP hD hS => ?_)
    refine lv_icmp_eq (tgt := 1309) hx hb dL_law_460 (by decide) (fun _ => ?_) (fun cc => absurd rfl cc)
    exact law_end C0 hAf hS ls hl
set_option maxHeartbeats 8000000 in
set_option maxRecDepth 100000 in
theorem lc_9 {p : Program} {l : Launch} {e : Env} {s : State} {m : MethodId} {below : List Frame} {meth : Method} {c : Code} {b : Nat} {xs : Nat → Int32} {A : Nat → Prop} {D : va_G} {G : Nat → ClassId} {H : Heap} {locs : List Loc} {y0 y1 y2 y3 y4 y5 y6 y7 y8 y9 y10 y11 y12 y13 y14 y15 y16 y17 y18 y19 y20 y21 y22 y23 y24 y25 y26 y27 y28 y29 y30 y31 y32 y33 y34 y35 y36 y37 y38 y39 y40 y41 y42 y43 y44 y45 y46 y47 y48 y49 y50 y51 y52 y53 y54 y55 y56 y57 y58 y59 y60 y61 y62 y63 y64 y65 y66 y67 y68 y69 y70 y71 y72 k0 k1 k2 k3 k4 k5 k6 k7 k8 k9 k10 k11 k12 k13 k14 k15 k16 k17 k18 k19 k20 k21 k22 k23 : Nat} (C0 : lw_At p s m meth c b 5 xs) (hA : ∀ q, s.heap.size ≤ q → A q) (hAf : ∀ q, A q → s.heap.size ≤ q) (hK : va_K D vwCl (tyG G) s) (hP : va_P D vwCl (wF G y0 y1 y2 y3 y4 y5 y6 y7 y8 y9 y10 y11 y12 y13 y14 y15 y16 y17 y18 y19 y20 y21 y22 y23 y24 y25 y26 y27 y28 y29 y30 y31 y32 y33 y34 y35 y36 y37 y38 y39 y40 y41 y42 y43 y44 y45 y46 y47 y48 y49 y50 y51 y52 y53 y54 y55 y56 y57 y58 y59 y60 y61 y62 y63 y64 y65 y66 y67 y68 y69 y70 y71 y72 k0 k1 k2 k3 k4 k5 k6 k7 k8 k9 k10 k11 k12 k13 k14 k15 k16 k17 k18 k19 k20 k21 k22 k23) H) (hD : va_D A (wF G y0 y1 y2 y3 y4 y5 y6 y7 y8 y9 y10 y11 y12 y13 y14 y15 y16 y17 y18 y19 y20 y21 y22 y23 y24 y25 y26 y27 y28 y29 y30 y31 y32 y33 y34 y35 y36 y37 y38 y39 y40 y41 y42 y43 y44 y45 y46 y47 y48 y49 y50 y51 y52 y53 y54 y55 y56 y57 y58 y59 y60 y61 y62 y63 y64 y65 y66 y67 y68 y69 y70 y71 y72 k0 k1 k2 k3 k4 k5 k6 k7 k8 k9 k10 k11 k12 k13 k14 k15 k16 k17 k18 k19 k20 k21 k22 k23)) (hS : va_S A s.heap H locs) (ls : Array Slot) (hl : lv_has ls 4 [(3, .int (0 : Int32)), (2, .ref k0), (1, .ref y0), (0, .ref b)]) : W p l e room_1 s m #[Value.ref b] below meth c H locs 600000 7302250 (lw_Z below #[Value.ref b] s) (F0 m 465 ls []) := by
  obtain ⟨hx, hb, hr, hml, hown, hts, hX, hbl, hlocks, hgv⟩ := id C0
  have hbA : ¬ A b := fun h => absurd (hAf b h) (Nat.not_le.mpr hbl)
  have hown : s.vm.findClass RL = some m.cls := hown
  have htsL : ∀ w ∈ wsL_law, w.before #[Value.ref b] s = true := fun w h => hts w (wsL_law_in w h)
  refine lv_aload_n hx hb dL_law_465 rfl (lv_at hl 2 rfl) ?_
  refine lv_aload_n hx hb dL_law_466 rfl (lv_at hl 3 rfl) ?_
  refine lv_iload_n hx hb dL_law_467 rfl (lv_at hl 0 rfl) ?_
  refine lv_iconst (v := (1 : Int32)) hx hb dL_law_468 (by decide) ?_
  refine lv_iadd hx hb dL_law_469 ?_
  refine va_sld hx hb hX hbl hbA hS (ixB_in (by decide +kernel)) dL_law_470 ?_
  refine W.eq (g2 := F0 m 471 ls [.int (xs 1), .ref y0]) rfl ?_
  refine lv_aload_n hx hb dL_law_471 rfl (lv_at hl 3 rfl) ?_
  refine lv_iload_n hx hb dL_law_472 rfl (lv_at hl 0 rfl) ?_
  refine lv_iconst (v := (2 : Int32)) hx hb dL_law_473 (by decide) ?_
  refine lv_iadd hx hb dL_law_474 ?_
  refine va_sld hx hb hX hbl hbA hS (ixB_in (by decide +kernel)) dL_law_475 ?_
  refine W.eq (g2 := F0 m 476 ls [.int (xs 2), .int (xs 1), .ref y0]) rfl ?_
  obtain ⟨r, xo1, hcx, ko1, hck⟩ := z_spoon (xs 1) (xs 2)
  refine gcI (ws' := (wK G k0 k1 k2 k3 k4 k5 k6 k7 k8 k9 k10 k11 k12 k13 k14 k15 k16 k17 k18 k19 k20 k21 k22 k23)) (va_runV (As := [.int (xs 1), .int (xs 2)]) (rest := []) ⟨hx, hb, hml, hown, htsL⟩ (c_X11_spoon (l := l) (D := D) (G := G) (sz := H.size) (a_p0 := y0) (a_p0_rules := y1) (a_p0_state := y7) (a_p0_tape := y13) (a_p0_reader := y15) (a_p0_kitchen := y29) (a_p0_luck := y33) (a_p0_plans := y37) (a_p0_coups := y40) (a_p0_past := y41) (a_p0_fairDays := y43) (a_p0_images := y50) (a_p0_imageHeld := y51) (a_p0_sheets := y52) (a_p0_rules_need := y2) (a_p0_rules_kind := y3) (a_p0_rules_first := y4) (a_p0_rules_second := y5) (a_p0_rules_after := y6) (a_p0_state_pieces := y8) (a_p0_state_friends := y9) (a_p0_state_spoons := y10) (a_p0_state_eaten := y11) (a_p0_state_seen := y12) (i_p0_latestFault := (0 : Int32)) (i_p0_latestTear := (0 : Int32)) (i_p0_rules_seats := (4 : Int32)) (i_p0_rules_stirs := (0 : Int32)) (i_p0_state_seenDays := (0 : Int32)) (i_p0_state_bone := (0 : Int32)) (i_p0_state_king := (0 : Int32)) (i_p0_state_days := (0 : Int32)) (v_p0_state_spoons := u_fill_0) (x1 := (xs 1)) (x2 := (xs 2)) (r := r) (o_v_p0_state_spoons := xo1) (hf := hcx)) (cwV 2 htsL gL_law_X11_spoon rfl rfl rfl (by decide +kernel) ⟨(Nat.le_of_ble_eq_true rfl), (Nat.le_of_ble_eq_true rfl)⟩) (preG_V (ci := 11) (hP.sub [0, 1, 7, 10] rfl) (hD.sub [0, 1, 7, 10] rfl rfl) hK rfl rfl) rfl rfl hl.1 rfl (lv_room (Nat.le_of_ble_eq_true rfl)) dL_law_476 ⟨(Nat.le_of_ble_eq_true rfl), (Nat.le_of_ble_eq_true rfl)⟩) hP hD hS hA [0, 1, 7, 10] [73, 74, 75, 76, 77, 78, 79, 80, 81, 82, 83, 84, 85, 86, 87, 88, 89, 90, 91, 92, 93, 94, 95, 96] [0, 1, 2, 3, 4, 5, 6, 7, 8, 9, 10, 11, 12, 13, 14, 15, 16, 17, 18, 19, 20, 21, 22, 23] rfl rfl rfl (by decide) rfl rfl rfl (fun H locs hP hD hS => ?_)
  refine lv_aload_n hx hb dL_law_479 rfl (lv_at hl 1 rfl) ?_
  refine lv_aload_n hx hb dL_law_480 rfl (lv_at hl 3 rfl) ?_
  refine lv_iload_n hx hb dL_law_481 rfl (lv_at hl 0 rfl) ?_
  refine lv_iconst (v := (1 : Int32)) hx hb dL_law_482 (by decide) ?_
  refine lv_iadd hx hb dL_law_483 ?_
  refine va_sld hx hb hX hbl hbA hS (ixB_in (by decide +kernel)) dL_law_484 ?_
  refine W.eq (g2 := F0 m 485 ls [.int (xs 1), .ref k0, .int r]) rfl ?_
  refine lv_aload_n hx hb dL_law_485 rfl (lv_at hl 3 rfl) ?_
  refine lv_iload_n hx hb dL_law_486 rfl (lv_at hl 0 rfl) ?_
  refine lv_iconst (v := (2 : Int32)) hx hb dL_law_487 (by decide) ?_
  refine lv_iadd hx hb dL_law_488 ?_
  refine va_sld hx hb hX hbl hbA hS (ixB_in (by decide +kernel)) dL_law_489 ?_
  refine W.eq (g2 := F0 m 490 ls [.int (xs 2), .int (xs 1), .ref k0, .int r]) rfl ?_
  refine gcI (ws' := []) (va_runV (As := [.int (xs 1), .int (xs 2)]) (rest := [.int r]) ⟨hx, hb, hml, hown, htsL⟩ (c_X12_spoon (l := l) (D := D) (G := G) (sz := H.size) (a_p0 := k0) (a_p0_st := k1) (a_p0_isKept := k2) (a_p0_brings := k3) (a_p0_need := k4) (a_p0_draft := k5) (a_p0_dStir := k6) (a_p0_dNeed := k7) (a_p0_tape := k8) (a_p0_places := k9) (a_p0_stirred := k10) (a_p0_ways := k11) (a_p0_waysThen := k12) (a_p0_stays := k13) (a_p0_fewest := k14) (a_p0_bowls := k15) (a_p0_has := k16) (a_p0_goesOn := k17) (a_p0_isThere := k18) (a_p0_isThereThen := k19) (a_p0_bestRow := k20) (a_p0_lanes := k21) (a_p0_sizes := k22) (a_p0_cells := k23) (i_p0_seats := u_X12_init215_0) (i_p0_stirs := u_X12_init215_1) (i_p0_dSeats := u_X12_init211_0) (i_p0_dStirs := u_X12_init211_1) (i_p0_told := u_X12_init211_2) (i_p0_highest := u_X12_init211_3) (i_p0_taped := (0 : Int32)) (i_p0_pos := (0 : Int32)) (i_p0_from := (0 : Int32)) (i_p0_sort := (0 : Int32)) (i_p0_value := (0 : Int32)) (i_p0_fault := (0 : Int32)) (i_p0_wrongAt := (0 : Int32)) (i_p0_torn := (0 : Int32)) (v_p0_st := u_X12_init215_2) (x1 := (xs 1)) (x2 := (xs 2)) (r := r) (o_v_p0_st := ko1) (hf := hck)) (cwV 2 htsL gL_law_X12_spoon rfl rfl rfl (by decide +kernel) ⟨(Nat.le_of_ble_eq_true rfl), (Nat.le_of_ble_eq_true rfl)⟩) (preG_V (ci := 12) (hP.sub [0, 1] rfl) (hD.sub [0, 1] rfl rfl) hK rfl rfl) rfl rfl hl.1 rfl (lv_room (Nat.le_of_ble_eq_true rfl)) dL_law_490 ⟨(Nat.le_of_ble_eq_true rfl), (Nat.le_of_ble_eq_true rfl)⟩) hP hD hS hA [0, 1] [] [] rfl rfl rfl (by decide) rfl rfl rfl (fun H locs hP hD hS => ?_)
  refine lv_icmp_eq (tgt := 1309) hx hb dL_law_493 (by decide) (fun _ => ?_) (fun cc => absurd rfl cc)
  exact law_end C0 hAf hS ls hl
set_option maxHeartbeats 8000000 in
set_option maxRecDepth 100000 in
theorem lc_10 {p : Program} {l : Launch} {e : Env} {s : State} {m : MethodId} {below : List Frame} {meth : Method} {c : Code} {b : Nat} {xs : Nat → Int32} {A : Nat → Prop} {D : va_G} {G : Nat → ClassId} {H : Heap} {locs : List Loc} {y0 y1 y2 y3 y4 y5 y6 y7 y8 y9 y10 y11 y12 y13 y14 y15 y16 y17 y18 y19 y20 y21 y22 y23 y24 y25 y26 y27 y28 y29 y30 y31 y32 y33 y34 y35 y36 y37 y38 y39 y40 y41 y42 y43 y44 y45 y46 y47 y48 y49 y50 y51 y52 y53 y54 y55 y56 y57 y58 y59 y60 y61 y62 y63 y64 y65 y66 y67 y68 y69 y70 y71 y72 k0 k1 k2 k3 k4 k5 k6 k7 k8 k9 k10 k11 k12 k13 k14 k15 k16 k17 k18 k19 k20 k21 k22 k23 : Nat} (C0 : lw_At p s m meth c b 5 xs) (hA : ∀ q, s.heap.size ≤ q → A q) (hAf : ∀ q, A q → s.heap.size ≤ q) (hK : va_K D vwCl (tyG G) s) (hP : va_P D vwCl (wF G y0 y1 y2 y3 y4 y5 y6 y7 y8 y9 y10 y11 y12 y13 y14 y15 y16 y17 y18 y19 y20 y21 y22 y23 y24 y25 y26 y27 y28 y29 y30 y31 y32 y33 y34 y35 y36 y37 y38 y39 y40 y41 y42 y43 y44 y45 y46 y47 y48 y49 y50 y51 y52 y53 y54 y55 y56 y57 y58 y59 y60 y61 y62 y63 y64 y65 y66 y67 y68 y69 y70 y71 y72 k0 k1 k2 k3 k4 k5 k6 k7 k8 k9 k10 k11 k12 k13 k14 k15 k16 k17 k18 k19 k20 k21 k22 k23) H) (hD : va_D A (wF G y0 y1 y2 y3 y4 y5 y6 y7 y8 y9 y10 y11 y12 y13 y14 y15 y16 y17 y18 y19 y20 y21 y22 y23 y24 y25 y26 y27 y28 y29 y30 y31 y32 y33 y34 y35 y36 y37 y38 y39 y40 y41 y42 y43 y44 y45 y46 y47 y48 y49 y50 y51 y52 y53 y54 y55 y56 y57 y58 y59 y60 y61 y62 y63 y64 y65 y66 y67 y68 y69 y70 y71 y72 k0 k1 k2 k3 k4 k5 k6 k7 k8 k9 k10 k11 k12 k13 k14 k15 k16 k17 k18 k19 k20 k21 k22 k23)) (hS : va_S A s.heap H locs) (ls : Array Slot) (hl : lv_has ls 4 [(3, .int (0 : Int32)), (2, .ref k0), (1, .ref y0), (0, .ref b)]) : W p l e room_1 s m #[Value.ref b] below meth c H locs 600000 7302250 (lw_Z below #[Value.ref b] s) (F0 m 498 ls []) := by
  obtain ⟨hx, hb, hr, hml, hown, hts, hX, hbl, hlocks, hgv⟩ := id C0
  have hbA : ¬ A b := fun h => absurd (hAf b h) (Nat.not_le.mpr hbl)
  have hown : s.vm.findClass RL = some m.cls := hown
  have htsL : ∀ w ∈ wsL_law, w.before #[Value.ref b] s = true := fun w h => hts w (wsL_law_in w h)
  refine lv_aload_n hx hb dL_law_498 rfl (lv_at hl 2 rfl) ?_
  refine lv_aload_n hx hb dL_law_499 rfl (lv_at hl 3 rfl) ?_
  refine lv_iload_n hx hb dL_law_500 rfl (lv_at hl 0 rfl) ?_
  refine lv_iconst (v := (1 : Int32)) hx hb dL_law_501 (by decide) ?_
  refine lv_iadd hx hb dL_law_502 ?_
  refine va_sld hx hb hX hbl hbA hS (ixB_in (by decide +kernel)) dL_law_503 ?_
  refine W.eq (g2 := F0 m 504 ls [.int (xs 1), .ref y0]) rfl ?_
  obtain ⟨r, xo1, hcx, ko1, hck⟩ := z_crown (xs 1)
  refine gcI (ws' := (wK G k0 k1 k2 k3 k4 k5 k6 k7 k8 k9 k10 k11 k12 k13 k14 k15 k16 k17 k18 k19 k20 k21 k22 k23)) (va_runV (As := [.int (xs 1)]) (rest := []) ⟨hx, hb, hml, hown, htsL⟩ (c_X11_crown (l := l) (D := D) (G := G) (sz := H.size) (a_p0 := y0) (a_p0_rules := y1) (a_p0_state := y7) (a_p0_tape := y13) (a_p0_reader := y15) (a_p0_kitchen := y29) (a_p0_luck := y33) (a_p0_plans := y37) (a_p0_coups := y40) (a_p0_past := y41) (a_p0_fairDays := y43) (a_p0_images := y50) (a_p0_imageHeld := y51) (a_p0_sheets := y52) (a_p0_rules_need := y2) (a_p0_rules_kind := y3) (a_p0_rules_first := y4) (a_p0_rules_second := y5) (a_p0_rules_after := y6) (a_p0_state_pieces := y8) (a_p0_state_friends := y9) (a_p0_state_spoons := y10) (a_p0_state_eaten := y11) (a_p0_state_seen := y12) (i_p0_latestFault := (0 : Int32)) (i_p0_latestTear := (0 : Int32)) (i_p0_rules_seats := (4 : Int32)) (i_p0_rules_stirs := (0 : Int32)) (i_p0_state_seenDays := (0 : Int32)) (i_p0_state_bone := (0 : Int32)) (i_p0_state_king := (0 : Int32)) (i_p0_state_days := (0 : Int32)) (x1 := (xs 1)) (r := r) (o_i_p0_state_king := xo1) (hf := hcx)) (cwV 1 htsL gL_law_X11_crown rfl rfl rfl (by decide +kernel) ⟨(Nat.le_of_ble_eq_true rfl), (Nat.le_of_ble_eq_true rfl)⟩) (preG_V (ci := 11) (hP.sub [0, 1, 7] rfl) (hD.sub [0, 1, 7] rfl rfl) hK rfl rfl) rfl rfl hl.1 rfl (lv_room (Nat.le_of_ble_eq_true rfl)) dL_law_504 ⟨(Nat.le_of_ble_eq_true rfl), (Nat.le_of_ble_eq_true rfl)⟩) hP hD hS hA [0, 1, 7] [73, 74, 75, 76, 77, 78, 79, 80, 81, 82, 83, 84, 85, 86, 87, 88, 89, 90, 91, 92, 93, 94, 95, 96] [0, 1, 2, 3, 4, 5, 6, 7, 8, 9, 10, 11, 12, 13, 14, 15, 16, 17, 18, 19, 20, 21, 22, 23] rfl rfl rfl (by decide) rfl rfl rfl (fun H locs hP hD hS => ?_)
  refine lv_aload_n hx hb dL_law_507 rfl (lv_at hl 1 rfl) ?_
  refine lv_aload_n hx hb dL_law_508 rfl (lv_at hl 3 rfl) ?_
  refine lv_iload_n hx hb dL_law_509 rfl (lv_at hl 0 rfl) ?_
  refine lv_iconst (v := (1 : Int32)) hx hb dL_law_510 (by decide) ?_
  refine lv_iadd hx hb dL_law_511 ?_
  refine va_sld hx hb hX hbl hbA hS (ixB_in (by decide +kernel)) dL_law_512 ?_
  refine W.eq (g2 := F0 m 513 ls [.int (xs 1), .ref k0, .int r]) rfl ?_
  refine gcI (ws' := []) (va_runV (As := [.int (xs 1)]) (rest := [.int r]) ⟨hx, hb, hml, hown, htsL⟩ (c_X12_crown (l := l) (D := D) (G := G) (sz := H.size) (a_p0 := k0) (a_p0_st := k1) (a_p0_isKept := k2) (a_p0_brings := k3) (a_p0_need := k4) (a_p0_draft := k5) (a_p0_dStir := k6) (a_p0_dNeed := k7) (a_p0_tape := k8) (a_p0_places := k9) (a_p0_stirred := k10) (a_p0_ways := k11) (a_p0_waysThen := k12) (a_p0_stays := k13) (a_p0_fewest := k14) (a_p0_bowls := k15) (a_p0_has := k16) (a_p0_goesOn := k17) (a_p0_isThere := k18) (a_p0_isThereThen := k19) (a_p0_bestRow := k20) (a_p0_lanes := k21) (a_p0_sizes := k22) (a_p0_cells := k23) (i_p0_seats := u_X12_init215_0) (i_p0_stirs := u_X12_init215_1) (i_p0_dSeats := u_X12_init211_0) (i_p0_dStirs := u_X12_init211_1) (i_p0_told := u_X12_init211_2) (i_p0_highest := u_X12_init211_3) (i_p0_taped := (0 : Int32)) (i_p0_pos := (0 : Int32)) (i_p0_from := (0 : Int32)) (i_p0_sort := (0 : Int32)) (i_p0_value := (0 : Int32)) (i_p0_fault := (0 : Int32)) (i_p0_wrongAt := (0 : Int32)) (i_p0_torn := (0 : Int32)) (v_p0_st := u_X12_init215_2) (x1 := (xs 1)) (r := r) (o_v_p0_st := ko1) (hf := hck)) (cwV 1 htsL gL_law_X12_crown rfl rfl rfl (by decide +kernel) ⟨(Nat.le_of_ble_eq_true rfl), (Nat.le_of_ble_eq_true rfl)⟩) (preG_V (ci := 12) (hP.sub [0, 1] rfl) (hD.sub [0, 1] rfl rfl) hK rfl rfl) rfl rfl hl.1 rfl (lv_room (Nat.le_of_ble_eq_true rfl)) dL_law_513 ⟨(Nat.le_of_ble_eq_true rfl), (Nat.le_of_ble_eq_true rfl)⟩) hP hD hS hA [0, 1] [] [] rfl rfl rfl (by decide) rfl rfl rfl (fun H locs hP hD hS => ?_)
  refine lv_icmp_eq (tgt := 1309) hx hb dL_law_516 (by decide) (fun _ => ?_) (fun cc => absurd rfl cc)
  exact law_end C0 hAf hS ls hl
set_option maxHeartbeats 8000000 in
set_option maxRecDepth 100000 in
theorem lc_11 {p : Program} {l : Launch} {e : Env} {s : State} {m : MethodId} {below : List Frame} {meth : Method} {c : Code} {b : Nat} {xs : Nat → Int32} {A : Nat → Prop} {D : va_G} {G : Nat → ClassId} {H : Heap} {locs : List Loc} {y0 y1 y2 y3 y4 y5 y6 y7 y8 y9 y10 y11 y12 y13 y14 y15 y16 y17 y18 y19 y20 y21 y22 y23 y24 y25 y26 y27 y28 y29 y30 y31 y32 y33 y34 y35 y36 y37 y38 y39 y40 y41 y42 y43 y44 y45 y46 y47 y48 y49 y50 y51 y52 y53 y54 y55 y56 y57 y58 y59 y60 y61 y62 y63 y64 y65 y66 y67 y68 y69 y70 y71 y72 k0 k1 k2 k3 k4 k5 k6 k7 k8 k9 k10 k11 k12 k13 k14 k15 k16 k17 k18 k19 k20 k21 k22 k23 : Nat} (C0 : lw_At p s m meth c b 5 xs) (hA : ∀ q, s.heap.size ≤ q → A q) (hAf : ∀ q, A q → s.heap.size ≤ q) (hK : va_K D vwCl (tyG G) s) (hP : va_P D vwCl (wF G y0 y1 y2 y3 y4 y5 y6 y7 y8 y9 y10 y11 y12 y13 y14 y15 y16 y17 y18 y19 y20 y21 y22 y23 y24 y25 y26 y27 y28 y29 y30 y31 y32 y33 y34 y35 y36 y37 y38 y39 y40 y41 y42 y43 y44 y45 y46 y47 y48 y49 y50 y51 y52 y53 y54 y55 y56 y57 y58 y59 y60 y61 y62 y63 y64 y65 y66 y67 y68 y69 y70 y71 y72 k0 k1 k2 k3 k4 k5 k6 k7 k8 k9 k10 k11 k12 k13 k14 k15 k16 k17 k18 k19 k20 k21 k22 k23) H) (hD : va_D A (wF G y0 y1 y2 y3 y4 y5 y6 y7 y8 y9 y10 y11 y12 y13 y14 y15 y16 y17 y18 y19 y20 y21 y22 y23 y24 y25 y26 y27 y28 y29 y30 y31 y32 y33 y34 y35 y36 y37 y38 y39 y40 y41 y42 y43 y44 y45 y46 y47 y48 y49 y50 y51 y52 y53 y54 y55 y56 y57 y58 y59 y60 y61 y62 y63 y64 y65 y66 y67 y68 y69 y70 y71 y72 k0 k1 k2 k3 k4 k5 k6 k7 k8 k9 k10 k11 k12 k13 k14 k15 k16 k17 k18 k19 k20 k21 k22 k23)) (hS : va_S A s.heap H locs) (ls : Array Slot) (hl : lv_has ls 4 [(3, .int (0 : Int32)), (2, .ref k0), (1, .ref y0), (0, .ref b)]) : W p l e room_1 s m #[Value.ref b] below meth c H locs 600000 7302250 (lw_Z below #[Value.ref b] s) (F0 m 521 ls []) := by
  obtain ⟨hx, hb, hr, hml, hown, hts, hX, hbl, hlocks, hgv⟩ := id C0
  have hbA : ¬ A b := fun h => absurd (hAf b h) (Nat.not_le.mpr hbl)
  have hown : s.vm.findClass RL = some m.cls := hown
  have htsL : ∀ w ∈ wsL_law, w.before #[Value.ref b] s = true := fun w h => hts w (wsL_law_in w h)
  refine lv_aload_n hx hb dL_law_521 rfl (lv_at hl 2 rfl) ?_
  refine lv_aload_n hx hb dL_law_522 rfl (lv_at hl 3 rfl) ?_
  refine lv_iload_n hx hb dL_law_523 rfl (lv_at hl 0 rfl) ?_
  refine lv_iconst (v := (1 : Int32)) hx hb dL_law_524 (by decide) ?_
  refine lv_iadd hx hb dL_law_525 ?_
  refine va_sld hx hb hX hbl hbA hS (ixB_in (by decide +kernel)) dL_law_526 ?_
  refine W.eq (g2 := F0 m 527 ls [.int (xs 1), .ref y0]) rfl ?_
  refine lv_aload_n hx hb dL_law_527 rfl (lv_at hl 3 rfl) ?_
  refine lv_iload_n hx hb dL_law_528 rfl (lv_at hl 0 rfl) ?_
  refine lv_iconst (v := (2 : Int32)) hx hb dL_law_529 (by decide) ?_
  refine lv_iadd hx hb dL_law_530 ?_
  refine va_sld hx hb hX hbl hbA hS (ixB_in (by decide +kernel)) dL_law_531 ?_
  refine W.eq (g2 := F0 m 532 ls [.int (xs 2), .int (xs 1), .ref y0]) rfl ?_
  obtain ⟨r, xo1, hcx, ko1, hck⟩ := z_fill (xs 1) (xs 2)
  refine gcI (ws' := (wK G k0 k1 k2 k3 k4 k5 k6 k7 k8 k9 k10 k11 k12 k13 k14 k15 k16 k17 k18 k19 k20 k21 k22 k23)) (va_runV (As := [.int (xs 1), .int (xs 2)]) (rest := []) ⟨hx, hb, hml, hown, htsL⟩ (c_X11_fill (l := l) (D := D) (G := G) (sz := H.size) (a_p0 := y0) (a_p0_rules := y1) (a_p0_state := y7) (a_p0_tape := y13) (a_p0_reader := y15) (a_p0_kitchen := y29) (a_p0_luck := y33) (a_p0_plans := y37) (a_p0_coups := y40) (a_p0_past := y41) (a_p0_fairDays := y43) (a_p0_images := y50) (a_p0_imageHeld := y51) (a_p0_sheets := y52) (a_p0_rules_need := y2) (a_p0_rules_kind := y3) (a_p0_rules_first := y4) (a_p0_rules_second := y5) (a_p0_rules_after := y6) (a_p0_state_pieces := y8) (a_p0_state_friends := y9) (a_p0_state_spoons := y10) (a_p0_state_eaten := y11) (a_p0_state_seen := y12) (i_p0_latestFault := (0 : Int32)) (i_p0_latestTear := (0 : Int32)) (i_p0_rules_seats := (4 : Int32)) (i_p0_rules_stirs := (0 : Int32)) (i_p0_state_seenDays := (0 : Int32)) (i_p0_state_bone := (0 : Int32)) (i_p0_state_king := (0 : Int32)) (i_p0_state_days := (0 : Int32)) (v_p0_state_pieces := (fun _ => (0 : Int32))) (x1 := (xs 1)) (x2 := (xs 2)) (r := r) (o_v_p0_state_pieces := xo1) (hf := hcx)) (cwV 2 htsL gL_law_X11_fill rfl rfl rfl (by decide +kernel) ⟨(Nat.le_of_ble_eq_true rfl), (Nat.le_of_ble_eq_true rfl)⟩) (preG_V (ci := 11) (hP.sub [0, 1, 7, 8] rfl) (hD.sub [0, 1, 7, 8] rfl rfl) hK rfl rfl) rfl rfl hl.1 rfl (lv_room (Nat.le_of_ble_eq_true rfl)) dL_law_532 ⟨(Nat.le_of_ble_eq_true rfl), (Nat.le_of_ble_eq_true rfl)⟩) hP hD hS hA [0, 1, 7, 8] [73, 74, 75, 76, 77, 78, 79, 80, 81, 82, 83, 84, 85, 86, 87, 88, 89, 90, 91, 92, 93, 94, 95, 96] [0, 1, 2, 3, 4, 5, 6, 7, 8, 9, 10, 11, 12, 13, 14, 15, 16, 17, 18, 19, 20, 21, 22, 23] rfl rfl rfl (by decide) rfl rfl rfl (fun H locs hP hD hS => ?_)
  refine lv_aload_n hx hb dL_law_535 rfl (lv_at hl 1 rfl) ?_
  refine lv_aload_n hx hb dL_law_536 rfl (lv_at hl 3 rfl) ?_
  refine lv_iload_n hx hb dL_law_537 rfl (lv_at hl 0 rfl) ?_
  refine lv_iconst (v := (1 : Int32)) hx hb dL_law_538 (by decide) ?_
  refine lv_iadd hx hb dL_law_539 ?_
  refine va_sld hx hb hX hbl hbA hS (ixB_in (by decide +kernel)) dL_law_540 ?_
  refine W.eq (g2 := F0 m 541 ls [.int (xs 1), .ref k0, .int r]) rfl ?_
  refine lv_aload_n hx hb dL_law_541 rfl (lv_at hl 3 rfl) ?_
  refine lv_iload_n hx hb dL_law_542 rfl (lv_at hl 0 rfl) ?_
  refine lv_iconst (v := (2 : Int32)) hx hb dL_law_543 (by decide) ?_
  refine lv_iadd hx hb dL_law_544 ?_
  refine va_sld hx hb hX hbl hbA hS (ixB_in (by decide +kernel)) dL_law_545 ?_
  refine W.eq (g2 := F0 m 546 ls [.int (xs 2), .int (xs 1), .ref k0, .int r]) rfl ?_
  refine gcI (ws' := []) (va_runV (As := [.int (xs 1), .int (xs 2)]) (rest := [.int r]) ⟨hx, hb, hml, hown, htsL⟩ (c_X12_fill (l := l) (D := D) (G := G) (sz := H.size) (a_p0 := k0) (a_p0_st := k1) (a_p0_isKept := k2) (a_p0_brings := k3) (a_p0_need := k4) (a_p0_draft := k5) (a_p0_dStir := k6) (a_p0_dNeed := k7) (a_p0_tape := k8) (a_p0_places := k9) (a_p0_stirred := k10) (a_p0_ways := k11) (a_p0_waysThen := k12) (a_p0_stays := k13) (a_p0_fewest := k14) (a_p0_bowls := k15) (a_p0_has := k16) (a_p0_goesOn := k17) (a_p0_isThere := k18) (a_p0_isThereThen := k19) (a_p0_bestRow := k20) (a_p0_lanes := k21) (a_p0_sizes := k22) (a_p0_cells := k23) (i_p0_seats := u_X12_init215_0) (i_p0_stirs := u_X12_init215_1) (i_p0_dSeats := u_X12_init211_0) (i_p0_dStirs := u_X12_init211_1) (i_p0_told := u_X12_init211_2) (i_p0_highest := u_X12_init211_3) (i_p0_taped := (0 : Int32)) (i_p0_pos := (0 : Int32)) (i_p0_from := (0 : Int32)) (i_p0_sort := (0 : Int32)) (i_p0_value := (0 : Int32)) (i_p0_fault := (0 : Int32)) (i_p0_wrongAt := (0 : Int32)) (i_p0_torn := (0 : Int32)) (v_p0_st := u_X12_init215_2) (x1 := (xs 1)) (x2 := (xs 2)) (r := r) (o_v_p0_st := ko1) (hf := hck)) (cwV 2 htsL gL_law_X12_fill rfl rfl rfl (by decide +kernel) ⟨(Nat.le_of_ble_eq_true rfl), (Nat.le_of_ble_eq_true rfl)⟩) (preG_V (ci := 12) (hP.sub [0, 1] rfl) (hD.sub [0, 1] rfl rfl) hK rfl rfl) rfl rfl hl.1 rfl (lv_room (Nat.le_of_ble_eq_true rfl)) dL_law_546 ⟨(Nat.le_of_ble_eq_true rfl), (Nat.le_of_ble_eq_true rfl)⟩) hP hD hS hA [0, 1] [] [] rfl rfl rfl (by decide) rfl rfl rfl (fun H locs hP hD hS => ?_)
  refine lv_icmp_eq (tgt := 1309) hx hb dL_law_549 (by decide) (fun _ => ?_) (fun cc => absurd rfl cc)
  exact law_end C0 hAf hS ls hl
