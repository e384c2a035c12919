set_option maxHeartbeats 8000000 in
set_option maxRecDepth 100000 in
theorem lc_16 {p : Program} {l : Launch} {e : Env} {s : State} {m : MethodId} {below : List Frame} {meth : Method} {c : Code} {b : Nat} {xs : Nat → Int32} {A : Nat → Prop} {D : va_G} {G : Nat → ClassId} {H : Heap} {locs : List Loc} {y0 y1 y2 y3 y4 y5 y6 y7 y8 y9 y10 y11 y12 y13 y14 y15 y16 y17 y18 y19 y20 y21 y22 y23 y24 y25 y26 y27 y28 y29 y30 y31 y32 y33 y34 y35 y36 y37 y38 y39 y40 y41 y42 y43 y44 y45 y46 y47 y48 y49 y50 y51 y52 y53 y54 y55 y56 y57 y58 y59 y60 y61 y62 y63 y64 y65 y66 y67 y68 y69 y70 y71 y72 k0 k1 k2 k3 k4 k5 k6 k7 k8 k9 k10 k11 k12 k13 k14 k15 k16 k17 k18 k19 k20 k21 k22 k23 : Nat} (C0 : lw_At p s m meth c b 5 xs) (hA : ∀ q, s.heap.size ≤ q → A q) (hAf : ∀ q, A q → s.heap.size ≤ q) (hK : va_K D vwCl (tyG G) s) (hP : va_P D vwCl (wF G y0 y1 y2 y3 y4 y5 y6 y7 y8 y9 y10 y11 y12 y13 y14 y15 y16 y17 y18 y19 y20 y21 y22 y23 y24 y25 y26 y27 y28 y29 y30 y31 y32 y33 y34 y35 y36 y37 y38 y39 y40 y41 y42 y43 y44 y45 y46 y47 y48 y49 y50 y51 y52 y53 y54 y55 y56 y57 y58 y59 y60 y61 y62 y63 y64 y65 y66 y67 y68 y69 y70 y71 y72 k0 k1 k2 k3 k4 k5 k6 k7 k8 k9 k10 k11 k12 k13 k14 k15 k16 k17 k18 k19 k20 k21 k22 k23) H) (hD : va_D A (wF G y0 y1 y2 y3 y4 y5 y6 y7 y8 y9 y10 y11 y12 y13 y14 y15 y16 y17 y18 y19 y20 y21 y22 y23 y24 y25 y26 y27 y28 y29 y30 y31 y32 y33 y34 y35 y36 y37 y38 y39 y40 y41 y42 y43 y44 y45 y46 y47 y48 y49 y50 y51 y52 y53 y54 y55 y56 y57 y58 y59 y60 y61 y62 y63 y64 y65 y66 y67 y68 y69 y70 y71 y72 k0 k1 k2 k3 k4 k5 k6 k7 k8 k9 k10 k11 k12 k13 k14 k15 k16 k17 k18 k19 k20 k21 k22 k23)) (hS : va_S A s.heap H locs) (ls : Array Slot) (hl : lv_has ls 4 [(3, .int (0 : Int32)), (2, .ref k0), (1, .ref y0), (0, .ref b)]) : W p l e room_1 s m #[Value.ref b] below meth c H locs 600000 7302250 (lw_Z below #[Value.ref b] s) (F0 m 696 ls []) := by
  obtain ⟨hx, hb, hr, hml, hown, hts, hX, hbl, hlocks, hgv⟩ := id C0
  have hbA : ¬ A b := fun h => absurd (hAf b h) (Nat.not_le.mpr hbl)
  have hown : s.vm.findClass RL = some m.cls := hown
  have htsL : ∀ w ∈ wsL_law, w.before #[Value.ref b] s = true := fun w h => hts w (wsL_law_in w h)
  refine lv_aload_n hx hb dL_law_696 rfl (lv_at hl 2 rfl) ?_
  obtain ⟨r, hcx, hck⟩ := z_hungry 
  refine gcI (ws' := (wK G k0 k1 k2 k3 k4 k5 k6 k7 k8 k9 k10 k11 k12 k13 k14 k15 k16 k17 k18 k19 k20 k21 k22 k23)) (va_runV (As := []) (rest := []) ⟨hx, hb, hml, hown, htsL⟩ (c_X11_hungry (l := l) (D := D) (G := G) (sz := H.size) (a_p0 := y0) (a_p0_rules := y1) (a_p0_state := y7) (a_p0_tape := y13) (a_p0_reader := y15) (a_p0_kitchen := y29) (a_p0_luck := y33) (a_p0_plans := y37) (a_p0_coups := y40) (a_p0_past := y41) (a_p0_fairDays := y43) (a_p0_images := y50) (a_p0_imageHeld := y51) (a_p0_sheets := y52) (a_p0_rules_need := y2) (a_p0_rules_kind := y3) (a_p0_rules_first := y4) (a_p0_rules_second := y5) (a_p0_rules_after := y6) (a_p0_state_pieces := y8) (a_p0_state_friends := y9) (a_p0_state_spoons := y10) (a_p0_state_eaten := y11) (a_p0_state_seen := y12) (i_p0_latestFault := (0 : Int32)) (i_p0_latestTear := (0 : Int32)) (i_p0_rules_seats := (4 : Int32)) (i_p0_rules_stirs := (0 : Int32)) (v_p0_rules_need := (fun _ => (0 : Int32))) (i_p0_state_seenDays := (0 : Int32)) (i_p0_state_bone := (0 : Int32)) (i_p0_state_king := (0 : Int32)) (i_p0_state_days := (0 : Int32)) (v_p0_state_eaten := (fun _ => (0 : Int32))) (r := r) (hf := hcx)) (cwV 0 htsL gL_law_X11_hungry rfl rfl rfl (by decide +kernel) ⟨(Nat.le_of_ble_eq_true rfl), (Nat.le_of_ble_eq_true rfl)⟩) (preG_V (ci := 11) (hP.sub [0, 1, 2, 7, 11] rfl) (hD.sub [0, 1, 2, 7, 11] rfl rfl) hK rfl rfl) rfl rfl hl.1 rfl (lv_room (Nat.le_of_ble_eq_true rfl)) dL_law_697 ⟨(Nat.le_of_ble_eq_true rfl), (Nat.le_of_ble_eq_true rfl)⟩) hP hD hS hA [0, 1, 2, 7, 11] [73, 74, 75, 76, 77, 78, 79, 80, 81, 82, 83, 84, 85, 86, 87, 88, 89, 90, 91, 92, 93, 94, 95, 96] [0, 1, 2, 3, 4, 5, 6, 7, 8, 9, 10, 11, 12, 13, 14, 15, 16, 17, 18, 19, 20, 21, 22, 23] rfl rfl rfl (by decide) rfl rfl rfl (fun H locs hP hD hS => ?_)
  refine lv_aload_n hx hb dL_law_700 rfl (lv_at hl 1 rfl) ?_
  refine gcI (ws' := []) (va_runV (As := []) (rest := [.int r]) ⟨hx, hb, hml, hown, htsL⟩ (c_X12_hungry (l := l) (D := D) (G := G) (sz := H.size) (a_p0 := k0) (a_p0_st := k1) (a_p0_isKept := k2) (a_p0_brings := k3) (a_p0_need := k4) (a_p0_draft := k5) (a_p0_dStir := k6) (a_p0_dNeed := k7) (a_p0_tape := k8) (a_p0_places := k9) (a_p0_stirred := k10) (a_p0_ways := k11) (a_p0_waysThen := k12) (a_p0_stays := k13) (a_p0_fewest := k14) (a_p0_bowls := k15) (a_p0_has := k16) (a_p0_goesOn := k17) (a_p0_isThere := k18) (a_p0_isThereThen := k19) (a_p0_bestRow := k20) (a_p0_lanes := k21) (a_p0_sizes := k22) (a_p0_cells := k23) (i_p0_seats := u_X12_init215_0) (i_p0_stirs := u_X12_init215_1) (i_p0_dSeats := u_X12_init211_0) (i_p0_dStirs := u_X12_init211_1) (i_p0_told := u_X12_init211_2) (i_p0_highest := u_X12_init211_3) (i_p0_taped := (0 : Int32)) (i_p0_pos := (0 : Int32)) (i_p0_from := (0 : Int32)) (i_p0_sort := (0 : Int32)) (i_p0_value := (0 : Int32)) (i_p0_fault := (0 : Int32)) (i_p0_wrongAt := (0 : Int32)) (i_p0_torn := (0 : Int32)) (v_p0_st := u_X12_init215_2) (v_p0_need := u_X12_init215_4) (r := r) (hf := hck)) (cwV 0 htsL gL_law_X12_hungry rfl rfl rfl (by decide +kernel) ⟨(Nat.le_of_ble_eq_true rfl), (Nat.le_of_ble_eq_true rfl)⟩) (preG_V (ci := 12) (hP.sub [0, 1, 4] rfl) (hD.sub [0, 1, 4] rfl rfl) hK rfl rfl) rfl rfl hl.1 rfl (lv_room (Nat.le_of_ble_eq_true rfl)) dL_law_701 ⟨(Nat.le_of_ble_eq_true rfl), (Nat.le_of_ble_eq_true rfl)⟩) hP hD hS hA [0, 1, 4] [] [] rfl rfl rfl (by decide) rfl rfl rfl (fun H locs hP hD hS => ?_)
  refine lv_icmp_eq (tgt := 1309) hx hb dL_law_704 (by decide) (fun _ => ?_) (fun cc => absurd rfl cc)
  exact law_end C0 hAf hS ls hl
set_option maxHeartbeats 8000000 in
set_option maxRecDepth 100000 in
theorem lc_17 {p : Program} {l : Launch} {e : Env} {s : State} {m : MethodId} {below : List Frame} {meth : Method} {c : Code} {b : Nat} {xs : Nat → Int32} {A : Nat → Prop} {D : va_G} {G : Nat → ClassId} {H : Heap} {locs : List Loc} {y0 y1 y2 y3 y4 y5 y6 y7 y8 y9 y10 y11 y12 y13 y14 y15 y16 y17 y18 y19 y20 y21 y22 y23 y24 y25 y26 y27 y28 y29 y30 y31 y32 y33 y34 y35 y36 y37 y38 y39 y40 y41 y42 y43 y44 y45 y46 y47 y48 y49 y50 y51 y52 y53 y54 y55 y56 y57 y58 y59 y60 y61 y62 y63 y64 y65 y66 y67 y68 y69 y70 y71 y72 k0 k1 k2 k3 k4 k5 k6 k7 k8 k9 k10 k11 k12 k13 k14 k15 k16 k17 k18 k19 k20 k21 k22 k23 : Nat} (C0 : lw_At p s m meth c b 5 xs) (hA : ∀ q, s.heap.size ≤ q → A q) (hAf : ∀ q, A q → s.heap.size ≤ q) (hK : va_K D vwCl (tyG G) s) (hP : va_P D vwCl (wF G y0 y1 y2 y3 y4 y5 y6 y7 y8 y9 y10 y11 y12 y13 y14 y15 y16 y17 y18 y19 y20 y21 y22 y23 y24 y25 y26 y27 y28 y29 y30 y31 y32 y33 y34 y35 y36 y37 y38 y39 y40 y41 y42 y43 y44 y45 y46 y47 y48 y49 y50 y51 y52 y53 y54 y55 y56 y57 y58 y59 y60 y61 y62 y63 y64 y65 y66 y67 y68 y69 y70 y71 y72 k0 k1 k2 k3 k4 k5 k6 k7 k8 k9 k10 k11 k12 k13 k14 k15 k16 k17 k18 k19 k20 k21 k22 k23) H) (hD : va_D A (wF G y0 y1 y2 y3 y4 y5 y6 y7 y8 y9 y10 y11 y12 y13 y14 y15 y16 y17 y18 y19 y20 y21 y22 y23 y24 y25 y26 y27 y28 y29 y30 y31 y32 y33 y34 y35 y36 y37 y38 y39 y40 y41 y42 y43 y44 y45 y46 y47 y48 y49 y50 y51 y52 y53 y54 y55 y56 y57 y58 y59 y60 y61 y62 y63 y64 y65 y66 y67 y68 y69 y70 y71 y72 k0 k1 k2 k3 k4 k5 k6 k7 k8 k9 k10 k11 k12 k13 k14 k15 k16 k17 k18 k19 k20 k21 k22 k23)) (hS : va_S A s.heap H locs) (ls : Array Slot) (hl : lv_has ls 4 [(3, .int (0 : Int32)), (2, .ref k0), (1, .ref y0), (0, .ref b)]) : W p l e room_1 s m #[Value.ref b] below meth c H locs 600000 7302250 (lw_Z below #[Value.ref b] s) (F0 m 709 ls []) := by
  obtain ⟨hx, hb, hr, hml, hown, hts, hX, hbl, hlocks, hgv⟩ := id C0
  have hbA : ¬ A b := fun h => absurd (hAf b h) (Nat.not_le.mpr hbl)
  have hown : s.vm.findClass RL = some m.cls := hown
  have htsL : ∀ w ∈ wsL_law, w.before #[Value.ref b] s = true := fun w h => hts w (wsL_law_in w h)
  refine lv_aload_n hx hb dL_law_709 rfl (lv_at hl 2 rfl) ?_
  refine lv_aload_n hx hb dL_law_710 rfl (lv_at hl 3 rfl) ?_
  refine lv_iload_n hx hb dL_law_711 rfl (lv_at hl 0 rfl) ?_
  refine lv_iconst (v := (1 : Int32)) hx hb dL_law_712 (by decide) ?_
  refine lv_iadd hx hb dL_law_713 ?_
  refine va_sld hx hb hX hbl hbA hS (ixB_in (by decide +kernel)) dL_law_714 ?_
  refine W.eq (g2 := F0 m 715 ls [.int (xs 1), .ref y0]) rfl ?_
  refine lv_aload_n hx hb dL_law_715 rfl (lv_at hl 3 rfl) ?_
  refine lv_iload_n hx hb dL_law_716 rfl (lv_at hl 0 rfl) ?_
  refine lv_iconst (v := (2 : Int32)) hx hb dL_law_717 (by decide) ?_
  refine lv_iadd hx hb dL_law_718 ?_
  refine va_sld hx hb hX hbl hbA hS (ixB_in (by decide +kernel)) dL_law_719 ?_
  refine W.eq (g2 := F0 m 720 ls [.int (xs 2), .int (xs 1), .ref y0]) rfl ?_
  refine lv_aload_n hx hb dL_law_720 rfl (lv_at hl 3 rfl) ?_
  refine lv_iload_n hx hb dL_law_721 rfl (lv_at hl 0 rfl) ?_
  refine lv_iconst (v := (3 : Int32)) hx hb dL_law_722 (by decide) ?_
  refine lv_iadd hx hb dL_law_723 ?_
  refine va_sld hx hb hX hbl hbA hS (ixB_in (by decide +kernel)) dL_law_724 ?_
  refine W.eq (g2 := F0 m 725 ls [.int (xs 3), .int (xs 2), .int (xs 1), .ref y0]) rfl ?_
  obtain ⟨r, hcx, hck⟩ := z_chance (xs 1) (xs 2) (xs 3)
  refine gcL (ws' := (wK G k0 k1 k2 k3 k4 k5 k6 k7 k8 k9 k10 k11 k12 k13 k14 k15 k16 k17 k18 k19 k20 k21 k22 k23)) (va_runV (As := [.int (xs 1), .int (xs 2), .int (xs 3)]) (rest := []) ⟨hx, hb, hml, hown, htsL⟩ (c_X11_chance (l := l) (D := D) (G := G) (sz := H.size) (a_p0 := y0) (a_p0_rules := y1) (a_p0_state := y7) (a_p0_tape := y13) (a_p0_reader := y15) (a_p0_kitchen := y29) (a_p0_luck := y33) (a_p0_plans := y37) (a_p0_coups := y40) (a_p0_past := y41) (a_p0_fairDays := y43) (a_p0_images := y50) (a_p0_imageHeld := y51) (a_p0_sheets := y52) (a_p0_rules_need := y2) (a_p0_rules_kind := y3) (a_p0_rules_first := y4) (a_p0_rules_second := y5) (a_p0_rules_after := y6) (i_p0_latestFault := (0 : Int32)) (i_p0_latestTear := (0 : Int32)) (i_p0_rules_seats := (4 : Int32)) (i_p0_rules_stirs := (0 : Int32)) (x1 := (xs 1)) (x2 := (xs 2)) (x3 := (xs 3)) (r := r) (hf := hcx)) (cwV 3 htsL gL_law_X11_chance rfl rfl rfl (by decide +kernel) ⟨(Nat.le_of_ble_eq_true rfl), (Nat.le_of_ble_eq_true rfl)⟩) (preG_V (ci := 11) (hP.sub [0, 1] rfl) (hD.sub [0, 1] rfl rfl) hK rfl rfl) rfl rfl hl.1 rfl (lv_room (Nat.le_of_ble_eq_true rfl)) dL_law_725 ⟨(Nat.le_of_ble_eq_true rfl), (Nat.le_of_ble_eq_true rfl)⟩) hP hD hS hA [0, 1] [73, 74, 75, 76, 77, 78, 79, 80, 81, 82, 83, 84, 85, 86, 87, 88, 89, 90, 91, 92, 93, 94, 95, 96] [0, 1, 2, 3, 4, 5, 6, 7, 8, 9, 10, 11, 12, 13, 14, 15, 16, 17, 18, 19, 20, 21, 22, 23] rfl rfl rfl (by decide) rfl rfl rfl (fun H locs hP hD hS => ?_)
  refine lv_aload_n hx hb dL_law_728 rfl (lv_at hl 1 rfl) ?_
  refine lv_aload_n hx hb dL_law_729 rfl (lv_at hl 3 rfl) ?_
  refine lv_iload_n hx hb dL_law_730 rfl (lv_at hl 0 rfl) ?_
  refine lv_iconst (v := (1 : Int32)) hx hb dL_law_731 (by decide) ?_
  refine lv_iadd hx hb dL_law_732 ?_
  refine va_sld hx hb hX hbl hbA hS (ixB_in (by decide +kernel)) dL_law_733 ?_
  refine W.eq (g2 := F0 m 734 ls [.int (xs 1), .ref k0, .long r]) rfl ?_
  refine lv_aload_n hx hb dL_law_734 rfl (lv_at hl 3 rfl) ?_
  refine lv_iload_n hx hb dL_law_735 rfl (lv_at hl 0 rfl) ?_
  refine lv_iconst (v := (2 : Int32)) hx hb dL_law_736 (by decide) ?_
  refine lv_iadd hx hb dL_law_737 ?_
  refine va_sld hx hb hX hbl hbA hS (ixB_in (by decide +kernel)) dL_law_738 ?_
  refine W.eq (g2 := F0 m 739 ls [.int (xs 2), .int (xs 1), .ref k0, .long r]) rfl ?_
  refine lv_aload_n hx hb dL_law_739 rfl (lv_at hl 3 rfl) ?_
  refine lv_iload_n hx hb dL_law_740 rfl (lv_at hl 0 rfl) ?_
  refine lv_iconst (v := (3 : Int32)) hx hb dL_law_741 (by decide) ?_
  refine lv_iadd hx hb dL_law_742 ?_
  refine va_sld hx hb hX hbl hbA hS (ixB_in (by decide +kernel)) dL_law_743 ?_
  refine W.eq (g2 := F0 m 744 ls [.int (xs 3), .int (xs 2), .int (xs 1), .ref k0, .long r]) rfl ?_
  refine gcL (ws' := []) (va_runV (As := [.int (xs 1), .int (xs 2), .int (xs 3)]) (rest := [.long r]) ⟨hx, hb, hml, hown, htsL⟩ (c_X12_chance (l := l) (D := D) (G := G) (sz := H.size) (a_p0 := k0) (a_p0_st := k1) (a_p0_isKept := k2) (a_p0_brings := k3) (a_p0_need := k4) (a_p0_draft := k5) (a_p0_dStir := k6) (a_p0_dNeed := k7) (a_p0_tape := k8) (a_p0_places := k9) (a_p0_stirred := k10) (a_p0_ways := k11) (a_p0_waysThen := k12) (a_p0_stays := k13) (a_p0_fewest := k14) (a_p0_bowls := k15) (a_p0_has := k16) (a_p0_goesOn := k17) (a_p0_isThere := k18) (a_p0_isThereThen := k19) (a_p0_bestRow := k20) (a_p0_lanes := k21) (a_p0_sizes := k22) (a_p0_cells := k23) (i_p0_seats := u_X12_init215_0) (i_p0_stirs := u_X12_init215_1) (i_p0_dSeats := u_X12_init211_0) (i_p0_dStirs := u_X12_init211_1) (i_p0_told := u_X12_init211_2) (i_p0_highest := u_X12_init211_3) (i_p0_taped := (0 : Int32)) (i_p0_pos := (0 : Int32)) (i_p0_from := (0 : Int32)) (i_p0_sort := (0 : Int32)) (i_p0_value := (0 : Int32)) (i_p0_fault := (0 : Int32)) (i_p0_wrongAt := (0 : Int32)) (i_p0_torn := (0 : Int32)) (x1 := (xs 1)) (x2 := (xs 2)) (x3 := (xs 3)) (r := r) (hf := hck)) (cwV 3 htsL gL_law_X12_chance rfl rfl rfl (by decide +kernel) ⟨(Nat.le_of_ble_eq_true rfl), (Nat.le_of_ble_eq_true rfl)⟩) (preG_V (ci := 12) (hP.sub [0] rfl) (hD.sub [0] rfl rfl) hK rfl rfl) rfl rfl hl.1 rfl (lv_room (Nat.le_of_ble_eq_true rfl)) dL_law_744 ⟨(Nat.le_of_ble_eq_true rfl), (Nat.le_of_ble_eq_true rfl)⟩) hP hD hS hA [0] [] [] rfl rfl rfl (by decide) rfl rfl rfl (fun H locs hP hD hS => ?_)
  refine W.lcmp hx hb dL_law_747 ?_
  refine lv_if_eq (tgt := 1309) hx hb dL_law_748 (by decide) (fun _ => ?_) (fun cc => absurd (lg_cmp_rr r) cc)
  exact law_end C0 hAf hS ls hl
set_option maxHeartbeats 8000000 in
set_option maxRecDepth 100000 in
theorem lc_18 {p : Program} {l : Launch} {e : Env} {s : State} {m : MethodId} {below : List Frame} {meth : Method} {c : Code} {b : Nat} {xs : Nat → Int32} {A : Nat → Prop} {D : va_G} {G : Nat → ClassId} {H : Heap} {locs : List Loc} {y0 y1 y2 y3 y4 y5 y6 y7 y8 y9 y10 y11 y12 y13 y14 y15 y16 y17 y18 y19 y20 y21 y22 y23 y24 y25 y26 y27 y28 y29 y30 y31 y32 y33 y34 y35 y36 y37 y38 y39 y40 y41 y42 y43 y44 y45 y46 y47 y48 y49 y50 y51 y52 y53 y54 y55 y56 y57 y58 y59 y60 y61 y62 y63 y64 y65 y66 y67 y68 y69 y70 y71 y72 k0 k1 k2 k3 k4 k5 k6 k7 k8 k9 k10 k11 k12 k13 k14 k15 k16 k17 k18 k19 k20 k21 k22 k23 : Nat} (C0 : lw_At p s m meth c b 5 xs) (hA : ∀ q, s.heap.size ≤ q → A q) (hAf : ∀ q, A q → s.heap.size ≤ q) (hK : va_K D vwCl (tyG G) s) (hP : va_P D vwCl (wF G y0 y1 y2 y3 y4 y5 y6 y7 y8 y9 y10 y11 y12 y13 y14 y15 y16 y17 y18 y19 y20 y21 y22 y23 y24 y25 y26 y27 y28 y29 y30 y31 y32 y33 y34 y35 y36 y37 y38 y39 y40 y41 y42 y43 y44 y45 y46 y47 y48 y49 y50 y51 y52 y53 y54 y55 y56 y57 y58 y59 y60 y61 y62 y63 y64 y65 y66 y67 y68 y69 y70 y71 y72 k0 k1 k2 k3 k4 k5 k6 k7 k8 k9 k10 k11 k12 k13 k14 k15 k16 k17 k18 k19 k20 k21 k22 k23) H) (hD : va_D A (wF G y0 y1 y2 y3 y4 y5 y6 y7 y8 y9 y10 y11 y12 y13 y14 y15 y16 y17 y18 y19 y20 y21 y22 y23 y24 y25 y26 y27 y28 y29 y30 y31 y32 y33 y34 y35 y36 y37 y38 y39 y40 y41 y42 y43 y44 y45 y46 y47 y48 y49 y50 y51 y52 y53 y54 y55 y56 y57 y58 y59 y60 y61 y62 y63 y64 y65 y66 y67 y68 y69 y70 y71 y72 k0 k1 k2 k3 k4 k5 k6 k7 k8 k9 k10 k11 k12 k13 k14 k15 k16 k17 k18 k19 k20 k21 k22 k23)) (hS : va_S A s.heap H locs) (ls : Array Slot) (hl : lv_has ls 4 [(3, .int (0 : Int32)), (2, .ref k0), (1, .ref y0), (0, .ref b)]) : W p l e room_1 s m #[Value.ref b] below meth c H locs 600000 7302250 (lw_Z below #[Value.ref b] s) (F0 m 753 ls []) := by
  obtain ⟨hx, hb, hr, hml, hown, hts, hX, hbl, hlocks, hgv⟩ := id C0
  have hbA : ¬ A b := fun h => absurd (hAf b h) (Nat.not_le.mpr hbl)
  have hown : s.vm.findClass RL = some m.cls := hown
  have htsL : ∀ w ∈ wsL_law, w.before #[Value.ref b] s = true := fun w h => hts w (wsL_law_in w h)
  refine lv_aload_n hx hb dL_law_753 rfl (lv_at hl 2 rfl) ?_
  refine lv_aload_n hx hb dL_law_754 rfl (lv_at hl 3 rfl) ?_
  refine lv_iload_n hx hb dL_law_755 rfl (lv_at hl 0 rfl) ?_
  refine lv_iconst (v := (1 : Int32)) hx hb dL_law_756 (by decide) ?_
  refine lv_iadd hx hb dL_law_757 ?_
  refine va_sld hx hb hX hbl hbA hS (ixB_in (by decide +kernel)) dL_law_758 ?_
  refine W.eq (g2 := F0 m 759 ls [.int (xs 1), .ref y0]) rfl ?_
  refine lv_aload_n hx hb dL_law_759 rfl (lv_at hl 3 rfl) ?_
  refine lv_iload_n hx hb dL_law_760 rfl (lv_at hl 0 rfl) ?_
  refine lv_iconst (v := (2 : Int32)) hx hb dL_law_761 (by decide) ?_
  refine lv_iadd hx hb dL_law_762 ?_
  refine va_sld hx hb hX hbl hbA hS (ixB_in (by decide +kernel)) dL_law_763 ?_
  refine W.eq (g2 := F0 m 764 ls [.int (xs 2), .int (xs 1), .ref y0]) rfl ?_
  obtain ⟨r, hcx, hck⟩ := z_lasts (xs 1) (xs 2)
  refine gcL (ws' := (wK G k0 k1 k2 k3 k4 k5 k6 k7 k8 k9 k10 k11 k12 k13 k14 k15 k16 k17 k18 k19 k20 k21 k22 k23)) (va_runV (As := [.int (xs 1), .int (xs 2)]) (rest := []) ⟨hx, hb, hml, hown, htsL⟩ (c_X11_lasts (l := l) (D := D) (G := G) (sz := H.size) (a_p0 := y0) (a_p0_rules := y1) (a_p0_state := y7) (a_p0_tape := y13) (a_p0_reader := y15) (a_p0_kitchen := y29) (a_p0_luck := y33) (a_p0_plans := y37) (a_p0_coups := y40) (a_p0_past := y41) (a_p0_fairDays := y43) (a_p0_images := y50) (a_p0_imageHeld := y51) (a_p0_sheets := y52) (a_p0_rules_need := y2) (a_p0_rules_kind := y3) (a_p0_rules_first := y4) (a_p0_rules_second := y5) (a_p0_rules_after := y6) (i_p0_latestFault := (0 : Int32)) (i_p0_latestTear := (0 : Int32)) (i_p0_rules_seats := (4 : Int32)) (i_p0_rules_stirs := (0 : Int32)) (x1 := (xs 1)) (x2 := (xs 2)) (r := r) (hf := hcx)) (cwV 2 htsL gL_law_X11_lasts rfl rfl rfl (by decide +kernel) ⟨(Nat.le_of_ble_eq_true rfl), (Nat.le_of_ble_eq_true rfl)⟩) (preG_V (ci := 11) (hP.sub [0, 1] rfl) (hD.sub [0, 1] rfl rfl) hK rfl rfl) rfl rfl hl.1 rfl (lv_room (Nat.le_of_ble_eq_true rfl)) dL_law_764 ⟨(Nat.le_of_ble_eq_true rfl), (Nat.le_of_ble_eq_true rfl)⟩) hP hD hS hA [0, 1] [73, 74, 75, 76, 77, 78, 79, 80, 81, 82, 83, 84, 85, 86, 87, 88, 89, 90, 91, 92, 93, 94, 95, 96] [0, 1, 2, 3, 4, 5, 6, 7, 8, 9, 10, 11, 12, 13, 14, 15, 16, 17, 18, 19, 20, 21, 22, 23] rfl rfl rfl (by decide) rfl rfl rfl (fun H locs hP hD hS => ?_)
  refine lv_aload_n hx hb dL_law_767 rfl (lv_at hl 1 rfl) ?_
  refine lv_aload_n hx hb dL_law_768 rfl (lv_at hl 3 rfl) ?_
  refine lv_iload_n hx hb dL_law_769 rfl (lv_at hl 0 rfl) ?_
  refine lv_iconst (v := (1 : Int32)) hx hb dL_law_770 (by decide) ?_
  refine lv_iadd hx hb dL_law_771 ?_
  refine va_sld hx hb hX hbl hbA hS (ixB_in (by decide +kernel)) dL_law_772 ?_
  refine W.eq (g2 := F0 m 773 ls [.int (xs 1), .ref k0, .long r]) rfl ?_
  refine lv_aload_n hx hb dL_law_773 rfl (lv_at hl 3 rfl) ?_
  refine lv_iload_n hx hb dL_law_774 rfl (lv_at hl 0 rfl) ?_
  refine lv_iconst (v := (2 : Int32)) hx hb dL_law_775 (by decide) ?_
  refine lv_iadd hx hb dL_law_776 ?_
  refine va_sld hx hb hX hbl hbA hS (ixB_in (by decide +kernel)) dL_law_777 ?_
  refine W.eq (g2 := F0 m 778 ls [.int (xs 2), .int (xs 1), .ref k0, .long r]) rfl ?_
  refine gcL (ws' := []) (va_runV (As := [.int (xs 1), .int (xs 2)]) (rest := [.long r]) ⟨hx, hb, hml, hown, htsL⟩ (c_X12_lasts (l := l) (D := D) (G := G) (sz := H.size) (a_p0 := k0) (a_p0_st := k1) (a_p0_isKept := k2) (a_p0_brings := k3) (a_p0_need := k4) (a_p0_draft := k5) (a_p0_dStir := k6) (a_p0_dNeed := k7) (a_p0_tape := k8) (a_p0_places := k9) (a_p0_stirred := k10) (a_p0_ways := k11) (a_p0_waysThen := k12) (a_p0_stays := k13) (a_p0_fewest := k14) (a_p0_bowls := k15) (a_p0_has := k16) (a_p0_goesOn := k17) (a_p0_isThere := k18) (a_p0_isThereThen := k19) (a_p0_bestRow := k20) (a_p0_lanes := k21) (a_p0_sizes := k22) (a_p0_cells := k23) (i_p0_seats := u_X12_init215_0) (i_p0_stirs := u_X12_init215_1) (i_p0_dSeats := u_X12_init211_0) (i_p0_dStirs := u_X12_init211_1) (i_p0_told := u_X12_init211_2) (i_p0_highest := u_X12_init211_3) (i_p0_taped := (0 : Int32)) (i_p0_pos := (0 : Int32)) (i_p0_from := (0 : Int32)) (i_p0_sort := (0 : Int32)) (i_p0_value := (0 : Int32)) (i_p0_fault := (0 : Int32)) (i_p0_wrongAt := (0 : Int32)) (i_p0_torn := (0 : Int32)) (x1 := (xs 1)) (x2 := (xs 2)) (r := r) (hf := hck)) (cwV 2 htsL gL_law_X12_lasts rfl rfl rfl (by decide +kernel) ⟨(Nat.le_of_ble_eq_true rfl), (Nat.le_of_ble_eq_true rfl)⟩) (preG_V (ci := 12) (hP.sub [0] rfl) (hD.sub [0] rfl rfl) hK rfl rfl) rfl rfl hl.1 rfl (lv_room (Nat.le_of_ble_eq_true rfl)) dL_law_778 ⟨(Nat.le_of_ble_eq_true rfl), (Nat.le_of_ble_eq_true rfl)⟩) hP hD hS hA [0] [] [] rfl rfl rfl (by decide) rfl rfl rfl (fun H locs hP hD hS => ?_)
  refine W.lcmp hx hb dL_law_781 ?_
  refine lv_if_eq (tgt := 1309) hx hb dL_law_782 (by decide) (fun _ => ?_) (fun cc => absurd (lg_cmp_rr r) cc)
  exact law_end C0 hAf hS ls hl
set_option maxHeartbeats 8000000 in
set_option maxRecDepth 100000 in
theorem lc_19 {p : Program} {l : Launch} {e : Env} {s : State} {m : MethodId} {below : List Frame} {meth : Method} {c : Code} {b : Nat} {xs : Nat → Int32} {A : Nat → Prop} {D : va_G} {G : Nat → ClassId} {H : Heap} {locs : List Loc} {y0 y1 y2 y3 y4 y5 y6 y7 y8 y9 y10 y11 y12 y13 y14 y15 y16 y17 y18 y19 y20 y21 y22 y23 y24 y25 y26 y27 y28 y29 y30 y31 y32 y33 y34 y35 y36 y37 y38 y39 y40 y41 y42 y43 y44 y45 y46 y47 y48 y49 y50 y51 y52 y53 y54 y55 y56 y57 y58 y59 y60 y61 y62 y63 y64 y65 y66 y67 y68 y69 y70 y71 y72 k0 k1 k2 k3 k4 k5 k6 k7 k8 k9 k10 k11 k12 k13 k14 k15 k16 k17 k18 k19 k20 k21 k22 k23 : Nat} (C0 : lw_At p s m meth c b 5 xs) (hA : ∀ q, s.heap.size ≤ q → A q) (hAf : ∀ q, A q → s.heap.size ≤ q) (hK : va_K D vwCl (tyG G) s) (hP : va_P D vwCl (wF G y0 y1 y2 y3 y4 y5 y6 y7 y8 y9 y10 y11 y12 y13 y14 y15 y16 y17 y18 y19 y20 y21 y22 y23 y24 y25 y26 y27 y28 y29 y30 y31 y32 y33 y34 y35 y36 y37 y38 y39 y40 y41 y42 y43 y44 y45 y46 y47 y48 y49 y50 y51 y52 y53 y54 y55 y56 y57 y58 y59 y60 y61 y62 y63 y64 y65 y66 y67 y68 y69 y70 y71 y72 k0 k1 k2 k3 k4 k5 k6 k7 k8 k9 k10 k11 k12 k13 k14 k15 k16 k17 k18 k19 k20 k21 k22 k23) H) (hD : va_D A (wF G y0 y1 y2 y3 y4 y5 y6 y7 y8 y9 y10 y11 y12 y13 y14 y15 y16 y17 y18 y19 y20 y21 y22 y23 y24 y25 y26 y27 y28 y29 y30 y31 y32 y33 y34 y35 y36 y37 y38 y39 y40 y41 y42 y43 y44 y45 y46 y47 y48 y49 y50 y51 y52 y53 y54 y55 y56 y57 y58 y59 y60 y61 y62 y63 y64 y65 y66 y67 y68 y69 y70 y71 y72 k0 k1 k2 k3 k4 k5 k6 k7 k8 k9 k10 k11 k12 k13 k14 k15 k16 k17 k18 k19 k20 k21 k22 k23)) (hS : va_S A s.heap H locs) (ls : Array Slot) (hl : lv_has ls 4 [(3, .int (0 : Int32)), (2, .ref k0), (1, .ref y0), (0, .ref b)]) : W p l e room_1 s m #[Value.ref b] below meth c H locs 600000 7302250 (lw_Z below #[Value.ref b] s) (F0 m 787 ls []) := by
  obtain ⟨hx, hb, hr, hml, hown, hts, hX, hbl, hlocks, hgv⟩ := id C0
  have hbA : ¬ A b := fun h => absurd (hAf b h) (Nat.not_le.mpr hbl)
  have hown : s.vm.findClass RL = some m.cls := hown
  have htsL : ∀ w ∈ wsL_law, w.before #[Value.ref b] s = true := fun w h => hts w (wsL_law_in w h)
  refine lv_aload_n hx hb dL_law_787 rfl (lv_at hl 2 rfl) ?_
  refine lv_aload_n hx hb dL_law_788 rfl (lv_at hl 3 rfl) ?_
  refine lv_iload_n hx hb dL_law_789 rfl (lv_at hl 0 rfl) ?_
  refine lv_iconst (v := (1 : Int32)) hx hb dL_law_790 (by decide) ?_
  refine lv_iadd hx hb dL_law_791 ?_
  refine va_sld hx hb hX hbl hbA hS (ixB_in (by decide +kernel)) dL_law_792 ?_
  refine W.eq (g2 := F0 m 793 ls [.int (xs 1), .ref y0]) rfl ?_
  refine lv_aload_n hx hb dL_law_793 rfl (lv_at hl 3 rfl) ?_
  refine lv_iload_n hx hb dL_law_794 rfl (lv_at hl 0 rfl) ?_
  refine lv_iconst (v := (2 : Int32)) hx hb dL_law_795 (by decide) ?_
  refine lv_iadd hx hb dL_law_796 ?_
  refine va_sld hx hb hX hbl hbA hS (ixB_in (by decide +kernel)) dL_law_797 ?_
  refine W.eq (g2 := F0 m 798 ls [.int (xs 2), .int (xs 1), .ref y0]) rfl ?_
  obtain ⟨r, hcx, hck⟩ := z_reign (xs 1) (xs 2)
  refine gcI (ws' := (wK G k0 k1 k2 k3 k4 k5 k6 k7 k8 k9 k10 k11 k12 k13 k14 k15 k16 k17 k18 k19 k20 k21 k22 k23)) (va_runV (As := [.int (xs 1), .int (xs 2)]) (rest := []) ⟨hx, hb, hml, hown, htsL⟩ (c_X11_reign (l := l) (D := D) (G := G) (sz := H.size) (a_p0 := y0) (a_p0_rules := y1) (a_p0_state := y7) (a_p0_tape := y13) (a_p0_reader := y15) (a_p0_kitchen := y29) (a_p0_luck := y33) (a_p0_plans := y37) (a_p0_coups := y40) (a_p0_past := y41) (a_p0_fairDays := y43) (a_p0_images := y50) (a_p0_imageHeld := y51) (a_p0_sheets := y52) (a_p0_rules_need := y2) (a_p0_rules_kind := y3) (a_p0_rules_first := y4) (a_p0_rules_second := y5) (a_p0_rules_after := y6) (i_p0_latestFault := (0 : Int32)) (i_p0_latestTear := (0 : Int32)) (i_p0_rules_seats := (4 : Int32)) (i_p0_rules_stirs := (0 : Int32)) (x1 := (xs 1)) (x2 := (xs 2)) (r := r) (hf := hcx)) (cwV 2 htsL gL_law_X11_reign rfl rfl rfl (by decide +kernel) ⟨(Nat.le_of_ble_eq_true rfl), (Nat.le_of_ble_eq_true rfl)⟩) (preG_V (ci := 11) (hP.sub [0, 1] rfl) (hD.sub [0, 1] rfl rfl) hK rfl rfl) rfl rfl hl.1 rfl (lv_room (Nat.le_of_ble_eq_true rfl)) dL_law_798 ⟨(Nat.le_of_ble_eq_true rfl), (Nat.le_of_ble_eq_true rfl)⟩) hP hD hS hA [0, 1] [73, 74, 75, 76, 77, 78, 79, 80, 81, 82, 83, 84, 85, 86, 87, 88, 89, 90, 91, 92, 93, 94, 95, 96] [0, 1, 2, 3, 4, 5, 6, 7, 8, 9, 10, 11, 12, 13, 14, 15, 16, 17, 18, 19, 20, 21, 22, 23] rfl rfl rfl (by decide) rfl rfl rfl (fun H locs hP hD hS => ?_)
  refine lv_aload_n hx hb dL_law_801 rfl (lv_at hl 1 rfl) ?_
  refine lv_aload_n hx hb dL_law_802 rfl (lv_at hl 3 rfl) ?_
  refine lv_iload_n hx hb dL_law_803 rfl (lv_at hl 0 rfl) ?_
  refine lv_iconst (v := (1 : Int32)) hx hb dL_law_804 (by decide) ?_
  refine lv_iadd hx hb dL_law_805 ?_
  refine va_sld hx hb hX hbl hbA hS (ixB_in (by decide +kernel)) dL_law_806 ?_
  refine W.eq (g2 := F0 m 807 ls [.int (xs 1), .ref k0, .int r]) rfl ?_
  refine lv_aload_n hx hb dL_law_807 rfl (lv_at hl 3 rfl) ?_
  refine lv_iload_n hx hb dL_law_808 rfl (lv_at hl 0 rfl) ?_
  refine lv_iconst (v := (2 : Int32)) hx hb dL_law_809 (by decide) ?_
  refine lv_iadd hx hb dL_law_810 ?_
  refine va_sld hx hb hX hbl hbA hS (ixB_in (by decide +kernel)) dL_law_811 ?_
  refine W.eq (g2 := F0 m 812 ls [.int (xs 2), .int (xs 1), .ref k0, .int r]) rfl ?_
  refine gcI (ws' := []) (va_runV (As := [.int (xs 1), .int (xs 2)]) (rest := [.int r]) ⟨hx, hb, hml, hown, htsL⟩ (c_X12_reign (l := l) (D := D) (G := G) (sz := H.size) (a_p0 := k0) (a_p0_st := k1) (a_p0_isKept := k2) (a_p0_brings := k3) (a_p0_need := k4) (a_p0_draft := k5) (a_p0_dStir := k6) (a_p0_dNeed := k7) (a_p0_tape := k8) (a_p0_places := k9) (a_p0_stirred := k10) (a_p0_ways := k11) (a_p0_waysThen := k12) (a_p0_stays := k13) (a_p0_fewest := k14) (a_p0_bowls := k15) (a_p0_has := k16) (a_p0_goesOn := k17) (a_p0_isThere := k18) (a_p0_isThereThen := k19) (a_p0_bestRow := k20) (a_p0_lanes := k21) (a_p0_sizes := k22) (a_p0_cells := k23) (i_p0_seats := u_X12_init215_0) (i_p0_stirs := u_X12_init215_1) (i_p0_dSeats := u_X12_init211_0) (i_p0_dStirs := u_X12_init211_1) (i_p0_told := u_X12_init211_2) (i_p0_highest := u_X12_init211_3) (i_p0_taped := (0 : Int32)) (i_p0_pos := (0 : Int32)) (i_p0_from := (0 : Int32)) (i_p0_sort := (0 : Int32)) (i_p0_value := (0 : Int32)) (i_p0_fault := (0 : Int32)) (i_p0_wrongAt := (0 : Int32)) (i_p0_torn := (0 : Int32)) (x1 := (xs 1)) (x2 := (xs 2)) (r := r) (hf := hck)) (cwV 2 htsL gL_law_X12_reign rfl rfl rfl (by decide +kernel) ⟨(Nat.le_of_ble_eq_true rfl), (Nat.le_of_ble_eq_true rfl)⟩) (preG_V (ci := 12) (hP.sub [0] rfl) (hD.sub [0] rfl rfl) hK rfl rfl) rfl rfl hl.1 rfl (lv_room (Nat.le_of_ble_eq_true rfl)) dL_law_812 ⟨(Nat.le_of_ble_eq_true rfl), (Nat.le_of_ble_eq_true rfl)⟩) hP hD hS hA [0] [] [] rfl rfl rfl (by decide) rfl rfl rfl (fun H locs hP hD hS => ?_)
  refine lv_icmp_eq (tgt := 1309) hx hb dL_law_815 (by decide) (fun _ => ?_) (fun cc => absurd rfl cc)
  exact law_end C0 hAf hS ls hl
