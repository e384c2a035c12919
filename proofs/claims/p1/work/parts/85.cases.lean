set_option maxHeartbeats 8000000 in
set_option maxRecDepth 100000 in
theorem lc_20 {p : Program} {l : Launch} {e : Env} {s : State} {m : MethodId} {below : List Frame} {meth : Method} {c : Code} {b : Nat} {xs : Nat → Int32} {A : Nat → Prop} {D : va_G} {G : Nat → ClassId} {H : Heap} {locs : List Loc} {y0 y1 y2 y3 y4 y5 y6 y7 y8 y9 y10 y11 y12 y13 y14 y15 y16 y17 y18 y19 y20 y21 y22 y23 y24 y25 y26 y27 y28 y29 y30 y31 y32 y33 y34 y35 y36 y37 y38 y39 y40 y41 y42 y43 y44 y45 y46 y47 y48 y49 y50 y51 y52 y53 y54 y55 y56 y57 y58 y59 y60 y61 y62 y63 y64 y65 y66 y67 y68 y69 y70 y71 y72 k0 k1 k2 k3 k4 k5 k6 k7 k8 k9 k10 k11 k12 k13 k14 k15 k16 k17 k18 k19 k20 k21 k22 k23 : Nat} (C0 : lw_At p s m meth c b 5 xs) (hA : ∀ q, s.heap.size ≤ q → A q) (hAf : ∀ q, A q → s.heap.size ≤ q) (hK : va_K D vwCl (tyG G) s) (hP : va_P D vwCl (wF G y0 y1 y2 y3 y4 y5 y6 y7 y8 y9 y10 y11 y12 y13 y14 y15 y16 y17 y18 y19 y20 y21 y22 y23 y24 y25 y26 y27 y28 y29 y30 y31 y32 y33 y34 y35 y36 y37 y38 y39 y40 y41 y42 y43 y44 y45 y46 y47 y48 y49 y50 y51 y52 y53 y54 y55 y56 y57 y58 y59 y60 y61 y62 y63 y64 y65 y66 y67 y68 y69 y70 y71 y72 k0 k1 k2 k3 k4 k5 k6 k7 k8 k9 k10 k11 k12 k13 k14 k15 k16 k17 k18 k19 k20 k21 k22 k23) H) (hD : va_D A (wF G y0 y1 y2 y3 y4 y5 y6 y7 y8 y9 y10 y11 y12 y13 y14 y15 y16 y17 y18 y19 y20 y21 y22 y23 y24 y25 y26 y27 y28 y29 y30 y31 y32 y33 y34 y35 y36 y37 y38 y39 y40 y41 y42 y43 y44 y45 y46 y47 y48 y49 y50 y51 y52 y53 y54 y55 y56 y57 y58 y59 y60 y61 y62 y63 y64 y65 y66 y67 y68 y69 y70 y71 y72 k0 k1 k2 k3 k4 k5 k6 k7 k8 k9 k10 k11 k12 k13 k14 k15 k16 k17 k18 k19 k20 k21 k22 k23)) (hS : va_S A s.heap H locs) (ls : Array Slot) (hl : lv_has ls 4 [(3, .int (0 : Int32)), (2, .ref k0), (1, .ref y0), (0, .ref b)]) : W p l e room_1 s m #[Value.ref b] below meth c H locs 600000 7302250 (lw_Z below #[Value.ref b] s) (F0 m 820 ls []) := by
  obtain ⟨hx, hb, hr, hml, hown, hts, hX, hbl, hlocks, hgv⟩ := id C0
  have hbA : ¬ A b := fun h => absurd (hAf b h) (Nat.not_le.mpr hbl)
  have hown : s.vm.findClass RL = some m.cls := hown
  have htsL : ∀ w ∈ wsL_law, w.before #[Value.ref b] s = true := fun w h => hts w (wsL_law_in w h)
  refine lv_aload_n hx hb dL_law_820 rfl (lv_at hl 2 rfl) ?_
  refine lv_aload_n hx hb dL_law_821 rfl (lv_at hl 3 rfl) ?_
  refine lv_iload_n hx hb dL_law_822 rfl (lv_at hl 0 rfl) ?_
  refine lv_iconst (v := (1 : Int32)) hx hb dL_law_823 (by decide) ?_
  refine lv_iadd hx hb dL_law_824 ?_
  refine va_sld hx hb hX hbl hbA hS (ixB_in (by decide +kernel)) dL_law_825 ?_
  refine W.eq (g2 := F0 m 826 ls [.int (xs 1), .ref y0]) rfl ?_
  refine lv_aload_n hx hb dL_law_826 rfl (lv_at hl 3 rfl) ?_
  refine lv_iload_n hx hb dL_law_827 rfl (lv_at hl 0 rfl) ?_
  refine lv_iconst (v := (2 : Int32)) hx hb dL_law_828 (by decide) ?_
  refine lv_iadd hx hb dL_law_829 ?_
  refine va_sld hx hb hX hbl hbA hS (ixB_in (by decide +kernel)) dL_law_830 ?_
  refine W.eq (g2 := F0 m 831 ls [.int (xs 2), .int (xs 1), .ref y0]) rfl ?_
  obtain ⟨r, hcx, hck⟩ := z_raise (xs 1) (xs 2)
  refine gcI (ws' := (wK G k0 k1 k2 k3 k4 k5 k6 k7 k8 k9 k10 k11 k12 k13 k14 k15 k16 k17 k18 k19 k20 k21 k22 k23)) (va_runV (As := [.int (xs 1), .int (xs 2)]) (rest := []) ⟨hx, hb, hml, hown, htsL⟩ (c_X11_raise (l := l) (D := D) (G := G) (sz := H.size) (a_p0 := y0) (a_p0_rules := y1) (a_p0_state := y7) (a_p0_tape := y13) (a_p0_reader := y15) (a_p0_kitchen := y29) (a_p0_luck := y33) (a_p0_plans := y37) (a_p0_coups := y40) (a_p0_past := y41) (a_p0_fairDays := y43) (a_p0_images := y50) (a_p0_imageHeld := y51) (a_p0_sheets := y52) (a_p0_rules_need := y2) (a_p0_rules_kind := y3) (a_p0_rules_first := y4) (a_p0_rules_second := y5) (a_p0_rules_after := y6) (i_p0_latestFault := (0 : Int32)) (i_p0_latestTear := (0 : Int32)) (i_p0_rules_seats := (4 : Int32)) (i_p0_rules_stirs := (0 : Int32)) (x1 := (xs 1)) (x2 := (xs 2)) (r := r) (hf := hcx)) (cwV 2 htsL gL_law_X11_raise rfl rfl rfl (by decide +kernel) ⟨(Nat.le_of_ble_eq_true rfl), (Nat.le_of_ble_eq_true rfl)⟩) (preG_V (ci := 11) (hP.sub [0, 1] rfl) (hD.sub [0, 1] rfl rfl) hK rfl rfl) rfl rfl hl.1 rfl (lv_room (Nat.le_of_ble_eq_true rfl)) dL_law_831 ⟨(Nat.le_of_ble_eq_true rfl), (Nat.le_of_ble_eq_true rfl)⟩) hP hD hS hA [0, 1] [73, 74, 75, 76, 77, 78, 79, 80, 81, 82, 83, 84, 85, 86, 87, 88, 89, 90, 91, 92, 93, 94, 95, 96] [0, 1, 2, 3, 4, 5, 6, 7, 8, 9, 10, 11, 12, 13, 14, 15, 16, 17, 18, 19, 20, 21, 22, 23] rfl rfl rfl (by decide) rfl rfl rfl (fun H locs hP hD hS => ?_)
  refine lv_aload_n hx hb dL_law_834 rfl (lv_at hl 1 rfl) ?_
  refine lv_aload_n hx hb dL_law_835 rfl (lv_at hl 3 rfl) ?_
  refine lv_iload_n hx hb dL_law_836 rfl (lv_at hl 0 rfl) ?_
  refine lv_iconst (v := (1 : Int32)) hx hb dL_law_837 (by decide) ?_
  refine lv_iadd hx hb dL_law_838 ?_
  refine va_sld hx hb hX hbl hbA hS (ixB_in (by decide +kernel)) dL_law_839 ?_
  refine W.eq (g2 := F0 m 840 ls [.int (xs 1), .ref k0, .int r]) rfl ?_
  refine lv_aload_n hx hb dL_law_840 rfl (lv_at hl 3 rfl) ?_
  refine lv_iload_n hx hb dL_law_841 rfl (lv_at hl 0 rfl) ?_
  refine lv_iconst (v := (2 : Int32)) hx hb dL_law_842 (by decide) ?_
  refine lv_iadd hx hb dL_law_843 ?_
  refine va_sld hx hb hX hbl hbA hS (ixB_in (by decide +kernel)) dL_law_844 ?_
  refine W.eq (g2 := F0 m 845 ls [.int (xs 2), .int (xs 1), .ref k0, .int r]) rfl ?_
  refine gcI (ws' := []) (va_runV (As := [.int (xs 1), .int (xs 2)]) (rest := [.int r]) ⟨hx, hb, hml, hown, htsL⟩ (c_X12_raise (l := l) (D := D) (G := G) (sz := H.size) (a_p0 := k0) (a_p0_st := k1) (a_p0_isKept := k2) (a_p0_brings := k3) (a_p0_need := k4) (a_p0_draft := k5) (a_p0_dStir := k6) (a_p0_dNeed := k7) (a_p0_tape := k8) (a_p0_places := k9) (a_p0_stirred := k10) (a_p0_ways := k11) (a_p0_waysThen := k12) (a_p0_stays := k13) (a_p0_fewest := k14) (a_p0_bowls := k15) (a_p0_has := k16) (a_p0_goesOn := k17) (a_p0_isThere := k18) (a_p0_isThereThen := k19) (a_p0_bestRow := k20) (a_p0_lanes := k21) (a_p0_sizes := k22) (a_p0_cells := k23) (i_p0_seats := u_X12_init215_0) (i_p0_stirs := u_X12_init215_1) (i_p0_dSeats := u_X12_init211_0) (i_p0_dStirs := u_X12_init211_1) (i_p0_told := u_X12_init211_2) (i_p0_highest := u_X12_init211_3) (i_p0_taped := (0 : Int32)) (i_p0_pos := (0 : Int32)) (i_p0_from := (0 : Int32)) (i_p0_sort := (0 : Int32)) (i_p0_value := (0 : Int32)) (i_p0_fault := (0 : Int32)) (i_p0_wrongAt := (0 : Int32)) (i_p0_torn := (0 : Int32)) (x1 := (xs 1)) (x2 := (xs 2)) (r := r) (hf := hck)) (cwV 2 htsL gL_law_X12_raise rfl rfl rfl (by decide +kernel) ⟨(Nat.le_of_ble_eq_true rfl), (Nat.le_of_ble_eq_true rfl)⟩) (preG_V (ci := 12) (hP.sub [0] rfl) (hD.sub [0] rfl rfl) hK rfl rfl) rfl rfl hl.1 rfl (lv_room (Nat.le_of_ble_eq_true rfl)) dL_law_845 ⟨(Nat.le_of_ble_eq_true rfl), (Nat.le_of_ble_eq_true rfl)⟩) hP hD hS hA [0] [] [] rfl rfl rfl (by decide) rfl rfl rfl (fun H locs hP hD hS => ?_)
  refine lv_icmp_eq (tgt := 1309) hx hb dL_law_848 (by decide) (fun _ => ?_) (fun cc => absurd rfl cc)
  exact law_end C0 hAf hS ls hl
set_option maxHeartbeats 8000000 in
set_option maxRecDepth 100000 in
theorem lc_21 {p : Program} {l : Launch} {e : Env} {s : State} {m : MethodId} {below : List Frame} {meth : Method} {c : Code} {b : Nat} {xs : Nat → Int32} {A : Nat → Prop} {D : va_G} {G : Nat → ClassId} {H : Heap} {locs : List Loc} {y0 y1 y2 y3 y4 y5 y6 y7 y8 y9 y10 y11 y12 y13 y14 y15 y16 y17 y18 y19 y20 y21 y22 y23 y24 y25 y26 y27 y28 y29 y30 y31 y32 y33 y34 y35 y36 y37 y38 y39 y40 y41 y42 y43 y44 y45 y46 y47 y48 y49 y50 y51 y52 y53 y54 y55 y56 y57 y58 y59 y60 y61 y62 y63 y64 y65 y66 y67 y68 y69 y70 y71 y72 k0 k1 k2 k3 k4 k5 k6 k7 k8 k9 k10 k11 k12 k13 k14 k15 k16 k17 k18 k19 k20 k21 k22 k23 : Nat} (C0 : lw_At p s m meth c b 5 xs) (hA : ∀ q, s.heap.size ≤ q → A q) (hAf : ∀ q, A q → s.heap.size ≤ q) (hK : va_K D vwCl (tyG G) s) (hP : va_P D vwCl (wF G y0 y1 y2 y3 y4 y5 y6 y7 y8 y9 y10 y11 y12 y13 y14 y15 y16 y17 y18 y19 y20 y21 y22 y23 y24 y25 y26 y27 y28 y29 y30 y31 y32 y33 y34 y35 y36 y37 y38 y39 y40 y41 y42 y43 y44 y45 y46 y47 y48 y49 y50 y51 y52 y53 y54 y55 y56 y57 y58 y59 y60 y61 y62 y63 y64 y65 y66 y67 y68 y69 y70 y71 y72 k0 k1 k2 k3 k4 k5 k6 k7 k8 k9 k10 k11 k12 k13 k14 k15 k16 k17 k18 k19 k20 k21 k22 k23) H) (hD : va_D A (wF G y0 y1 y2 y3 y4 y5 y6 y7 y8 y9 y10 y11 y12 y13 y14 y15 y16 y17 y18 y19 y20 y21 y22 y23 y24 y25 y26 y27 y28 y29 y30 y31 y32 y33 y34 y35 y36 y37 y38 y39 y40 y41 y42 y43 y44 y45 y46 y47 y48 y49 y50 y51 y52 y53 y54 y55 y56 y57 y58 y59 y60 y61 y62 y63 y64 y65 y66 y67 y68 y69 y70 y71 y72 k0 k1 k2 k3 k4 k5 k6 k7 k8 k9 k10 k11 k12 k13 k14 k15 k16 k17 k18 k19 k20 k21 k22 k23)) (hS : va_S A s.heap H locs) (ls : Array Slot) (hl : lv_has ls 4 [(3, .int (0 : Int32)), (2, .ref k0), (1, .ref y0), (0, .ref b)]) : W p l e room_1 s m #[Value.ref b] below meth c H locs 600000 7302250 (lw_Z below #[Value.ref b] s) (F0 m 853 ls []) := by
  obtain ⟨hx, hb, hr, hml, hown, hts, hX, hbl, hlocks, hgv⟩ := id C0
  have hbA : ¬ A b := fun h => absurd (hAf b h) (Nat.not_le.mpr hbl)
  have hown : s.vm.findClass RL = some m.cls := hown
  have htsL : ∀ w ∈ wsL_law, w.before #[Value.ref b] s = true := fun w h => hts w (wsL_law_in w h)
  refine lv_aload_n hx hb dL_law_853 rfl (lv_at hl 2 rfl) ?_
  refine lv_aload_n hx hb dL_law_854 rfl (lv_at hl 3 rfl) ?_
  refine lv_iload_n hx hb dL_law_855 rfl (lv_at hl 0 rfl) ?_
  refine lv_iconst (v := (1 : Int32)) hx hb dL_law_856 (by decide) ?_
  refine lv_iadd hx hb dL_law_857 ?_
  refine va_sld hx hb hX hbl hbA hS (ixB_in (by decide +kernel)) dL_law_858 ?_
  refine W.eq (g2 := F0 m 859 ls [.int (xs 1), .ref y0]) rfl ?_
  refine lv_aload_n hx hb dL_law_859 rfl (lv_at hl 3 rfl) ?_
  refine lv_iload_n hx hb dL_law_860 rfl (lv_at hl 0 rfl) ?_
  refine lv_iconst (v := (2 : Int32)) hx hb dL_law_861 (by decide) ?_
  refine lv_iadd hx hb dL_law_862 ?_
  refine va_sld hx hb hX hbl hbA hS (ixB_in (by decide +kernel)) dL_law_863 ?_
  refine W.eq (g2 := F0 m 864 ls [.int (xs 2), .int (xs 1), .ref y0]) rfl ?_
  refine lv_aload_n hx hb dL_law_864 rfl (lv_at hl 3 rfl) ?_
  refine lv_iload_n hx hb dL_law_865 rfl (lv_at hl 0 rfl) ?_
  refine lv_iconst (v := (3 : Int32)) hx hb dL_law_866 (by decide) ?_
  refine lv_iadd hx hb dL_law_867 ?_
  refine va_sld hx hb hX hbl hbA hS (ixB_in (by decide +kernel)) dL_law_868 ?_
  refine W.eq (g2 := F0 m 869 ls [.int (xs 3), .int (xs 2), .int (xs 1), .ref y0]) rfl ?_
  obtain ⟨r, hcx, hck⟩ := z_coup (xs 1) (xs 2) (xs 3)
  refine gcI (ws' := (wK G k0 k1 k2 k3 k4 k5 k6 k7 k8 k9 k10 k11 k12 k13 k14 k15 k16 k17 k18 k19 k20 k21 k22 k23)) (va_runV (As := [.int (xs 1), .int (xs 2), .int (xs 3)]) (rest := []) ⟨hx, hb, hml, hown, htsL⟩ (c_X11_coup (l := l) (D := D) (G := G) (sz := H.size) (a_p0 := y0) (a_p0_rules := y1) (a_p0_state := y7) (a_p0_tape := y13) (a_p0_reader := y15) (a_p0_kitchen := y29) (a_p0_luck := y33) (a_p0_plans := y37) (a_p0_coups := y40) (a_p0_past := y41) (a_p0_fairDays := y43) (a_p0_images := y50) (a_p0_imageHeld := y51) (a_p0_sheets := y52) (a_p0_rules_need := y2) (a_p0_rules_kind := y3) (a_p0_rules_first := y4) (a_p0_rules_second := y5) (a_p0_rules_after := y6) (i_p0_latestFault := (0 : Int32)) (i_p0_latestTear := (0 : Int32)) (i_p0_rules_seats := (4 : Int32)) (i_p0_rules_stirs := (0 : Int32)) (x1 := (xs 1)) (x2 := (xs 2)) (x3 := (xs 3)) (r := r) (hf := hcx)) (cwV 3 htsL gL_law_X11_coup rfl rfl rfl (by decide +kernel) ⟨(Nat.le_of_ble_eq_true rfl), (Nat.le_of_ble_eq_true rfl)⟩) (preG_V (ci := 11) (hP.sub [0, 1] rfl) (hD.sub [0, 1] rfl rfl) hK rfl rfl) rfl rfl hl.1 rfl (lv_room (Nat.le_of_ble_eq_true rfl)) dL_law_869 ⟨(Nat.le_of_ble_eq_true rfl), (Nat.le_of_ble_eq_true rfl)⟩) hP hD hS hA [0, 1] [73, 74, 75, 76, 77, 78, 79, 80, 81, 82, 83, 84, 85, 86, 87, 88, 89, 90, 91, 92, 93, 94, 95, 96] [0, 1, 2, 3, 4, 5, 6, 7, 8, 9, 10, 11, 12, 13, 14, 15, 16, 17, 18, 19, 20, 21, 22, 23] rfl rfl rfl (by decide) rfl rfl rfl (fun H locs hP hD hS => ?_)
  refine lv_aload_n hx hb dL_law_872 rfl (lv_at hl 1 rfl) ?_
  refine lv_aload_n hx hb dL_law_873 rfl (lv_at hl 3 rfl) ?_
  refine lv_iload_n hx hb dL_law_874 rfl (lv_at hl 0 rfl) ?_
  refine lv_iconst (v := (1 : Int32)) hx hb dL_law_875 (by decide) ?_
  refine lv_iadd hx hb dL_law_876 ?_
  refine va_sld hx hb hX hbl hbA hS (ixB_in (by decide +kernel)) dL_law_877 ?_
  refine W.eq (g2 := F0 m 878 ls [.int (xs 1), .ref k0, .int r]) rfl ?_
  refine lv_aload_n hx hb dL_law_878 rfl (lv_at hl 3 rfl) ?_
  refine lv_iload_n hx hb dL_law_879 rfl (lv_at hl 0 rfl) ?_
  refine lv_iconst (v := (2 : Int32)) hx hb dL_law_880 (by decide) ?_
  refine lv_iadd hx hb dL_law_881 ?_
  refine va_sld hx hb hX hbl hbA hS (ixB_in (by decide +kernel)) dL_law_882 ?_
  refine W.eq (g2 := F0 m 883 ls [.int (xs 2), .int (xs 1), .ref k0, .int r]) rfl ?_
  refine lv_aload_n hx hb dL_law_883 rfl (lv_at hl 3 rfl) ?_
  refine lv_iload_n hx hb dL_law_884 rfl (lv_at hl 0 rfl) ?_
  refine lv_iconst (v := (3 : Int32)) hx hb dL_law_885 (by decide) ?_
  refine lv_iadd hx hb dL_law_886 ?_
  refine va_sld hx hb hX hbl hbA hS (ixB_in (by decide +kernel)) dL_law_887 ?_
  refine W.eq (g2 := F0 m 888 ls [.int (xs 3), .int (xs 2), .int (xs 1), .ref k0, .int r]) rfl ?_
  refine gcI (ws' := []) (va_runV (As := [.int (xs 1), .int (xs 2), .int (xs 3)]) (rest := [.int r]) ⟨hx, hb, hml, hown, htsL⟩ (c_X12_coup (l := l) (D := D) (G := G) (sz := H.size) (a_p0 := k0) (a_p0_st := k1) (a_p0_isKept := k2) (a_p0_brings := k3) (a_p0_need := k4) (a_p0_draft := k5) (a_p0_dStir := k6) (a_p0_dNeed := k7) (a_p0_tape := k8) (a_p0_places := k9) (a_p0_stirred := k10) (a_p0_ways := k11) (a_p0_waysThen := k12) (a_p0_stays := k13) (a_p0_fewest := k14) (a_p0_bowls := k15) (a_p0_has := k16) (a_p0_goesOn := k17) (a_p0_isThere := k18) (a_p0_isThereThen := k19) (a_p0_bestRow := k20) (a_p0_lanes := k21) (a_p0_sizes := k22) (a_p0_cells := k23) (i_p0_seats := u_X12_init215_0) (i_p0_stirs := u_X12_init215_1) (i_p0_dSeats := u_X12_init211_0) (i_p0_dStirs := u_X12_init211_1) (i_p0_told := u_X12_init211_2) (i_p0_highest := u_X12_init211_3) (i_p0_taped := (0 : Int32)) (i_p0_pos := (0 : Int32)) (i_p0_from := (0 : Int32)) (i_p0_sort := (0 : Int32)) (i_p0_value := (0 : Int32)) (i_p0_fault := (0 : Int32)) (i_p0_wrongAt := (0 : Int32)) (i_p0_torn := (0 : Int32)) (x1 := (xs 1)) (x2 := (xs 2)) (x3 := (xs 3)) (r := r) (hf := hck)) (cwV 3 htsL gL_law_X12_coup rfl rfl rfl (by decide +kernel) ⟨(Nat.le_of_ble_eq_true rfl), (Nat.le_of_ble_eq_true rfl)⟩) (preG_V (ci := 12) (hP.sub [0] rfl) (hD.sub [0] rfl rfl) hK rfl rfl) rfl rfl hl.1 rfl (lv_room (Nat.le_of_ble_eq_true rfl)) dL_law_888 ⟨(Nat.le_of_ble_eq_true rfl), (Nat.le_of_ble_eq_true rfl)⟩) hP hD hS hA [0] [] [] rfl rfl rfl (by decide) rfl rfl rfl (fun H locs hP hD hS => ?_)
  refine lv_icmp_eq (tgt := 1309) hx hb dL_law_891 (by decide) (fun _ => ?_) (fun cc => absurd rfl cc)
  exact law_end C0 hAf hS ls hl
set_option maxHeartbeats 8000000 in
set_option maxRecDepth 100000 in
theorem lc_22 {p : Program} {l : Launch} {e : Env} {s : State} {m : MethodId} {below : List Frame} {meth : Method} {c : Code} {b : Nat} {xs : Nat → Int32} {A : Nat → Prop} {D : va_G} {G : Nat → ClassId} {H : Heap} {locs : List Loc} {y0 y1 y2 y3 y4 y5 y6 y7 y8 y9 y10 y11 y12 y13 y14 y15 y16 y17 y18 y19 y20 y21 y22 y23 y24 y25 y26 y27 y28 y29 y30 y31 y32 y33 y34 y35 y36 y37 y38 y39 y40 y41 y42 y43 y44 y45 y46 y47 y48 y49 y50 y51 y52 y53 y54 y55 y56 y57 y58 y59 y60 y61 y62 y63 y64 y65 y66 y67 y68 y69 y70 y71 y72 k0 k1 k2 k3 k4 k5 k6 k7 k8 k9 k10 k11 k12 k13 k14 k15 k16 k17 k18 k19 k20 k21 k22 k23 : Nat} (C0 : lw_At p s m meth c b 5 xs) (hA : ∀ q, s.heap.size ≤ q → A q) (hAf : ∀ q, A q → s.heap.size ≤ q) (hK : va_K D vwCl (tyG G) s) (hP : va_P D vwCl (wF G y0 y1 y2 y3 y4 y5 y6 y7 y8 y9 y10 y11 y12 y13 y14 y15 y16 y17 y18 y19 y20 y21 y22 y23 y24 y25 y26 y27 y28 y29 y30 y31 y32 y33 y34 y35 y36 y37 y38 y39 y40 y41 y42 y43 y44 y45 y46 y47 y48 y49 y50 y51 y52 y53 y54 y55 y56 y57 y58 y59 y60 y61 y62 y63 y64 y65 y66 y67 y68 y69 y70 y71 y72 k0 k1 k2 k3 k4 k5 k6 k7 k8 k9 k10 k11 k12 k13 k14 k15 k16 k17 k18 k19 k20 k21 k22 k23) H) (hD : va_D A (wF G y0 y1 y2 y3 y4 y5 y6 y7 y8 y9 y10 y11 y12 y13 y14 y15 y16 y17 y18 y19 y20 y21 y22 y23 y24 y25 y26 y27 y28 y29 y30 y31 y32 y33 y34 y35 y36 y37 y38 y39 y40 y41 y42 y43 y44 y45 y46 y47 y48 y49 y50 y51 y52 y53 y54 y55 y56 y57 y58 y59 y60 y61 y62 y63 y64 y65 y66 y67 y68 y69 y70 y71 y72 k0 k1 k2 k3 k4 k5 k6 k7 k8 k9 k10 k11 k12 k13 k14 k15 k16 k17 k18 k19 k20 k21 k22 k23)) (hS : va_S A s.heap H locs) (ls : Array Slot) (hl : lv_has ls 4 [(3, .int (0 : Int32)), (2, .ref k0), (1, .ref y0), (0, .ref b)]) : W p l e room_1 s m #[Value.ref b] below meth c H locs 600000 7302250 (lw_Z below #[Value.ref b] s) (F0 m 896 ls []) := by
  obtain ⟨hx, hb, hr, hml, hown, hts, hX, hbl, hlocks, hgv⟩ := id C0
  have hbA : ¬ A b := fun h => absurd (hAf b h) (Nat.not_le.mpr hbl)
  have hown : s.vm.findClass RL = some m.cls := hown
  have htsL : ∀ w ∈ wsL_law, w.before #[Value.ref b] s = true := fun w h => hts w (wsL_law_in w h)
  refine lv_aload_n hx hb dL_law_896 rfl (lv_at hl 2 rfl) ?_
  refine lv_aload_n hx hb dL_law_897 rfl (lv_at hl 3 rfl) ?_
  refine lv_iload_n hx hb dL_law_898 rfl (lv_at hl 0 rfl) ?_
  refine lv_iconst (v := (1 : Int32)) hx hb dL_law_899 (by decide) ?_
  refine lv_iadd hx hb dL_law_900 ?_
  refine va_sld hx hb hX hbl hbA hS (ixB_in (by decide +kernel)) dL_law_901 ?_
  refine W.eq (g2 := F0 m 902 ls [.int (xs 1), .ref y0]) rfl ?_
  obtain ⟨r, hcx, hck⟩ := z_firm (xs 1)
  refine gcI (ws' := (wK G k0 k1 k2 k3 k4 k5 k6 k7 k8 k9 k10 k11 k12 k13 k14 k15 k16 k17 k18 k19 k20 k21 k22 k23)) (va_runV (As := [.int (xs 1)]) (rest := []) ⟨hx, hb, hml, hown, htsL⟩ (c_X11_firm (l := l) (D := D) (G := G) (sz := H.size) (a_p0 := y0) (a_p0_rules := y1) (a_p0_state := y7) (a_p0_tape := y13) (a_p0_reader := y15) (a_p0_kitchen := y29) (a_p0_luck := y33) (a_p0_plans := y37) (a_p0_coups := y40) (a_p0_past := y41) (a_p0_fairDays := y43) (a_p0_images := y50) (a_p0_imageHeld := y51) (a_p0_sheets := y52) (a_p0_rules_need := y2) (a_p0_rules_kind := y3) (a_p0_rules_first := y4) (a_p0_rules_second := y5) (a_p0_rules_after := y6) (i_p0_latestFault := (0 : Int32)) (i_p0_latestTear := (0 : Int32)) (i_p0_rules_seats := (4 : Int32)) (i_p0_rules_stirs := (0 : Int32)) (x1 := (xs 1)) (r := r) (hf := hcx)) (cwV 1 htsL gL_law_X11_firm rfl rfl rfl (by decide +kernel) ⟨(Nat.le_of_ble_eq_true rfl), (Nat.le_of_ble_eq_true rfl)⟩) (preG_V (ci := 11) (hP.sub [0, 1] rfl) (hD.sub [0, 1] rfl rfl) hK rfl rfl) rfl rfl hl.1 rfl (lv_room (Nat.le_of_ble_eq_true rfl)) dL_law_902 ⟨(Nat.le_of_ble_eq_true rfl), (Nat.le_of_ble_eq_true rfl)⟩) hP hD hS hA [0, 1] [73, 74, 75, 76, 77, 78, 79, 80, 81, 82, 83, 84, 85, 86, 87, 88, 89, 90, 91, 92, 93, 94, 95, 96] [0, 1, 2, 3, 4, 5, 6, 7, 8, 9, 10, 11, 12, 13, 14, 15, 16, 17, 18, 19, 20, 21, 22, 23] rfl rfl rfl (by decide) rfl rfl rfl (fun H locs hP hD hS => ?_)
  refine lv_aload_n hx hb dL_law_905 rfl (lv_at hl 1 rfl) ?_
  refine lv_aload_n hx hb dL_law_906 rfl (lv_at hl 3 rfl) ?_
  refine lv_iload_n hx hb dL_law_907 rfl (lv_at hl 0 rfl) ?_
  refine lv_iconst (v := (1 : Int32)) hx hb dL_law_908 (by decide) ?_
  refine lv_iadd hx hb dL_law_909 ?_
  refine va_sld hx hb hX hbl hbA hS (ixB_in (by decide +kernel)) dL_law_910 ?_
  refine W.eq (g2 := F0 m 911 ls [.int (xs 1), .ref k0, .int r]) rfl ?_
  refine gcI (ws' := []) (va_runV (As := [.int (xs 1)]) (rest := [.int r]) ⟨hx, hb, hml, hown, htsL⟩ (c_X12_firm (l := l) (D := D) (G := G) (sz := H.size) (a_p0 := k0) (a_p0_st := k1) (a_p0_isKept := k2) (a_p0_brings := k3) (a_p0_need := k4) (a_p0_draft := k5) (a_p0_dStir := k6) (a_p0_dNeed := k7) (a_p0_tape := k8) (a_p0_places := k9) (a_p0_stirred := k10) (a_p0_ways := k11) (a_p0_waysThen := k12) (a_p0_stays := k13) (a_p0_fewest := k14) (a_p0_bowls := k15) (a_p0_has := k16) (a_p0_goesOn := k17) (a_p0_isThere := k18) (a_p0_isThereThen := k19) (a_p0_bestRow := k20) (a_p0_lanes := k21) (a_p0_sizes := k22) (a_p0_cells := k23) (i_p0_seats := u_X12_init215_0) (i_p0_stirs := u_X12_init215_1) (i_p0_dSeats := u_X12_init211_0) (i_p0_dStirs := u_X12_init211_1) (i_p0_told := u_X12_init211_2) (i_p0_highest := u_X12_init211_3) (i_p0_taped := (0 : Int32)) (i_p0_pos := (0 : Int32)) (i_p0_from := (0 : Int32)) (i_p0_sort := (0 : Int32)) (i_p0_value := (0 : Int32)) (i_p0_fault := (0 : Int32)) (i_p0_wrongAt := (0 : Int32)) (i_p0_torn := (0 : Int32)) (x1 := (xs 1)) (r := r) (hf := hck)) (cwV 1 htsL gL_law_X12_firm rfl rfl rfl (by decide +kernel) ⟨(Nat.le_of_ble_eq_true rfl), (Nat.le_of_ble_eq_true rfl)⟩) (preG_V (ci := 12) (hP.sub [0] rfl) (hD.sub [0] rfl rfl) hK rfl rfl) rfl rfl hl.1 rfl (lv_room (Nat.le_of_ble_eq_true rfl)) dL_law_911 ⟨(Nat.le_of_ble_eq_true rfl), (Nat.le_of_ble_eq_true rfl)⟩) hP hD hS hA [0] [] [] rfl rfl rfl (by decide) rfl rfl rfl (fun H locs hP hD hS => ?_)
  refine lv_icmp_eq (tgt := 1309) hx hb dL_law_914 (by decide) (fun _ => ?_) (fun cc => absurd rfl cc)
  exact law_end C0 hAf hS ls hl
set_option maxHeartbeats 8000000 in
set_option maxRecDepth 100000 in
theorem lc_23 {p : Program} {l : Launch} {e : Env} {s : State} {m : MethodId} {below : List Frame} {meth : Method} {c : Code} {b : Nat} {xs : Nat → Int32} {A : Nat → Prop} {D : va_G} {G : Nat → ClassId} {H : Heap} {locs : List Loc} {y0 y1 y2 y3 y4 y5 y6 y7 y8 y9 y10 y11 y12 y13 y14 y15 y16 y17 y18 y19 y20 y21 y22 y23 y24 y25 y26 y27 y28 y29 y30 y31 y32 y33 y34 y35 y36 y37 y38 y39 y40 y41 y42 y43 y44 y45 y46 y47 y48 y49 y50 y51 y52 y53 y54 y55 y56 y57 y58 y59 y60 y61 y62 y63 y64 y65 y66 y67 y68 y69 y70 y71 y72 k0 k1 k2 k3 k4 k5 k6 k7 k8 k9 k10 k11 k12 k13 k14 k15 k16 k17 k18 k19 k20 k21 k22 k23 : Nat} (C0 : lw_At p s m meth c b 5 xs) (hA : ∀ q, s.heap.size ≤ q → A q) (hAf : ∀ q, A q → s.heap.size ≤ q) (hK : va_K D vwCl (tyG G) s) (hP : va_P D vwCl (wF G y0 y1 y2 y3 y4 y5 y6 y7 y8 y9 y10 y11 y12 y13 y14 y15 y16 y17 y18 y19 y20 y21 y22 y23 y24 y25 y26 y27 y28 y29 y30 y31 y32 y33 y34 y35 y36 y37 y38 y39 y40 y41 y42 y43 y44 y45 y46 y47 y48 y49 y50 y51 y52 y53 y54 y55 y56 y57 y58 y59 y60 y61 y62 y63 y64 y65 y66 y67 y68 y69 y70 y71 y72 k0 k1 k2 k3 k4 k5 k6 k7 k8 k9 k10 k11 k12 k13 k14 k15 k16 k17 k18 k19 k20 k21 k22 k23) H) (hD : va_D A (wF G y0 y1 y2 y3 y4 y5 y6 y7 y8 y9 y10 y11 y12 y13 y14 y15 y16 y17 y18 y19 y20 y21 y22 y23 y24 y25 y26 y27 y28 y29 y30 y31 y32 y33 y34 y35 y36 y37 y38 y39 y40 y41 y42 y43 y44 y45 y46 y47 y48 y49 y50 y51 y52 y53 y54 y55 y56 y57 y58 y59 y60 y61 y62 y63 y64 y65 y66 y67 y68 y69 y70 y71 y72 k0 k1 k2 k3 k4 k5 k6 k7 k8 k9 k10 k11 k12 k13 k14 k15 k16 k17 k18 k19 k20 k21 k22 k23)) (hS : va_S A s.heap H locs) (ls : Array Slot) (hl : lv_has ls 4 [(3, .int (0 : Int32)), (2, .ref k0), (1, .ref y0), (0, .ref b)]) : W p l e room_1 s m #[Value.ref b] below meth c H locs 600000 7302250 (lw_Z below #[Value.ref b] s) (F0 m 919 ls []) := by
  obtain ⟨hx, hb, hr, hml, hown, hts, hX, hbl, hlocks, hgv⟩ := id C0
  have hbA : ¬ A b := fun h => absurd (hAf b h) (Nat.not_le.mpr hbl)
  have hown : s.vm.findClass RL = some m.cls := hown
  have htsL : ∀ w ∈ wsL_law, w.before #[Value.ref b] s = true := fun w h => hts w (wsL_law_in w h)
  refine lv_aload_n hx hb dL_law_919 rfl (lv_at hl 2 rfl) ?_
  refine lv_aload_n hx hb dL_law_920 rfl (lv_at hl 3 rfl) ?_
  refine lv_iload_n hx hb dL_law_921 rfl (lv_at hl 0 rfl) ?_
  refine lv_iconst (v := (1 : Int32)) hx hb dL_law_922 (by decide) ?_
  refine lv_iadd hx hb dL_law_923 ?_
  refine va_sld hx hb hX hbl hbA hS (ixB_in (by decide +kernel)) dL_law_924 ?_
  refine W.eq (g2 := F0 m 925 ls [.int (xs 1), .ref y0]) rfl ?_
  obtain ⟨r, xo1, xo2, hcx, ko1, hck⟩ := z_see (xs 1)
  refine gcI (ws' := (wK G k0 k1 k2 k3 k4 k5 k6 k7 k8 k9 k10 k11 k12 k13 k14 k15 k16 k17 k18 k19 k20 k21 k22 k23)) (va_runV (As := [.int (xs 1)]) (rest := []) ⟨hx, hb, hml, hown, htsL⟩ (c_X11_see (l := l) (D := D) (G := G) (sz := H.size) (a_p0 := y0) (a_p0_rules := y1) (a_p0_state := y7) (a_p0_tape := y13) (a_p0_reader := y15) (a_p0_kitchen := y29) (a_p0_luck := y33) (a_p0_plans := y37) (a_p0_coups := y40) (a_p0_past := y41) (a_p0_fairDays := y43) (a_p0_images := y50) (a_p0_imageHeld := y51) (a_p0_sheets := y52) (a_p0_rules_need := y2) (a_p0_rules_kind := y3) (a_p0_rules_first := y4) (a_p0_rules_second := y5) (a_p0_rules_after := y6) (a_p0_state_pieces := y8) (a_p0_state_friends := y9) (a_p0_state_spoons := y10) (a_p0_state_eaten := y11) (a_p0_state_seen := y12) (i_p0_latestFault := (0 : Int32)) (i_p0_latestTear := (0 : Int32)) (i_p0_rules_seats := (4 : Int32)) (i_p0_rules_stirs := (0 : Int32)) (i_p0_state_seenDays := (0 : Int32)) (i_p0_state_bone := (0 : Int32)) (i_p0_state_king := (0 : Int32)) (i_p0_state_days := (0 : Int32)) (v_p0_state_seen := (fun _ => (0 : Int32))) (x1 := (xs 1)) (r := r) (o_i_p0_state_seenDays := xo1) (o_v_p0_state_seen := xo2) (hf := hcx)) (cwV 1 htsL gL_law_X11_see rfl rfl rfl (by decide +kernel) ⟨(Nat.le_of_ble_eq_true rfl), (Nat.le_of_ble_eq_true rfl)⟩) (preG_V (ci := 11) (hP.sub [0, 1, 7, 12] rfl) (hD.sub [0, 1, 7, 12] rfl rfl) hK rfl rfl) rfl rfl hl.1 rfl (lv_room (Nat.le_of_ble_eq_true rfl)) dL_law_925 ⟨(Nat.le_of_ble_eq_true rfl), (Nat.le_of_ble_eq_true rfl)⟩) hP hD hS hA [0, 1, 7, 12] [73, 74, 75, 76, 77, 78, 79, 80, 81, 82, 83, 84, 85, 86, 87, 88, 89, 90, 91, 92, 93, 94, 95, 96] [0, 1, 2, 3, 4, 5, 6, 7, 8, 9, 10, 11, 12, 13, 14, 15, 16, 17, 18, 19, 20, 21, 22, 23] rfl rfl rfl (by decide) rfl rfl rfl (fun H locs hP hD hS => ?_)
  refine lv_aload_n hx hb dL_law_928 rfl (lv_at hl 1 rfl) ?_
  refine lv_aload_n hx hb dL_law_929 rfl (lv_at hl 3 rfl) ?_
  refine lv_iload_n hx hb dL_law_930 rfl (lv_at hl 0 rfl) ?_
  refine lv_iconst (v := (1 : Int32)) hx hb dL_law_931 (by decide) ?_
  refine lv_iadd hx hb dL_law_932 ?_
  refine va_sld hx hb hX hbl hbA hS (ixB_in (by decide +kernel)) dL_law_933 ?_
  refine W.eq (g2 := F0 m 934 ls [.int (xs 1), .ref k0, .int r]) rfl ?_
  refine gcI (ws' := []) (va_runV (As := [.int (xs 1)]) (rest := [.int r]) ⟨hx, hb, hml, hown, htsL⟩ (c_X12_see (l := l) (D := D) (G := G) (sz := H.size) (a_p0 := k0) (a_p0_st := k1) (a_p0_isKept := k2) (a_p0_brings := k3) (a_p0_need := k4) (a_p0_draft := k5) (a_p0_dStir := k6) (a_p0_dNeed := k7) (a_p0_tape := k8) (a_p0_places := k9) (a_p0_stirred := k10) (a_p0_ways := k11) (a_p0_waysThen := k12) (a_p0_stays := k13) (a_p0_fewest := k14) (a_p0_bowls := k15) (a_p0_has := k16) (a_p0_goesOn := k17) (a_p0_isThere := k18) (a_p0_isThereThen := k19) (a_p0_bestRow := k20) (a_p0_lanes := k21) (a_p0_sizes := k22) (a_p0_cells := k23) (i_p0_seats := u_X12_init215_0) (i_p0_stirs := u_X12_init215_1) (i_p0_dSeats := u_X12_init211_0) (i_p0_dStirs := u_X12_init211_1) (i_p0_told := u_X12_init211_2) (i_p0_highest := u_X12_init211_3) (i_p0_taped := (0 : Int32)) (i_p0_pos := (0 : Int32)) (i_p0_from := (0 : Int32)) (i_p0_sort := (0 : Int32)) (i_p0_value := (0 : Int32)) (i_p0_fault := (0 : Int32)) (i_p0_wrongAt := (0 : Int32)) (i_p0_torn := (0 : Int32)) (v_p0_st := u_X12_init215_2) (x1 := (xs 1)) (r := r) (o_v_p0_st := ko1) (hf := hck)) (cwV 1 htsL gL_law_X12_see rfl rfl rfl (by decide +kernel) ⟨(Nat.le_of_ble_eq_true rfl), (Nat.le_of_ble_eq_true rfl)⟩) (preG_V (ci := 12) (hP.sub [0, 1] rfl) (hD.sub [0, 1] rfl rfl) hK rfl rfl) rfl rfl hl.1 rfl (lv_room (Nat.le_of_ble_eq_true rfl)) dL_law_934 ⟨(Nat.le_of_ble_eq_true rfl), (Nat.le_of_ble_eq_true rfl)⟩) hP hD hS hA [0, 1] [] [] rfl rfl rfl (by decide) rfl rfl rfl (fun H locs hP hD hS => ?_)
  refine lv_icmp_eq (tgt := 1309) hx hb dL_law_937 (by decide) (fun _ => ?_) (fun cc => absurd rfl cc)
  exact law_end C0 hAf hS ls hl
