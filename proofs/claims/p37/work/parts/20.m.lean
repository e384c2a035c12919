noncomputable def B_X12_findBowls_7 (i_p0_seats : Int) (w1 : (Int → Int)) (v_p0_brings : (Int → Int)) (x2 : Int) (v_p0_st : (Int → Int)) (again7 : Int → (Int → Int) → Option ((Int → Int) × (Int → Int))) (z3 : Int) (w4 : (Int → Int)) : Option ((Int → Int) × (Int → Int)) := (ck (z_r32 z3) (ck (z_r32 i_p0_seats) (if i_p0_seats ≤ z3 then (some (w1, w4)) else (ck (z_ix z3 7) (bd1 (f_X12_cameFrom v_p0_brings x2 (w1 z3)) (fun (z8 : Int) => (ck (z_ix z8 152) (ck (z_ix z3 7) (bnd (z_up w4 z3 (v_p0_st z8)) (fun (w9 : (Int → Int)) => (bnd (z3 + (1 : Int)) (fun (z10 : Int) => (again7 z10 w9)))))))))))))
noncomputable def f_X12_findBowls (i_p0_seats : Int) (v_p0_st : (Int → Int)) (v_p0_brings : (Int → Int)) (v_p0_places : (Int → Int)) (v_p0_bowls : (Int → Int)) (x1 : Int) (x2 : Int) : Option ((Int → Int) × (Int → Int)) := (bd1 (f_X12_findPlaces i_p0_seats v_p0_st v_p0_places x1) (fun (w1 : (Int → Int)) => (bnd (0 : Int) (fun (z2 : Int) => (lq2 (B_X12_findBowls_7 i_p0_seats w1 v_p0_brings x2 v_p0_st) 1000 z2 v_p0_bowls)))))
abbrev rm_X12_findBowls : Room := { frames := 2, cells := 0, slots := 0, locals := 46 }
theorem inX12_findBowls_X12 : ∀ w ∈ wsX120, w ∈ wsX12_findBowls := by first | exact fun w h => List.mem_cons_of_mem _ (List.mem_append_right _ h) | decide +kernel
theorem mwX12_findBowls_1 : Cond.fieldLink RX12 100 "LadleKingsModel" "seats" "I" ∈ wsX12_findBowls := by first | exact List.mem_of_getElem? (i := 1) rfl | decide +kernel
theorem mwX12_findBowls_2 : Cond.fieldLink RX12 54 "LadleKingsModel" "bowls" "[I" ∈ wsX12_findBowls := by first | exact List.mem_of_getElem? (i := 2) rfl | decide +kernel
theorem mwX12_findBowls_3 : Cond.fieldLink RX12 7 "LadleKingsModel" "st" "[I" ∈ wsX12_findBowls := by first | exact List.mem_of_getElem? (i := 3) rfl | decide +kernel
theorem mwX12_findBowls_4 : Cond.fieldLink RX12 35 "LadleKingsModel" "places" "[I" ∈ wsX12_findBowls := by first | exact List.mem_of_getElem? (i := 4) rfl | decide +kernel
set_option maxHeartbeats 8000000 in
set_option maxRecDepth 100000 in
theorem c_X12_findBowls (l : Launch) (D : va_G) (G : Nat → ClassId) (sz : Nat) (a_p0 : Nat) (a_p0_st : Nat) (a_p0_isKept : Nat) (a_p0_brings : Nat) (a_p0_need : Nat) (a_p0_draft : Nat) (a_p0_dStir : Nat) (a_p0_dNeed : Nat) (a_p0_tape : Nat) (a_p0_places : Nat) (a_p0_stirred : Nat) (a_p0_ways : Nat) (a_p0_waysThen : Nat) (a_p0_stays : Nat) (a_p0_fewest : Nat) (a_p0_bowls : Nat) (a_p0_has : Nat) (a_p0_goesOn : Nat) (a_p0_isThere : Nat) (a_p0_isThereThen : Nat) (a_p0_bestRow : Nat) (a_p0_lanes : Nat) (a_p0_sizes : Nat) (a_p0_cells : Nat) (i_p0_seats : Int) (i_p0_stirs : Int) (i_p0_dSeats : Int) (i_p0_dStirs : Int) (i_p0_told : Int) (i_p0_highest : Int) (i_p0_taped : Int) (i_p0_pos : Int) (i_p0_from : Int) (i_p0_sort : Int) (i_p0_value : Int) (i_p0_fault : Int) (i_p0_wrongAt : Int) (i_p0_torn : Int) (v_p0_st : (Int → Int)) (v_p0_brings : (Int → Int)) (v_p0_places : (Int → Int)) (v_p0_bowls : (Int → Int)) (x1 : Int) (x2 : Int) (o_v_p0_places : (Int → Int)) (o_v_p0_bowls : (Int → Int)) (hf : f_X12_findBowls i_p0_seats v_p0_st v_p0_brings v_p0_places v_p0_bowls x1 x2 = some (o_v_p0_places, o_v_p0_bowls)) : Met l yX12_findBowls wsX12_findBowls rm_X12_findBowls (pcG D G [.ref a_p0, .int (Int32.ofInt x1), .int (Int32.ofInt x2)] sz [(a_p0, .inr (12, [.ref a_p0_st, .ref a_p0_isKept, .int (Int32.ofInt i_p0_seats), .int (Int32.ofInt i_p0_stirs), .ref a_p0_brings, .ref a_p0_need, .ref a_p0_draft, .int (Int32.ofInt i_p0_dSeats), .int (Int32.ofInt i_p0_dStirs), .ref a_p0_dStir, .ref a_p0_dNeed, .int (Int32.ofInt i_p0_told), .int (Int32.ofInt i_p0_highest), .ref a_p0_tape, .int (Int32.ofInt i_p0_taped), .int (Int32.ofInt i_p0_pos), .int (Int32.ofInt i_p0_from), .int (Int32.ofInt i_p0_sort), .int (Int32.ofInt i_p0_value), .int (Int32.ofInt i_p0_fault), .int (Int32.ofInt i_p0_wrongAt), .ref a_p0_places, .ref a_p0_stirred, .ref a_p0_ways, .ref a_p0_waysThen, .ref a_p0_stays, .ref a_p0_fewest, .ref a_p0_bowls, .ref a_p0_has, .ref a_p0_goesOn, .ref a_p0_isThere, .ref a_p0_isThereThen, .ref a_p0_bestRow, .ref a_p0_lanes, .ref a_p0_sizes, .ref a_p0_cells, .int (Int32.ofInt i_p0_torn)])), (a_p0_st, .inl (G 1, 152, .inl (zA v_p0_st))), (a_p0_brings, .inl (G 1, 35, .inl (zA v_p0_brings))), (a_p0_places, .inl (G 1, 7, .inl (zA v_p0_places))), (a_p0_bowls, .inl (G 1, 7, .inl (zA v_p0_bowls)))]) (qcV D G [(a_p0, .inr (12, [.ref a_p0_st, .ref a_p0_isKept, .int (Int32.ofInt i_p0_seats), .int (Int32.ofInt i_p0_stirs), .ref a_p0_brings, .ref a_p0_need, .ref a_p0_draft, .int (Int32.ofInt i_p0_dSeats), .int (Int32.ofInt i_p0_dStirs), .ref a_p0_dStir, .ref a_p0_dNeed, .int (Int32.ofInt i_p0_told), .int (Int32.ofInt i_p0_highest), .ref a_p0_tape, .int (Int32.ofInt i_p0_taped), .int (Int32.ofInt i_p0_pos), .int (Int32.ofInt i_p0_from), .int (Int32.ofInt i_p0_sort), .int (Int32.ofInt i_p0_value), .int (Int32.ofInt i_p0_fault), .int (Int32.ofInt i_p0_wrongAt), .ref a_p0_places, .ref a_p0_stirred, .ref a_p0_ways, .ref a_p0_waysThen, .ref a_p0_stays, .ref a_p0_fewest, .ref a_p0_bowls, .ref a_p0_has, .ref a_p0_goesOn, .ref a_p0_isThere, .ref a_p0_isThereThen, .ref a_p0_bestRow, .ref a_p0_lanes, .ref a_p0_sizes, .ref a_p0_cells, .int (Int32.ofInt i_p0_torn)])), (a_p0_st, .inl (G 1, 152, .inl (zA v_p0_st))), (a_p0_brings, .inl (G 1, 35, .inl (zA v_p0_brings))), (a_p0_places, .inl (G 1, 7, .inl (zA o_v_p0_places))), (a_p0_bowls, .inl (G 1, 7, .inl (zA o_v_p0_bowls)))] (va_A [(a_p0, .inr (12, [.ref a_p0_st, .ref a_p0_isKept, .int (Int32.ofInt i_p0_seats), .int (Int32.ofInt i_p0_stirs), .ref a_p0_brings, .ref a_p0_need, .ref a_p0_draft, .int (Int32.ofInt i_p0_dSeats), .int (Int32.ofInt i_p0_dStirs), .ref a_p0_dStir, .ref a_p0_dNeed, .int (Int32.ofInt i_p0_told), .int (Int32.ofInt i_p0_highest), .ref a_p0_tape, .int (Int32.ofInt i_p0_taped), .int (Int32.ofInt i_p0_pos), .int (Int32.ofInt i_p0_from), .int (Int32.ofInt i_p0_sort), .int (Int32.ofInt i_p0_value), .int (Int32.ofInt i_p0_fault), .int (Int32.ofInt i_p0_wrongAt), .ref a_p0_places, .ref a_p0_stirred, .ref a_p0_ways, .ref a_p0_waysThen, .ref a_p0_stays, .ref a_p0_fewest, .ref a_p0_bowls, .ref a_p0_has, .ref a_p0_goesOn, .ref a_p0_isThere, .ref a_p0_isThereThen, .ref a_p0_bestRow, .ref a_p0_lanes, .ref a_p0_sizes, .ref a_p0_cells, .int (Int32.ofInt i_p0_torn)])), (a_p0_st, .inl (G 1, 152, .inl (zA v_p0_st))), (a_p0_brings, .inl (G 1, 35, .inl (zA v_p0_brings))), (a_p0_places, .inl (G 1, 7, .inl (zA v_p0_places))), (a_p0_bowls, .inl (G 1, 7, .inl (zA v_p0_bowls)))] sz)) 0 0 (va_A [(a_p0, .inr (12, [.ref a_p0_st, .ref a_p0_isKept, .int (Int32.ofInt i_p0_seats), .int (Int32.ofInt i_p0_stirs), .ref a_p0_brings, .ref a_p0_need, .ref a_p0_draft, .int (Int32.ofInt i_p0_dSeats), .int (Int32.ofInt i_p0_dStirs), .ref a_p0_dStir, .ref a_p0_dNeed, .int (Int32.ofInt i_p0_told), .int (Int32.ofInt i_p0_highest), .ref a_p0_tape, .int (Int32.ofInt i_p0_taped), .int (Int32.ofInt i_p0_pos), .int (Int32.ofInt i_p0_from), .int (Int32.ofInt i_p0_sort), .int (Int32.ofInt i_p0_value), .int (Int32.ofInt i_p0_fault), .int (Int32.ofInt i_p0_wrongAt), .ref a_p0_places, .ref a_p0_stirred, .ref a_p0_ways, .ref a_p0_waysThen, .ref a_p0_stays, .ref a_p0_fewest, .ref a_p0_bowls, .ref a_p0_has, .ref a_p0_goesOn, .ref a_p0_isThere, .ref a_p0_isThereThen, .ref a_p0_bestRow, .ref a_p0_lanes, .ref a_p0_sizes, .ref a_p0_cells, .int (Int32.ofInt i_p0_torn)])), (a_p0_st, .inl (G 1, 152, .inl (zA v_p0_st))), (a_p0_brings, .inl (G 1, 35, .inl (zA v_p0_brings))), (a_p0_places, .inl (G 1, 7, .inl (zA v_p0_places))), (a_p0_bowls, .inl (G 1, 7, .inl (zA v_p0_bowls)))] sz) := by
  refine Met.ofW (cc := cX12_findBowls) (maxL := 4) (ret := none) (by decide) rfl ?_
  intro p e s m args below meth c s₁ B hml hv
  obtain ⟨rfl, hsz, hP, hK, hD0⟩ := hv
  have hx := B.exec
  have hb := B.bytes
  have hr := B.returns
  have hts := atoms_spec (ws := wsX12_findBowls) B.pre
  have hown : s.vm.findClass RX12 = some m.cls := findClass_of_methodNamed B.named
  have hlocks := B.notSynchronized
  subst hsz
  have hD := hD0.self (sz := s.heap.size)
  generalize hAe : va_A [(a_p0, .inr (12, [.ref a_p0_st, .ref a_p0_isKept, .int (Int32.ofInt i_p0_seats), .int (Int32.ofInt i_p0_stirs), .ref a_p0_brings, .ref a_p0_need, .ref a_p0_draft, .int (Int32.ofInt i_p0_dSeats), .int (Int32.ofInt i_p0_dStirs), .ref a_p0_dStir, .ref a_p0_dNeed, .int (Int32.ofInt i_p0_told), .int (Int32.ofInt i_p0_highest), .ref a_p0_tape, .int (Int32.ofInt i_p0_taped), .int (Int32.ofInt i_p0_pos), .int (Int32.ofInt i_p0_from), .int (Int32.ofInt i_p0_sort), .int (Int32.ofInt i_p0_value), .int (Int32.ofInt i_p0_fault), .int (Int32.ofInt i_p0_wrongAt), .ref a_p0_places, .ref a_p0_stirred, .ref a_p0_ways, .ref a_p0_waysThen, .ref a_p0_stays, .ref a_p0_fewest, .ref a_p0_bowls, .ref a_p0_has, .ref a_p0_goesOn, .ref a_p0_isThere, .ref a_p0_isThereThen, .ref a_p0_bestRow, .ref a_p0_lanes, .ref a_p0_sizes, .ref a_p0_cells, .int (Int32.ofInt i_p0_torn)])), (a_p0_st, .inl (G 1, 152, .inl (zA v_p0_st))), (a_p0_brings, .inl (G 1, 35, .inl (zA v_p0_brings))), (a_p0_places, .inl (G 1, 7, .inl (zA v_p0_places))), (a_p0_bowls, .inl (G 1, 7, .inl (zA v_p0_bowls)))] s.heap.size = A at hD ⊢
  have hA : ∀ q : Nat, s.heap.size ≤ q → A q := fun q h => by rw [← hAe]; exact Or.inr h
  clear hAe hD0
  have hS : va_S A s.heap s.heap [] := va_S.rf
  have hl := lv_entry ([.ref a_p0, .int (Int32.ofInt x1), .int (Int32.ofInt x2)]) (n := 4) (Nat.le_of_ble_eq_true rfl)
  rw [lg_entry_eq]
  generalize (lg_sl ([.ref a_p0, .int (Int32.ofInt x1), .int (Int32.ofInt x2)]) ++ List.replicate (4 - (lg_sl ([.ref a_p0, .int (Int32.ofInt x1), .int (Int32.ofInt x2)])).length) Slot.unset).toArray = ls at hl ⊢
  have hl : lv_has ls 4 [(0, .ref a_p0), (1, .int (Int32.ofInt x1)), (2, .int (Int32.ofInt x2))] := hl
  refine W_nameQ (fun Q hQ => ?_)
  obtain ⟨H, hH⟩ : ∃ H, H = s.heap := ⟨_, rfl⟩
  replace hS : va_S A s.heap H [] := by rw [hH]; exact hS
  replace hP : va_P D vwCl [(a_p0, .inr (12, [.ref a_p0_st, .ref a_p0_isKept, .int (Int32.ofInt i_p0_seats), .int (Int32.ofInt i_p0_stirs), .ref a_p0_brings, .ref a_p0_need, .ref a_p0_draft, .int (Int32.ofInt i_p0_dSeats), .int (Int32.ofInt i_p0_dStirs), .ref a_p0_dStir, .ref a_p0_dNeed, .int (Int32.ofInt i_p0_told), .int (Int32.ofInt i_p0_highest), .ref a_p0_tape, .int (Int32.ofInt i_p0_taped), .int (Int32.ofInt i_p0_pos), .int (Int32.ofInt i_p0_from), .int (Int32.ofInt i_p0_sort), .int (Int32.ofInt i_p0_value), .int (Int32.ofInt i_p0_fault), .int (Int32.ofInt i_p0_wrongAt), .ref a_p0_places, .ref a_p0_stirred, .ref a_p0_ways, .ref a_p0_waysThen, .ref a_p0_stays, .ref a_p0_fewest, .ref a_p0_bowls, .ref a_p0_has, .ref a_p0_goesOn, .ref a_p0_isThere, .ref a_p0_isThereThen, .ref a_p0_bestRow, .ref a_p0_lanes, .ref a_p0_sizes, .ref a_p0_cells, .int (Int32.ofInt i_p0_torn)])), (a_p0_st, .inl (G 1, 152, .inl (zA v_p0_st))), (a_p0_brings, .inl (G 1, 35, .inl (zA v_p0_brings))), (a_p0_places, .inl (G 1, 7, .inl (zA v_p0_places))), (a_p0_bowls, .inl (G 1, 7, .inl (zA v_p0_bowls)))] H := by rw [hH]; exact hP
  rw [← hH]
  clear hH
  unfold f_X12_findBowls at hf
  refine lv_aload_n hx hb dX12_findBowls_0 rfl (lv_at hl 0 rfl) ?_
  refine lv_iload_n hx hb dX12_findBowls_1 rfl (lv_at hl 1 rfl) ?_
  have hq := bd1_s hf
  clear hf
  obtain ⟨w1, hcall, hf⟩ := hq
  refine gsV (ws' := [(a_p0, .inr (12, [.ref a_p0_st, .ref a_p0_isKept, .int (Int32.ofInt i_p0_seats), .int (Int32.ofInt i_p0_stirs), .ref a_p0_brings, .ref a_p0_need, .ref a_p0_draft, .int (Int32.ofInt i_p0_dSeats), .int (Int32.ofInt i_p0_dStirs), .ref a_p0_dStir, .ref a_p0_dNeed, .int (Int32.ofInt i_p0_told), .int (Int32.ofInt i_p0_highest), .ref a_p0_tape, .int (Int32.ofInt i_p0_taped), .int (Int32.ofInt i_p0_pos), .int (Int32.ofInt i_p0_from), .int (Int32.ofInt i_p0_sort), .int (Int32.ofInt i_p0_value), .int (Int32.ofInt i_p0_fault), .int (Int32.ofInt i_p0_wrongAt), .ref a_p0_places, .ref a_p0_stirred, .ref a_p0_ways, .ref a_p0_waysThen, .ref a_p0_stays, .ref a_p0_fewest, .ref a_p0_bowls, .ref a_p0_has, .ref a_p0_goesOn, .ref a_p0_isThere, .ref a_p0_isThereThen, .ref a_p0_bestRow, .ref a_p0_lanes, .ref a_p0_sizes, .ref a_p0_cells, .int (Int32.ofInt i_p0_torn)])), (a_p0_st, .inl (G 1, 152, .inl (zA v_p0_st))), (a_p0_brings, .inl (G 1, 35, .inl (zA v_p0_brings))), (a_p0_places, .inl (G 1, 7, .inl (zA w1))), (a_p0_bowls, .inl (G 1, 7, .inl (zA v_p0_bowls)))]) (va_runV (As := [.int (Int32.ofInt x1)]) (rest := []) ⟨hx, hb, hml, hown, hts⟩ (c_X12_findPlaces (l := l) (D := D) (G := G) (sz := H.size) (a_p0 := a_p0) (a_p0_st := a_p0_st) (a_p0_isKept := a_p0_isKept) (a_p0_brings := a_p0_brings) (a_p0_need := a_p0_need) (a_p0_draft := a_p0_draft) (a_p0_dStir := a_p0_dStir) (a_p0_dNeed := a_p0_dNeed) (a_p0_tape := a_p0_tape) (a_p0_places := a_p0_places) (a_p0_stirred := a_p0_stirred) (a_p0_ways := a_p0_ways) (a_p0_waysThen := a_p0_waysThen) (a_p0_stays := a_p0_stays) (a_p0_fewest := a_p0_fewest) (a_p0_bowls := a_p0_bowls) (a_p0_has := a_p0_has) (a_p0_goesOn := a_p0_goesOn) (a_p0_isThere := a_p0_isThere) (a_p0_isThereThen := a_p0_isThereThen) (a_p0_bestRow := a_p0_bestRow) (a_p0_lanes := a_p0_lanes) (a_p0_sizes := a_p0_sizes) (a_p0_cells := a_p0_cells) (i_p0_seats := i_p0_seats) (i_p0_stirs := i_p0_stirs) (i_p0_dSeats := i_p0_dSeats) (i_p0_dStirs := i_p0_dStirs) (i_p0_told := i_p0_told) (i_p0_highest := i_p0_highest) (i_p0_taped := i_p0_taped) (i_p0_pos := i_p0_pos) (i_p0_from := i_p0_from) (i_p0_sort := i_p0_sort) (i_p0_value := i_p0_value) (i_p0_fault := i_p0_fault) (i_p0_wrongAt := i_p0_wrongAt) (i_p0_torn := i_p0_torn) (v_p0_st := v_p0_st) (v_p0_places := v_p0_places) (x1 := x1) (o_v_p0_places := w1) (hf := hcall)) (cwV 1 hts gX12_findBowls_X12_findPlaces rfl rfl rfl hdV_yX12_findPlaces_RX12 ⟨Nat.le_of_ble_eq_true rfl, Nat.le_of_ble_eq_true rfl⟩) (preG_V (ci := 12) (q := (RX12, TX12, 37)) (hP.sub [0, 1, 3] rfl) (hD.sub [0, 1, 3] rfl rfl) hK rfl rfl) rfl rfl hl.1 rfl (lv_room (Nat.le_of_ble_eq_true rfl)) dX12_findBowls_2 ⟨Nat.le_of_ble_eq_true rfl, Nat.le_of_ble_eq_true rfl⟩) hP hD hS hA [0, 1, 3] rfl rfl rfl (fun H locs hP hD hS => ?_)
  clear hcall
  refine lv_iconst (v := Int32.ofInt (0 : Int)) hx hb dX12_findBowls_5 (by decide) ?_
  refine z_topi (fun z2 ez => ?_)
  replace hf := bnd_s hf ez
  clear ez
  refine lv_istore_n (lv' := [(3, .int (Int32.ofInt z2)), (0, .ref a_p0), (1, .int (Int32.ofInt x1)), (2, .int (Int32.ofInt x2))]) hx hb dX12_findBowls_6 rfl hl (by decide) rfl (fun ls hl => ?_)
  have hq := lq2_i hf
  clear hf
  obtain ⟨B5, eB5, NB5, hf⟩ := hq
  have hB5 : ∀ (n : Nat) (z3 : Int) (w4 : (Int → Int)) (ls : Array Slot) (H : Heap) (locs : List Loc), lv_has ls 4 [(3, .int (Int32.ofInt z3)), (0, .ref a_p0), (2, .int (Int32.ofInt x2))] → va_P D vwCl [(a_p0, .inr (12, [.ref a_p0_st, .ref a_p0_isKept, .int (Int32.ofInt i_p0_seats), .int (Int32.ofInt i_p0_stirs), .ref a_p0_brings, .ref a_p0_need, .ref a_p0_draft, .int (Int32.ofInt i_p0_dSeats), .int (Int32.ofInt i_p0_dStirs), .ref a_p0_dStir, .ref a_p0_dNeed, .int (Int32.ofInt i_p0_told), .int (Int32.ofInt i_p0_highest), .ref a_p0_tape, .int (Int32.ofInt i_p0_taped), .int (Int32.ofInt i_p0_pos), .int (Int32.ofInt i_p0_from), .int (Int32.ofInt i_p0_sort), .int (Int32.ofInt i_p0_value), .int (Int32.ofInt i_p0_fault), .int (Int32.ofInt i_p0_wrongAt), .ref a_p0_places, .ref a_p0_stirred, .ref a_p0_ways, .ref a_p0_waysThen, .ref a_p0_stays, .ref a_p0_fewest, .ref a_p0_bowls, .ref a_p0_has, .ref a_p0_goesOn, .ref a_p0_isThere, .ref a_p0_isThereThen, .ref a_p0_bestRow, .ref a_p0_lanes, .ref a_p0_sizes, .ref a_p0_cells, .int (Int32.ofInt i_p0_torn)])), (a_p0_st, .inl (G 1, 152, .inl (zA v_p0_st))), (a_p0_brings, .inl (G 1, 35, .inl (zA v_p0_brings))), (a_p0_places, .inl (G 1, 7, .inl (zA w1))), (a_p0_bowls, .inl (G 1, 7, .inl (zA w4)))] H → va_D A [(a_p0, .inr (12, [.ref a_p0_st, .ref a_p0_isKept, .int (Int32.ofInt i_p0_seats), .int (Int32.ofInt i_p0_stirs), .ref a_p0_brings, .ref a_p0_need, .ref a_p0_draft, .int (Int32.ofInt i_p0_dSeats), .int (Int32.ofInt i_p0_dStirs), .ref a_p0_dStir, .ref a_p0_dNeed, .int (Int32.ofInt i_p0_told), .int (Int32.ofInt i_p0_highest), .ref a_p0_tape, .int (Int32.ofInt i_p0_taped), .int (Int32.ofInt i_p0_pos), .int (Int32.ofInt i_p0_from), .int (Int32.ofInt i_p0_sort), .int (Int32.ofInt i_p0_value), .int (Int32.ofInt i_p0_fault), .int (Int32.ofInt i_p0_wrongAt), .ref a_p0_places, .ref a_p0_stirred, .ref a_p0_ways, .ref a_p0_waysThen, .ref a_p0_stays, .ref a_p0_fewest, .ref a_p0_bowls, .ref a_p0_has, .ref a_p0_goesOn, .ref a_p0_isThere, .ref a_p0_isThereThen, .ref a_p0_bestRow, .ref a_p0_lanes, .ref a_p0_sizes, .ref a_p0_cells, .int (Int32.ofInt i_p0_torn)])), (a_p0_st, .inl (G 1, 152, .inl (zA v_p0_st))), (a_p0_brings, .inl (G 1, 35, .inl (zA v_p0_brings))), (a_p0_places, .inl (G 1, 7, .inl (zA w1))), (a_p0_bowls, .inl (G 1, 7, .inl (zA w4)))] → va_S A s.heap H locs → lq2 B5 n z3 w4 = some (o_v_p0_places, o_v_p0_bowls) → W p l e rm_X12_findBowls s m ([.ref a_p0, .int (Int32.ofInt x1), .int (Int32.ofInt x2)] : List Value).toArray below meth c H locs 0 0 Q (F0 m 7 ls []) := by
    clear hf hl hP hD hS
    intro n
    induction n with
    | zero =>
      intro z3 w4 ls H locs hl hP hD hS hf
      exact (lq2_0 hf).elim
    | succ n ih7 =>
      intro z3 w4 ls H locs hl hP hD hS hf
      replace hf := lq2_s eB5 hf
      unfold B_X12_findBowls_7 at hf
      refine lv_iload_n hx hb dX12_findBowls_7 rfl (lv_at hl 0 rfl) ?_
      refine lv_aload_n hx hb dX12_findBowls_8 rfl (lv_at hl 1 rfl) ?_
      refine va_get (D := D) (ci := 12) (v := .int (Int32.ofInt i_p0_seats)) (C := RX12) (T := TX12) (N := 37) hx hb hts inX12_findBowls_X12 hown hK hP 0 rfl rfl 2 (by decide) (hts _ mwX12_findBowls_1) (fun _ h9 => h9) rfl dX12_findBowls_9 ?_
      have hr5 := ck_c hf
      replace hf := ck_r hf
      have hr6 := ck_c hf
      replace hf := ck_r hf
      refine lv_icmp_ge (tgt := 43) hx hb dX12_findBowls_12 (by decide) (fun cc => ?_) (fun cc => ?_)
      ·
        replace hf := ite_t ((z_le hr6 hr5).mp cc) hf
        clear cc
        obtain ⟨rfl, rfl⟩ := ou2 hf
        rw [hQ]
        exact W.vret hx hb hr (fun t ht hW => ⟨⟨(), rfl, trivial, by rw [ht]; exact hP, va_K.moved hW.alike hK, hD⟩, hS.F ht⟩) hS.2.2 dX12_findBowls_43
      ·
        replace hf := ite_f (fun h9 => cc ((z_le hr6 hr5).mpr h9)) hf
        clear cc
        refine lv_aload_n hx hb dX12_findBowls_15 rfl (lv_at hl 1 rfl) ?_
        refine va_get (D := D) (ci := 12) (v := .ref a_p0_bowls) (C := RX12) (T := TX12) (N := 37) hx hb hts inX12_findBowls_X12 hown hK hP 0 rfl rfl 27 (by decide) (hts _ mwX12_findBowls_2) (fun _ h9 => h9) rfl dX12_findBowls_16 ?_
        refine lv_iload_n hx hb dX12_findBowls_19 rfl (lv_at hl 0 rfl) ?_
        refine lv_aload_n hx hb dX12_findBowls_20 rfl (lv_at hl 1 rfl) ?_
        refine va_get (D := D) (ci := 12) (v := .ref a_p0_st) (C := RX12) (T := TX12) (N := 37) hx hb hts inX12_findBowls_X12 hown hK hP 0 rfl rfl 0 (by decide) (hts _ mwX12_findBowls_3) (fun _ h9 => h9) rfl dX12_findBowls_21 ?_
        refine lv_aload_n hx hb dX12_findBowls_24 rfl (lv_at hl 1 rfl) ?_
        refine lv_iload_n hx hb dX12_findBowls_25 rfl (lv_at hl 2 rfl) ?_
        refine lv_aload_n hx hb dX12_findBowls_26 rfl (lv_at hl 1 rfl) ?_
        refine va_get (D := D) (ci := 12) (v := .ref a_p0_places) (C := RX12) (T := TX12) (N := 37) hx hb hts inX12_findBowls_X12 hown hK hP 0 rfl rfl 21 (by decide) (hts _ mwX12_findBowls_4) (fun _ h9 => h9) rfl dX12_findBowls_27 ?_
        refine lv_iload_n hx hb dX12_findBowls_30 rfl (lv_at hl 0 rfl) ?_
        have hc := ck_c hf
        replace hf := ck_r hf
        refine va_iald hx hb hK hP 3 1 rfl rfl (z_ix_in hc) dX12_findBowls_31 (z_ci (z_ald w1 hc) ?_)
        clear hc
        have hq := bd1_s hf
        clear hf
        obtain ⟨z8, hcall, hf⟩ := hq
        refine gnI (va_runV (As := [.int (Int32.ofInt x2), .int (Int32.ofInt (w1 z3))]) (rest := [.ref a_p0_st, .int (Int32.ofInt z3), .ref a_p0_bowls]) ⟨hx, hb, hml, hown, hts⟩ (c_X12_cameFrom (l := l) (D := D) (G := G) (sz := H.size) (a_p0 := a_p0) (a_p0_st := a_p0_st) (a_p0_isKept := a_p0_isKept) (a_p0_brings := a_p0_brings) (a_p0_need := a_p0_need) (a_p0_draft := a_p0_draft) (a_p0_dStir := a_p0_dStir) (a_p0_dNeed := a_p0_dNeed) (a_p0_tape := a_p0_tape) (a_p0_places := a_p0_places) (a_p0_stirred := a_p0_stirred) (a_p0_ways := a_p0_ways) (a_p0_waysThen := a_p0_waysThen) (a_p0_stays := a_p0_stays) (a_p0_fewest := a_p0_fewest) (a_p0_bowls := a_p0_bowls) (a_p0_has := a_p0_has) (a_p0_goesOn := a_p0_goesOn) (a_p0_isThere := a_p0_isThere) (a_p0_isThereThen := a_p0_isThereThen) (a_p0_bestRow := a_p0_bestRow) (a_p0_lanes := a_p0_lanes) (a_p0_sizes := a_p0_sizes) (a_p0_cells := a_p0_cells) (i_p0_seats := i_p0_seats) (i_p0_stirs := i_p0_stirs) (i_p0_dSeats := i_p0_dSeats) (i_p0_dStirs := i_p0_dStirs) (i_p0_told := i_p0_told) (i_p0_highest := i_p0_highest) (i_p0_taped := i_p0_taped) (i_p0_pos := i_p0_pos) (i_p0_from := i_p0_from) (i_p0_sort := i_p0_sort) (i_p0_value := i_p0_value) (i_p0_fault := i_p0_fault) (i_p0_wrongAt := i_p0_wrongAt) (i_p0_torn := i_p0_torn) (v_p0_brings := v_p0_brings) (x1 := x2) (x2 := (w1 z3)) (r := z8) (hf := hcall)) (cwV 2 hts gX12_findBowls_X12_cameFrom rfl rfl rfl hdV_yX12_cameFrom_RX12 ⟨Nat.le_of_ble_eq_true rfl, Nat.le_of_ble_eq_true rfl⟩) (preG_V (ci := 12) (q := (RX12, TX12, 37)) (hP.sub [0, 2] rfl) (hD.sub [0, 2] rfl rfl) hK rfl rfl) rfl rfl hl.1 rfl (lv_room (Nat.le_of_ble_eq_true rfl)) dX12_findBowls_32 ⟨Nat.le_of_ble_eq_true rfl, Nat.le_of_ble_eq_true rfl⟩) hP hD hS hA [0, 2] rfl (fun H locs hP hD hS => ?_)
        clear hcall
        have hc := ck_c hf
        replace hf := ck_r hf
        refine va_iald hx hb hK hP 1 1 rfl rfl (z_ix_in hc) dX12_findBowls_35 (z_ci (z_ald v_p0_st hc) ?_)
        clear hc
        have hc := ck_c hf
        replace hf := ck_r hf
        refine zs_iast (wf := fun w9 => [(a_p0, .inr (12, [.ref a_p0_st, .ref a_p0_isKept, .int (Int32.ofInt i_p0_seats), .int (Int32.ofInt i_p0_stirs), .ref a_p0_brings, .ref a_p0_need, .ref a_p0_draft, .int (Int32.ofInt i_p0_dSeats), .int (Int32.ofInt i_p0_dStirs), .ref a_p0_dStir, .ref a_p0_dNeed, .int (Int32.ofInt i_p0_told), .int (Int32.ofInt i_p0_highest), .ref a_p0_tape, .int (Int32.ofInt i_p0_taped), .int (Int32.ofInt i_p0_pos), .int (Int32.ofInt i_p0_from), .int (Int32.ofInt i_p0_sort), .int (Int32.ofInt i_p0_value), .int (Int32.ofInt i_p0_fault), .int (Int32.ofInt i_p0_wrongAt), .ref a_p0_places, .ref a_p0_stirred, .ref a_p0_ways, .ref a_p0_waysThen, .ref a_p0_stays, .ref a_p0_fewest, .ref a_p0_bowls, .ref a_p0_has, .ref a_p0_goesOn, .ref a_p0_isThere, .ref a_p0_isThereThen, .ref a_p0_bestRow, .ref a_p0_lanes, .ref a_p0_sizes, .ref a_p0_cells, .int (Int32.ofInt i_p0_torn)])), (a_p0_st, .inl (G 1, 152, .inl (zA v_p0_st))), (a_p0_brings, .inl (G 1, 35, .inl (zA v_p0_brings))), (a_p0_places, .inl (G 1, 7, .inl (zA w1))), (a_p0_bowls, .inl (G 1, 7, .inl (zA w9)))]) hx hb hK hP hD hS 4 1 rfl rfl hc dX12_findBowls_36 (fun _ => rfl) (fun w9 ez H locs hP hD hS => ?_)
        replace hf := bnd_s hf ez
        clear ez hc
        obtain ⟨z10, ez⟩ : ∃ y : Int, y = (z3 + (1 : Int)) := ⟨_, rfl⟩
        replace hf := bnd_s hf ez
        refine lv_iinc (v := Int32.ofInt z10) (lv' := [(3, .int (Int32.ofInt z10)), (0, .ref a_p0), (2, .int (Int32.ofInt x2))]) hx hb dX12_findBowls_37 hl (k := 0) rfl (by rw [ez]; exact (Int32.ofInt_add _ _).symm) (by decide) rfl (fun ls hl => ?_)
        clear ez
        refine lv_goto (tgt := 7) hx hb dX12_findBowls_40 (by decide) ?_
        exact ih7 _ _ _ _ _ (lv_sub hl [0, 1, 2] rfl) hP hD hS hf
  exact hB5 _ _ _ _ _ _ (lv_sub hl [0, 1, 3] rfl) hP hD hS hf

noncomputable def B_X12_spoonsOf_4 (i_p0_seats : Int) (x1 : Int) (v_p0_st : (Int → Int)) (again4 : Int → Int → Option (Int)) (z3 : Int) (z4 : Int) : Option (Int) := (ck (z_r32 z3) (ck (z_r32 i_p0_seats) (if i_p0_seats ≤ z3 then (some z4) else (ck (z_r32 (z_and (z_shr x1 z3) (1 : Int))) (if (z_and (z_shr x1 z3) (1 : Int)) = (1 : Int) then (ck (z_ix ((16 : Int) + z3) 152) (bnd (z4 + (v_p0_st ((16 : Int) + z3))) (fun (z11 : Int) => (bnd (z3 + (1 : Int)) (fun (z12 : Int) => (again4 z12 z11)))))) else (bnd (z4 + (0 : Int)) (fun (z9 : Int) => (bnd (z3 + (1 : Int)) (fun (z10 : Int) => (again4 z10 z9))))))))))
noncomputable def f_X12_spoonsOf (i_p0_seats : Int) (v_p0_st : (Int → Int)) (x1 : Int) : Option (Int) := (bnd (0 : Int) (fun (z1 : Int) => (bnd (0 : Int) (fun (z2 : Int) => (lq2 (B_X12_spoonsOf_4 i_p0_seats x1 v_p0_st) 1000 z2 z1)))))
abbrev rm_X12_spoonsOf : Room := { frames := 0, cells := 0, slots := 0, locals := 0 }
theorem inX12_spoonsOf_X12 : ∀ w ∈ wsX120, w ∈ wsX12_spoonsOf := by first | exact fun w h => List.mem_cons_of_mem _ (List.mem_append_right _ h) | decide +kernel
theorem mwX12_spoonsOf_1 : Cond.fieldLink RX12 100 "LadleKingsModel" "seats" "I" ∈ wsX12_spoonsOf := by first | exact List.mem_of_getElem? (i := 1) rfl | decide +kernel
theorem mwX12_spoonsOf_2 : Cond.fieldLink RX12 7 "LadleKingsModel" "st" "[I" ∈ wsX12_spoonsOf := by first | exact List.mem_of_getElem? (i := 2) rfl | decide +kernel
set_option maxHeartbeats 8000000 in
set_option maxRecDepth 100000 in
theorem c_X12_spoonsOf (l : Launch) (D : va_G) (G : Nat → ClassId) (sz : Nat) (a_p0 : Nat) (a_p0_st : Nat) (a_p0_isKept : Nat) (a_p0_brings : Nat) (a_p0_need : Nat) (a_p0_draft : Nat) (a_p0_dStir : Nat) (a_p0_dNeed : Nat) (a_p0_tape : Nat) (a_p0_places : Nat) (a_p0_stirred : Nat) (a_p0_ways : Nat) (a_p0_waysThen : Nat) (a_p0_stays : Nat) (a_p0_fewest : Nat) (a_p0_bowls : Nat) (a_p0_has : Nat) (a_p0_goesOn : Nat) (a_p0_isThere : Nat) (a_p0_isThereThen : Nat) (a_p0_bestRow : Nat) (a_p0_lanes : Nat) (a_p0_sizes : Nat) (a_p0_cells : Nat) (i_p0_seats : Int) (i_p0_stirs : Int) (i_p0_dSeats : Int) (i_p0_dStirs : Int) (i_p0_told : Int) (i_p0_highest : Int) (i_p0_taped : Int) (i_p0_pos : Int) (i_p0_from : Int) (i_p0_sort : Int) (i_p0_value : Int) (i_p0_fault : Int) (i_p0_wrongAt : Int) (i_p0_torn : Int) (v_p0_st : (Int → Int)) (x1 : Int) (r : Int) (hf : f_X12_spoonsOf i_p0_seats v_p0_st x1 = some r) : Met l yX12_spoonsOf wsX12_spoonsOf rm_X12_spoonsOf (pcG D G [.ref a_p0, .int (Int32.ofInt x1)] sz [(a_p0, .inr (12, [.ref a_p0_st, .ref a_p0_isKept, .int (Int32.ofInt i_p0_seats), .int (Int32.ofInt i_p0_stirs), .ref a_p0_brings, .ref a_p0_need, .ref a_p0_draft, .int (Int32.ofInt i_p0_dSeats), .int (Int32.ofInt i_p0_dStirs), .ref a_p0_dStir, .ref a_p0_dNeed, .int (Int32.ofInt i_p0_told), .int (Int32.ofInt i_p0_highest), .ref a_p0_tape, .int (Int32.ofInt i_p0_taped), .int (Int32.ofInt i_p0_pos), .int (Int32.ofInt i_p0_from), .int (Int32.ofInt i_p0_sort), .int (Int32.ofInt i_p0_value), .int (Int32.ofInt i_p0_fault), .int (Int32.ofInt i_p0_wrongAt), .ref a_p0_places, .ref a_p0_stirred, .ref a_p0_ways, .ref a_p0_waysThen, .ref a_p0_stays, .ref a_p0_fewest, .ref a_p0_bowls, .ref a_p0_has, .ref a_p0_goesOn, .ref a_p0_isThere, .ref a_p0_isThereThen, .ref a_p0_bestRow, .ref a_p0_lanes, .ref a_p0_sizes, .ref a_p0_cells, .int (Int32.ofInt i_p0_torn)])), (a_p0_st, .inl (G 1, 152, .inl (zA v_p0_st)))]) (qcI D G (Int32.ofInt r) [(a_p0, .inr (12, [.ref a_p0_st, .ref a_p0_isKept, .int (Int32.ofInt i_p0_seats), .int (Int32.ofInt i_p0_stirs), .ref a_p0_brings, .ref a_p0_need, .ref a_p0_draft, .int (Int32.ofInt i_p0_dSeats), .int (Int32.ofInt i_p0_dStirs), .ref a_p0_dStir, .ref a_p0_dNeed, .int (Int32.ofInt i_p0_told), .int (Int32.ofInt i_p0_highest), .ref a_p0_tape, .int (Int32.ofInt i_p0_taped), .int (Int32.ofInt i_p0_pos), .int (Int32.ofInt i_p0_from), .int (Int32.ofInt i_p0_sort), .int (Int32.ofInt i_p0_value), .int (Int32.ofInt i_p0_fault), .int (Int32.ofInt i_p0_wrongAt), .ref a_p0_places, .ref a_p0_stirred, .ref a_p0_ways, .ref a_p0_waysThen, .ref a_p0_stays, .ref a_p0_fewest, .ref a_p0_bowls, .ref a_p0_has, .ref a_p0_goesOn, .ref a_p0_isThere, .ref a_p0_isThereThen, .ref a_p0_bestRow, .ref a_p0_lanes, .ref a_p0_sizes, .ref a_p0_cells, .int (Int32.ofInt i_p0_torn)])), (a_p0_st, .inl (G 1, 152, .inl (zA v_p0_st)))] (va_A [(a_p0, .inr (12, [.ref a_p0_st, .ref a_p0_isKept, .int (Int32.ofInt i_p0_seats), .int (Int32.ofInt i_p0_stirs), .ref a_p0_brings, .ref a_p0_need, .ref a_p0_draft, .int (Int32.ofInt i_p0_dSeats), .int (Int32.ofInt i_p0_dStirs), .ref a_p0_dStir, .ref a_p0_dNeed, .int (Int32.ofInt i_p0_told), .int (Int32.ofInt i_p0_highest), .ref a_p0_tape, .int (Int32.ofInt i_p0_taped), .int (Int32.ofInt i_p0_pos), .int (Int32.ofInt i_p0_from), .int (Int32.ofInt i_p0_sort), .int (Int32.ofInt i_p0_value), .int (Int32.ofInt i_p0_fault), .int (Int32.ofInt i_p0_wrongAt), .ref a_p0_places, .ref a_p0_stirred, .ref a_p0_ways, .ref a_p0_waysThen, .ref a_p0_stays, .ref a_p0_fewest, .ref a_p0_bowls, .ref a_p0_has, .ref a_p0_goesOn, .ref a_p0_isThere, .ref a_p0_isThereThen, .ref a_p0_bestRow, .ref a_p0_lanes, .ref a_p0_sizes, .ref a_p0_cells, .int (Int32.ofInt i_p0_torn)])), (a_p0_st, .inl (G 1, 152, .inl (zA v_p0_st)))] sz)) 0 0 (va_A [(a_p0, .inr (12, [.ref a_p0_st, .ref a_p0_isKept, .int (Int32.ofInt i_p0_seats), .int (Int32.ofInt i_p0_stirs), .ref a_p0_brings, .ref a_p0_need, .ref a_p0_draft, .int (Int32.ofInt i_p0_dSeats), .int (Int32.ofInt i_p0_dStirs), .ref a_p0_dStir, .ref a_p0_dNeed, .int (Int32.ofInt i_p0_told), .int (Int32.ofInt i_p0_highest), .ref a_p0_tape, .int (Int32.ofInt i_p0_taped), .int (Int32.ofInt i_p0_pos), .int (Int32.ofInt i_p0_from), .int (Int32.ofInt i_p0_sort), .int (Int32.ofInt i_p0_value), .int (Int32.ofInt i_p0_fault), .int (Int32.ofInt i_p0_wrongAt), .ref a_p0_places, .ref a_p0_stirred, .ref a_p0_ways, .ref a_p0_waysThen, .ref a_p0_stays, .ref a_p0_fewest, .ref a_p0_bowls, .ref a_p0_has, .ref a_p0_goesOn, .ref a_p0_isThere, .ref a_p0_isThereThen, .ref a_p0_bestRow, .ref a_p0_lanes, .ref a_p0_sizes, .ref a_p0_cells, .int (Int32.ofInt i_p0_torn)])), (a_p0_st, .inl (G 1, 152, .inl (zA v_p0_st)))] sz) := by
  refine Met.ofW (cc := cX12_spoonsOf) (maxL := 4) (ret := (some .int)) (by decide) rfl ?_
  intro p e s m args below meth c s₁ B hml hv
  obtain ⟨rfl, hsz, hP, hK, hD0⟩ := hv
  have hx := B.exec
  have hb := B.bytes
  have hr := B.returns
  have hts := atoms_spec (ws := wsX12_spoonsOf) B.pre
  have hown : s.vm.findClass RX12 = some m.cls := findClass_of_methodNamed B.named
  have hlocks := B.notSynchronized
  subst hsz
  have hD := hD0.self (sz := s.heap.size)
  generalize hAe : va_A [(a_p0, .inr (12, [.ref a_p0_st, .ref a_p0_isKept, .int (Int32.ofInt i_p0_seats), .int (Int32.ofInt i_p0_stirs), .ref a_p0_brings, .ref a_p0_need, .ref a_p0_draft, .int (Int32.ofInt i_p0_dSeats), .int (Int32.ofInt i_p0_dStirs), .ref a_p0_dStir, .ref a_p0_dNeed, .int (Int32.ofInt i_p0_told), .int (Int32.ofInt i_p0_highest), .ref a_p0_tape, .int (Int32.ofInt i_p0_taped), .int (Int32.ofInt i_p0_pos), .int (Int32.ofInt i_p0_from), .int (Int32.ofInt i_p0_sort), .int (Int32.ofInt i_p0_value), .int (Int32.ofInt i_p0_fault), .int (Int32.ofInt i_p0_wrongAt), .ref a_p0_places, .ref a_p0_stirred, .ref a_p0_ways, .ref a_p0_waysThen, .ref a_p0_stays, .ref a_p0_fewest, .ref a_p0_bowls, .ref a_p0_has, .ref a_p0_goesOn, .ref a_p0_isThere, .ref a_p0_isThereThen, .ref a_p0_bestRow, .ref a_p0_lanes, .ref a_p0_sizes, .ref a_p0_cells, .int (Int32.ofInt i_p0_torn)])), (a_p0_st, .inl (G 1, 152, .inl (zA v_p0_st)))] s.heap.size = A at hD ⊢
  have hA : ∀ q : Nat, s.heap.size ≤ q → A q := fun q h => by rw [← hAe]; exact Or.inr h
  clear hAe hD0
  have hS : va_S A s.heap s.heap [] := va_S.rf
  have hl := lv_entry ([.ref a_p0, .int (Int32.ofInt x1)]) (n := 4) (Nat.le_of_ble_eq_true rfl)
  rw [lg_entry_eq]
  generalize (lg_sl ([.ref a_p0, .int (Int32.ofInt x1)]) ++ List.replicate (4 - (lg_sl ([.ref a_p0, .int (Int32.ofInt x1)])).length) Slot.unset).toArray = ls at hl ⊢
  have hl : lv_has ls 4 [(0, .ref a_p0), (1, .int (Int32.ofInt x1))] := hl
  refine W_nameQ (fun Q hQ => ?_)
  obtain ⟨H, hH⟩ : ∃ H, H = s.heap := ⟨_, rfl⟩
  replace hS : va_S A s.heap H [] := by rw [hH]; exact hS
  replace hP : va_P D vwCl [(a_p0, .inr (12, [.ref a_p0_st, .ref a_p0_isKept, .int (Int32.ofInt i_p0_seats), .int (Int32.ofInt i_p0_stirs), .ref a_p0_brings, .ref a_p0_need, .ref a_p0_draft, .int (Int32.ofInt i_p0_dSeats), .int (Int32.ofInt i_p0_dStirs), .ref a_p0_dStir, .ref a_p0_dNeed, .int (Int32.ofInt i_p0_told), .int (Int32.ofInt i_p0_highest), .ref a_p0_tape, .int (Int32.ofInt i_p0_taped), .int (Int32.ofInt i_p0_pos), .int (Int32.ofInt i_p0_from), .int (Int32.ofInt i_p0_sort), .int (Int32.ofInt i_p0_value), .int (Int32.ofInt i_p0_fault), .int (Int32.ofInt i_p0_wrongAt), .ref a_p0_places, .ref a_p0_stirred, .ref a_p0_ways, .ref a_p0_waysThen, .ref a_p0_stays, .ref a_p0_fewest, .ref a_p0_bowls, .ref a_p0_has, .ref a_p0_goesOn, .ref a_p0_isThere, .ref a_p0_isThereThen, .ref a_p0_bestRow, .ref a_p0_lanes, .ref a_p0_sizes, .ref a_p0_cells, .int (Int32.ofInt i_p0_torn)])), (a_p0_st, .inl (G 1, 152, .inl (zA v_p0_st)))] H := by rw [hH]; exact hP
  rw [← hH]
  clear hH
  unfold f_X12_spoonsOf at hf
  refine lv_iconst (v := Int32.ofInt (0 : Int)) hx hb dX12_spoonsOf_0 (by decide) ?_
  refine z_topi (fun z1 ez => ?_)
  replace hf := bnd_s hf ez
  clear ez
  refine lv_istore_n (lv' := [(2, .int (Int32.ofInt z1)), (0, .ref a_p0), (1, .int (Int32.ofInt x1))]) hx hb dX12_spoonsOf_1 rfl hl (by decide) rfl (fun ls hl => ?_)
  refine lv_iconst (v := Int32.ofInt (0 : Int)) hx hb dX12_spoonsOf_2 (by decide) ?_
  refine z_topi (fun z2 ez => ?_)
  replace hf := bnd_s hf ez
  clear ez
  refine lv_istore_n (lv' := [(3, .int (Int32.ofInt z2)), (2, .int (Int32.ofInt z1)), (0, .ref a_p0), (1, .int (Int32.ofInt x1))]) hx hb dX12_spoonsOf_3 rfl hl (by decide) rfl (fun ls hl => ?_)
  have hq := lq2_i hf
  clear hf
  obtain ⟨B5, eB5, NB5, hf⟩ := hq
  have hB5 : ∀ (n : Nat) (z3 : Int) (z4 : Int) (ls : Array Slot) (H : Heap) (locs : List Loc), lv_has ls 4 [(3, .int (Int32.ofInt z3)), (2, .int (Int32.ofInt z4)), (0, .ref a_p0), (1, .int (Int32.ofInt x1))] → va_P D vwCl [(a_p0, .inr (12, [.ref a_p0_st, .ref a_p0_isKept, .int (Int32.ofInt i_p0_seats), .int (Int32.ofInt i_p0_stirs), .ref a_p0_brings, .ref a_p0_need, .ref a_p0_draft, .int (Int32.ofInt i_p0_dSeats), .int (Int32.ofInt i_p0_dStirs), .ref a_p0_dStir, .ref a_p0_dNeed, .int (Int32.ofInt i_p0_told), .int (Int32.ofInt i_p0_highest), .ref a_p0_tape, .int (Int32.ofInt i_p0_taped), .int (Int32.ofInt i_p0_pos), .int (Int32.ofInt i_p0_from), .int (Int32.ofInt i_p0_sort), .int (Int32.ofInt i_p0_value), .int (Int32.ofInt i_p0_fault), .int (Int32.ofInt i_p0_wrongAt), .ref a_p0_places, .ref a_p0_stirred, .ref a_p0_ways, .ref a_p0_waysThen, .ref a_p0_stays, .ref a_p0_fewest, .ref a_p0_bowls, .ref a_p0_has, .ref a_p0_goesOn, .ref a_p0_isThere, .ref a_p0_isThereThen, .ref a_p0_bestRow, .ref a_p0_lanes, .ref a_p0_sizes, .ref a_p0_cells, .int (Int32.ofInt i_p0_torn)])), (a_p0_st, .inl (G 1, 152, .inl (zA v_p0_st)))] H → va_D A [(a_p0, .inr (12, [.ref a_p0_st, .ref a_p0_isKept, .int (Int32.ofInt i_p0_seats), .int (Int32.ofInt i_p0_stirs), .ref a_p0_brings, .ref a_p0_need, .ref a_p0_draft, .int (Int32.ofInt i_p0_dSeats), .int (Int32.ofInt i_p0_dStirs), .ref a_p0_dStir, .ref a_p0_dNeed, .int (Int32.ofInt i_p0_told), .int (Int32.ofInt i_p0_highest), .ref a_p0_tape, .int (Int32.ofInt i_p0_taped), .int (Int32.ofInt i_p0_pos), .int (Int32.ofInt i_p0_from), .int (Int32.ofInt i_p0_sort), .int (Int32.ofInt i_p0_value), .int (Int32.ofInt i_p0_fault), .int (Int32.ofInt i_p0_wrongAt), .ref a_p0_places, .ref a_p0_stirred, .ref a_p0_ways, .ref a_p0_waysThen, .ref a_p0_stays, .ref a_p0_fewest, .ref a_p0_bowls, .ref a_p0_has, .ref a_p0_goesOn, .ref a_p0_isThere, .ref a_p0_isThereThen, .ref a_p0_bestRow, .ref a_p0_lanes, .ref a_p0_sizes, .ref a_p0_cells, .int (Int32.ofInt i_p0_torn)])), (a_p0_st, .inl (G 1, 152, .inl (zA v_p0_st)))] → va_S A s.heap H locs → lq2 B5 n z3 z4 = some r → W p l e rm_X12_spoonsOf s m ([.ref a_p0, .int (Int32.ofInt x1)] : List Value).toArray below meth c H locs 0 0 Q (F0 m 4 ls []) := by
    clear hf hl hP hD hS
    intro n
    induction n with
    | zero =>
      intro z3 z4 ls H locs hl hP hD hS hf
      exact (lq2_0 hf).elim
    | succ n ih4 =>
      intro z3 z4 ls H locs hl hP hD hS hf
      replace hf := lq2_s eB5 hf
      unfold B_X12_spoonsOf_4 at hf
      refine lv_iload_n hx hb dX12_spoonsOf_4 rfl (lv_at hl 0 rfl) ?_
      refine lv_aload_n hx hb dX12_spoonsOf_5 rfl (lv_at hl 2 rfl) ?_
      refine va_get (D := D) (ci := 12) (v := .int (Int32.ofInt i_p0_seats)) (C := RX12) (T := TX12) (N := 37) hx hb hts inX12_spoonsOf_X12 hown hK hP 0 rfl rfl 2 (by decide) (hts _ mwX12_spoonsOf_1) (fun _ h9 => h9) rfl dX12_spoonsOf_6 ?_
      have hr5 := ck_c hf
      replace hf := ck_r hf
      have hr6 := ck_c hf
      replace hf := ck_r hf
      refine lv_icmp_ge (tgt := 43) hx hb dX12_spoonsOf_9 (by decide) (fun cc => ?_) (fun cc => ?_)
      ·
        replace hf := ite_t ((z_le hr6 hr5).mp cc) hf
        clear cc
        refine lv_iload_n hx hb dX12_spoonsOf_43 rfl (lv_at hl 1 rfl) ?_
        obtain rfl := ou1 hf
        rw [hQ]
        exact W.iret hx hb hr (fun t ht hW => ⟨⟨_, (), rfl, rfl, by rw [ht]; exact hP, va_K.moved hW.alike hK, hD⟩, hS.F ht⟩) hS.2.2 dX12_spoonsOf_44
      ·
        replace hf := ite_f (fun h9 => cc ((z_le hr6 hr5).mpr h9)) hf
        clear cc
        refine lv_iload_n hx hb dX12_spoonsOf_12 rfl (lv_at hl 1 rfl) ?_
        refine lv_iload_n hx hb dX12_spoonsOf_13 rfl (lv_at hl 3 rfl) ?_
        refine lv_iload_n hx hb dX12_spoonsOf_14 rfl (lv_at hl 0 rfl) ?_
        refine lv_ishr hx hb dX12_spoonsOf_15 (z_ci (z_shr_e x1 z3) ?_)
        refine lv_iconst (v := Int32.ofInt (1 : Int)) hx hb dX12_spoonsOf_16 (by decide) ?_
        refine lv_iand hx hb dX12_spoonsOf_17 (z_ci (z_and_e (z_shr x1 z3) (1 : Int)) ?_)
        refine lv_iconst (v := Int32.ofInt (1 : Int)) hx hb dX12_spoonsOf_18 (by decide) ?_
        have hr7 := ck_c hf
        replace hf := ck_r hf
        refine lv_icmp_ne (tgt := 34) hx hb dX12_spoonsOf_19 (by decide) (fun cc => ?_) (fun cc => ?_)
        ·
          replace hf := ite_f (fun h9 => cc ((z_eq hr7 (by decide)).mpr h9)) hf
          clear cc
          refine lv_iconst (v := Int32.ofInt (0 : Int)) hx hb dX12_spoonsOf_34 (by decide) ?_
          refine lv_iadd hx hb dX12_spoonsOf_35 (z_ci (Int32.ofInt_add z4 (0 : Int)) ?_)
          refine z_topi (fun z9 ez => ?_)
          replace hf := bnd_s hf ez
          clear ez
          refine lv_istore_n (lv' := [(2, .int (Int32.ofInt z9)), (3, .int (Int32.ofInt z3)), (0, .ref a_p0), (1, .int (Int32.ofInt x1))]) hx hb dX12_spoonsOf_36 rfl hl (by decide) rfl (fun ls hl => ?_)
          obtain ⟨z10, ez⟩ : ∃ y : Int, y = (z3 + (1 : Int)) := ⟨_, rfl⟩
          replace hf := bnd_s hf ez
          refine lv_iinc (v := Int32.ofInt z10) (lv' := [(3, .int (Int32.ofInt z10)), (2, .int (Int32.ofInt z9)), (0, .ref a_p0), (1, .int (Int32.ofInt x1))]) hx hb dX12_spoonsOf_37 hl (k := 1) rfl (by rw [ez]; exact (Int32.ofInt_add _ _).symm) (by decide) rfl (fun ls hl => ?_)
          clear ez
          refine lv_goto (tgt := 4) hx hb dX12_spoonsOf_40 (by decide) ?_
          exact ih4 _ _ _ _ _ (lv_sub hl [0, 1, 2, 3] rfl) hP hD hS hf
        ·
          replace hf := ite_t ((z_eq hr7 (by decide)).mp cc) hf
          clear cc
          refine lv_aload_n hx hb dX12_spoonsOf_22 rfl (lv_at hl 2 rfl) ?_
          refine va_get (D := D) (ci := 12) (v := .ref a_p0_st) (C := RX12) (T := TX12) (N := 37) hx hb hts inX12_spoonsOf_X12 hown hK hP 0 rfl rfl 0 (by decide) (hts _ mwX12_spoonsOf_2) (fun _ h9 => h9) rfl dX12_spoonsOf_23 ?_
          refine lv_bipush (v := Int32.ofInt (16 : Int)) hx hb dX12_spoonsOf_26 (by decide) ?_
          refine lv_iload_n hx hb dX12_spoonsOf_28 rfl (lv_at hl 0 rfl) ?_
          refine lv_iadd hx hb dX12_spoonsOf_29 (z_ci (Int32.ofInt_add (16 : Int) z3) ?_)
          have hc := ck_c hf
          replace hf := ck_r hf
          refine va_iald hx hb hK hP 1 1 rfl rfl (z_ix_in hc) dX12_spoonsOf_30 (z_ci (z_ald v_p0_st hc) ?_)
          clear hc
          refine lv_goto (tgt := 35) hx hb dX12_spoonsOf_31 (by decide) ?_
          refine lv_iadd hx hb dX12_spoonsOf_35 (z_ci (Int32.ofInt_add z4 (v_p0_st ((16 : Int) + z3))) ?_)
          refine z_topi (fun z11 ez => ?_)
          replace hf := bnd_s hf ez
          clear ez
          refine lv_istore_n (lv' := [(2, .int (Int32.ofInt z11)), (3, .int (Int32.ofInt z3)), (0, .ref a_p0), (1, .int (Int32.ofInt x1))]) hx hb dX12_spoonsOf_36 rfl hl (by decide) rfl (fun ls hl => ?_)
          obtain ⟨z12, ez⟩ : ∃ y : Int, y = (z3 + (1 : Int)) := ⟨_, rfl⟩
          replace hf := bnd_s hf ez
          refine lv_iinc (v := Int32.ofInt z12) (lv' := [(3, .int (Int32.ofInt z12)), (2, .int (Int32.ofInt z11)), (0, .ref a_p0), (1, .int (Int32.ofInt x1))]) hx hb dX12_spoonsOf_37 hl (k := 1) rfl (by rw [ez]; exact (Int32.ofInt_add _ _).symm) (by decide) rfl (fun ls hl => ?_)
          clear ez
          refine lv_goto (tgt := 4) hx hb dX12_spoonsOf_40 (by decide) ?_
          exact ih4 _ _ _ _ _ (lv_sub hl [0, 1, 2, 3] rfl) hP hD hS hf
  exact hB5 _ _ _ _ _ _ (lv_sub hl [0, 1, 2, 3] rfl) hP hD hS hf

noncomputable def B_X12_coupBy_115 (i_p0_seats : Int) (w6 : (Int → Int)) (w7 : (Int → Int)) (w4 : (Int → Int)) (z10 : Int) (x2 : Int) (v_p0_st : (Int → Int)) (z13 : Int) (again115 : Int → Option (Int × (Int → Int) × (Int → Int) × (Int → Int))) (z15 : Int) : Option (Int × (Int → Int) × (Int → Int) × (Int → Int)) := (ck (z_r32 z15) (ck (z_r32 (z_shl (1 : Int) i_p0_seats)) (if (z_shl (1 : Int) i_p0_seats) ≤ z15 then (some ((-4 : Int), w6, w7, w4)) else (ck (z_r32 (z_and z15 (z_xor z10 (-1 : Int)))) (if (z_and z15 (z_xor z10 (-1 : Int))) = (0 : Int) then (ck (z_r32 (z_and (z_shr z15 x2) (1 : Int))) (if (z_and (z_shr z15 x2) (1 : Int)) = (1 : Int) then (bd1 (f_X12_spoonsOf i_p0_seats v_p0_st z15) (fun (z23 : Int) => (ck (z_r32 ((2 : Int) * z23)) (ck (z_r32 z13) (if ((2 : Int) * z23) ≤ z13 then (bnd (z15 + (1 : Int)) (fun (z26 : Int) => (again115 z26))) else (some (z15, w6, w7, w4))))))) else (bnd (z15 + (1 : Int)) (fun (z22 : Int) => (again115 z22))))) else (bnd (z15 + (1 : Int)) (fun (z20 : Int) => (again115 z20))))))))
noncomputable def B_X12_coupBy_50 (i_p0_seats : Int) (J11 : Int → Option (Int × (Int → Int) × (Int → Int) × (Int → Int))) (w7 : (Int → Int)) (w4 : (Int → Int)) (again50 : Int → Int → Option (Int × (Int → Int) × (Int → Int) × (Int → Int))) (z27 : Int) (z28 : Int) : Option (Int × (Int → Int) × (Int → Int) × (Int → Int)) := (ck (z_r32 z27) (ck (z_r32 i_p0_seats) (if i_p0_seats ≤ z27 then (J11 z28) else (ck (z_ix z27 7) (ck (z_ix z27 7) (ck (z_r32 (w7 z27)) (ck (z_r32 (w4 z27)) (jn (fun (z34 : Int) (z35 : Int) => (bd1 (f_X12_flag z35) (fun (z37 : Int) => (bnd (z_or z34 (z_shl z37 z27)) (fun (z38 : Int) => (bnd (z27 + (1 : Int)) (fun (z39 : Int) => (again50 z39 z38)))))))) (fun (J36 : Int → Int → Option (Int × (Int → Int) × (Int → Int) × (Int → Int))) => (if (w7 z27) ≤ (w4 z27) then (J36 z28 (0 : Int)) else (J36 z28 (1 : Int))))))))))))
noncomputable def B_X12_coupBy_9 (i_p0_seats : Int) (J5 : (Int → Int) → Option (Int × (Int → Int) × (Int → Int) × (Int → Int))) (w2 : (Int → Int)) (again9 : Int → (Int → Int) → Option (Int × (Int → Int) × (Int → Int) × (Int → Int))) (z40 : Int) (w41 : (Int → Int)) : Option (Int × (Int → Int) × (Int → Int) × (Int → Int)) := (ck (z_r32 z40) (ck (z_r32 i_p0_seats) (if i_p0_seats ≤ z40 then (J5 w41) else (ck (z_ix z40 7) (ck (z_ix z40 7) (bnd (z_up w41 z40 (w2 z40)) (fun (w45 : (Int → Int)) => (bnd (z40 + (1 : Int)) (fun (z46 : Int) => (again9 z46 w45))))))))))
noncomputable def f_X12_coupBy (i_p0_seats : Int) (v_p0_st : (Int → Int)) (v_p0_brings : (Int → Int)) (v_p0_places : (Int → Int)) (v_p0_bowls : (Int → Int)) (v_p0_has : (Int → Int)) (x1 : Int) (x2 : Int) (x3 : Int) : Option (Int × (Int → Int) × (Int → Int) × (Int → Int)) := (bd2 (f_X12_findBowls i_p0_seats v_p0_st v_p0_brings v_p0_places v_p0_bowls x1 x3) (fun (w1 : (Int → Int)) (w2 : (Int → Int)) => (bnd (0 : Int) (fun (z3 : Int) => (jn (fun (w4 : (Int → Int)) => (bd2 (f_X12_findBowls i_p0_seats v_p0_st v_p0_brings w1 w2 x2 x3) (fun (w6 : (Int → Int)) (w7 : (Int → Int)) => (bnd (0 : Int) (fun (z8 : Int) => (bnd (0 : Int) (fun (z9 : Int) => (jn (fun (z10 : Int) => (bd1 (f_X12_spoonsOf i_p0_seats v_p0_st ((z_shl (1 : Int) i_p0_seats) - (1 : Int))) (fun (z12 : Int) => (bnd z12 (fun (z13 : Int) => (bnd (1 : Int) (fun (z14 : Int) => (lq1 (B_X12_coupBy_115 i_p0_seats w6 w7 w4 z10 x2 v_p0_st z13) 1000 z14)))))))) (fun (J11 : Int → Option (Int × (Int → Int) × (Int → Int) × (Int → Int))) => (lq2 (B_X12_coupBy_50 i_p0_seats J11 w7 w4) 1000 z9 z8)))))))))) (fun (J5 : (Int → Int) → Option (Int × (Int → Int) × (Int → Int) × (Int → Int))) => (lq2 (B_X12_coupBy_9 i_p0_seats J5 w2) 1000 z3 v_p0_has)))))))
abbrev rm_X12_coupBy : Room := { frames := 3, cells := 0, slots := 0, locals := 69 }
theorem hdV_yX12_findBowls_RX12 : yX12_findBowls.cls = RX12 ∧ yX12_findBowls.cls ≠ "java/lang/invoke/MethodHandle" ∧ yX12_findBowls.cls ≠ "java/lang/invoke/VarHandle" ∧ (parseMethodDescriptor yX12_findBowls.desc).map (fun d => d.parameters.length) = some 2 := by decide +kernel
theorem inX12_coupBy_X12 : ∀ w ∈ wsX120, w ∈ wsX12_coupBy := by first | exact fun w h => List.mem_cons_of_mem _ (List.mem_append_right _ h) | decide +kernel
theorem mwX12_coupBy_2 : Cond.fieldLink RX12 100 "LadleKingsModel" "seats" "I" ∈ wsX12_coupBy := by first | exact List.mem_of_getElem? (i := 1) rfl | decide +kernel
theorem hdV_yX12_spoonsOf_RX12 : yX12_spoonsOf.cls = RX12 ∧ yX12_spoonsOf.cls ≠ "java/lang/invoke/MethodHandle" ∧ yX12_spoonsOf.cls ≠ "java/lang/invoke/VarHandle" ∧ (parseMethodDescriptor yX12_spoonsOf.desc).map (fun d => d.parameters.length) = some 1 := by decide +kernel
theorem mwX12_coupBy_4 : Cond.fieldLink RX12 54 "LadleKingsModel" "bowls" "[I" ∈ wsX12_coupBy := by first | exact List.mem_of_getElem? (i := 3) rfl | decide +kernel
theorem mwX12_coupBy_5 : Cond.fieldLink RX12 57 "LadleKingsModel" "has" "[I" ∈ wsX12_coupBy := by first | exact List.mem_of_getElem? (i := 2) rfl | decide +kernel
set_option maxHeartbeats 8000000 in
set_option maxRecDepth 100000 in
theorem c_X12_coupBy (l : Launch) (D : va_G) (G : Nat → ClassId) (sz : Nat) (a_p0 : Nat) (a_p0_st : Nat) (a_p0_isKept : Nat) (a_p0_brings : Nat) (a_p0_need : Nat) (a_p0_draft : Nat) (a_p0_dStir : Nat) (a_p0_dNeed : Nat) (a_p0_tape : Nat) (a_p0_places : Nat) (a_p0_stirred : Nat) (a_p0_ways : Nat) (a_p0_waysThen : Nat) (a_p0_stays : Nat) (a_p0_fewest : Nat) (a_p0_bowls : Nat) (a_p0_has : Nat) (a_p0_goesOn : Nat) (a_p0_isThere : Nat) (a_p0_isThereThen : Nat) (a_p0_bestRow : Nat) (a_p0_lanes : Nat) (a_p0_sizes : Nat) (a_p0_cells : Nat) (i_p0_seats : Int) (i_p0_stirs : Int) (i_p0_dSeats : Int) (i_p0_dStirs : Int) (i_p0_told : Int) (i_p0_highest : Int) (i_p0_taped : Int) (i_p0_pos : Int) (i_p0_from : Int) (i_p0_sort : Int) (i_p0_value : Int) (i_p0_fault : Int) (i_p0_wrongAt : Int) (i_p0_torn : Int) (v_p0_st : (Int → Int)) (v_p0_brings : (Int → Int)) (v_p0_places : (Int → Int)) (v_p0_bowls : (Int → Int)) (v_p0_has : (Int → Int)) (x1 : Int) (x2 : Int) (x3 : Int) (r : Int) (o_v_p0_places : (Int → Int)) (o_v_p0_bowls : (Int → Int)) (o_v_p0_has : (Int → Int)) (hf : f_X12_coupBy i_p0_seats v_p0_st v_p0_brings v_p0_places v_p0_bowls v_p0_has x1 x2 x3 = some (r, o_v_p0_places, o_v_p0_bowls, o_v_p0_has)) : Met l yX12_coupBy wsX12_coupBy rm_X12_coupBy (pcG D G [.ref a_p0, .int (Int32.ofInt x1), .int (Int32.ofInt x2), .int (Int32.ofInt x3)] sz [(a_p0, .inr (12, [.ref a_p0_st, .ref a_p0_isKept, .int (Int32.ofInt i_p0_seats), .int (Int32.ofInt i_p0_stirs), .ref a_p0_brings, .ref a_p0_need, .ref a_p0_draft, .int (Int32.ofInt i_p0_dSeats), .int (Int32.ofInt i_p0_dStirs), .ref a_p0_dStir, .ref a_p0_dNeed, .int (Int32.ofInt i_p0_told), .int (Int32.ofInt i_p0_highest), .ref a_p0_tape, .int (Int32.ofInt i_p0_taped), .int (Int32.ofInt i_p0_pos), .int (Int32.ofInt i_p0_from), .int (Int32.ofInt i_p0_sort), .int (Int32.ofInt i_p0_value), .int (Int32.ofInt i_p0_fault), .int (Int32.ofInt i_p0_wrongAt), .ref a_p0_places, .ref a_p0_stirred, .ref a_p0_ways, .ref a_p0_waysThen, .ref a_p0_stays, .ref a_p0_fewest, .ref a_p0_bowls, .ref a_p0_has, .ref a_p0_goesOn, .ref a_p0_isThere, .ref a_p0_isThereThen, .ref a_p0_bestRow, .ref a_p0_lanes, .ref a_p0_sizes, .ref a_p0_cells, .int (Int32.ofInt i_p0_torn)])), (a_p0_st, .inl (G 1, 152, .inl (zA v_p0_st))), (a_p0_brings, .inl (G 1, 35, .inl (zA v_p0_brings))), (a_p0_places, .inl (G 1, 7, .inl (zA v_p0_places))), (a_p0_bowls, .inl (G 1, 7, .inl (zA v_p0_bowls))), (a_p0_has, .inl (G 1, 7, .inl (zA v_p0_has)))]) (qcI D G (Int32.ofInt r) [(a_p0, .inr (12, [.ref a_p0_st, .ref a_p0_isKept, .int (Int32.ofInt i_p0_seats), .int (Int32.ofInt i_p0_stirs), .ref a_p0_brings, .ref a_p0_need, .ref a_p0_draft, .int (Int32.ofInt i_p0_dSeats), .int (Int32.ofInt i_p0_dStirs), .ref a_p0_dStir, .ref a_p0_dNeed, .int (Int32.ofInt i_p0_told), .int (Int32.ofInt i_p0_highest), .ref a_p0_tape, .int (Int32.ofInt i_p0_taped), .int (Int32.ofInt i_p0_pos), .int (Int32.ofInt i_p0_from), .int (Int32.ofInt i_p0_sort), .int (Int32.ofInt i_p0_value), .int (Int32.ofInt i_p0_fault), .int (Int32.ofInt i_p0_wrongAt), .ref a_p0_places, .ref a_p0_stirred, .ref a_p0_ways, .ref a_p0_waysThen, .ref a_p0_stays, .ref a_p0_fewest, .ref a_p0_bowls, .ref a_p0_has, .ref a_p0_goesOn, .ref a_p0_isThere, .ref a_p0_isThereThen, .ref a_p0_bestRow, .ref a_p0_lanes, .ref a_p0_sizes, .ref a_p0_cells, .int (Int32.ofInt i_p0_torn)])), (a_p0_st, .inl (G 1, 152, .inl (zA v_p0_st))), (a_p0_brings, .inl (G 1, 35, .inl (zA v_p0_brings))), (a_p0_places, .inl (G 1, 7, .inl (zA o_v_p0_places))), (a_p0_bowls, .inl (G 1, 7, .inl (zA o_v_p0_bowls))), (a_p0_has, .inl (G 1, 7, .inl (zA o_v_p0_has)))] (va_A [(a_p0, .inr (12, [.ref a_p0_st, .ref a_p0_isKept, .int (Int32.ofInt i_p0_seats), .int (Int32.ofInt i_p0_stirs), .ref a_p0_brings, .ref a_p0_need, .ref a_p0_draft, .int (Int32.ofInt i_p0_dSeats), .int (Int32.ofInt i_p0_dStirs), .ref a_p0_dStir, .ref a_p0_dNeed, .int (Int32.ofInt i_p0_told), .int (Int32.ofInt i_p0_highest), .ref a_p0_tape, .int (Int32.ofInt i_p0_taped), .int (Int32.ofInt i_p0_pos), .int (Int32.ofInt i_p0_from), .int (Int32.ofInt i_p0_sort), .int (Int32.ofInt i_p0_value), .int (Int32.ofInt i_p0_fault), .int (Int32.ofInt i_p0_wrongAt), .ref a_p0_places, .ref a_p0_stirred, .ref a_p0_ways, .ref a_p0_waysThen, .ref a_p0_stays, .ref a_p0_fewest, .ref a_p0_bowls, .ref a_p0_has, .ref a_p0_goesOn, .ref a_p0_isThere, .ref a_p0_isThereThen, .ref a_p0_bestRow, .ref a_p0_lanes, .ref a_p0_sizes, .ref a_p0_cells, .int (Int32.ofInt i_p0_torn)])), (a_p0_st, .inl (G 1, 152, .inl (zA v_p0_st))), (a_p0_brings, .inl (G 1, 35, .inl (zA v_p0_brings))), (a_p0_places, .inl (G 1, 7, .inl (zA v_p0_places))), (a_p0_bowls, .inl (G 1, 7, .inl (zA v_p0_bowls))), (a_p0_has, .inl (G 1, 7, .inl (zA v_p0_has)))] sz)) 0 0 (va_A [(a_p0, .inr (12, [.ref a_p0_st, .ref a_p0_isKept, .int (Int32.ofInt i_p0_seats), .int (Int32.ofInt i_p0_stirs), .ref a_p0_brings, .ref a_p0_need, .ref a_p0_draft, .int (Int32.ofInt i_p0_dSeats), .int (Int32.ofInt i_p0_dStirs), .ref a_p0_dStir, .ref a_p0_dNeed, .int (Int32.ofInt i_p0_told), .int (Int32.ofInt i_p0_highest), .ref a_p0_tape, .int (Int32.ofInt i_p0_taped), .int (Int32.ofInt i_p0_pos), .int (Int32.ofInt i_p0_from), .int (Int32.ofInt i_p0_sort), .int (Int32.ofInt i_p0_value), .int (Int32.ofInt i_p0_fault), .int (Int32.ofInt i_p0_wrongAt), .ref a_p0_places, .ref a_p0_stirred, .ref a_p0_ways, .ref a_p0_waysThen, .ref a_p0_stays, .ref a_p0_fewest, .ref a_p0_bowls, .ref a_p0_has, .ref a_p0_goesOn, .ref a_p0_isThere, .ref a_p0_isThereThen, .ref a_p0_bestRow, .ref a_p0_lanes, .ref a_p0_sizes, .ref a_p0_cells, .int (Int32.ofInt i_p0_torn)])), (a_p0_st, .inl (G 1, 152, .inl (zA v_p0_st))), (a_p0_brings, .inl (G 1, 35, .inl (zA v_p0_brings))), (a_p0_places, .inl (G 1, 7, .inl (zA v_p0_places))), (a_p0_bowls, .inl (G 1, 7, .inl (zA v_p0_bowls))), (a_p0_has, .inl (G 1, 7, .inl (zA v_p0_has)))] sz) := by
  refine Met.ofW (cc := cX12_coupBy) (maxL := 7) (ret := (some .int)) (by decide) rfl ?_
  intro p e s m args below meth c s₁ B hml hv
  obtain ⟨rfl, hsz, hP, hK, hD0⟩ := hv
  have hx := B.exec
  have hb := B.bytes
  have hr := B.returns
  have hts := atoms_spec (ws := wsX12_coupBy) B.pre
  have hown : s.vm.findClass RX12 = some m.cls := findClass_of_methodNamed B.named
  have hlocks := B.notSynchronized
  subst hsz
  have hD := hD0.self (sz := s.heap.size)
  generalize hAe : va_A [(a_p0, .inr (12, [.ref a_p0_st, .ref a_p0_isKept, .int (Int32.ofInt i_p0_seats), .int (Int32.ofInt i_p0_stirs), .ref a_p0_brings, .ref a_p0_need, .ref a_p0_draft, .int (Int32.ofInt i_p0_dSeats), .int (Int32.ofInt i_p0_dStirs), .ref a_p0_dStir, .ref a_p0_dNeed, .int (Int32.ofInt i_p0_told), .int (Int32.ofInt i_p0_highest), .ref a_p0_tape, .int (Int32.ofInt i_p0_taped), .int (Int32.ofInt i_p0_pos), .int (Int32.ofInt i_p0_from), .int (Int32.ofInt i_p0_sort), .int (Int32.ofInt i_p0_value), .int (Int32.ofInt i_p0_fault), .int (Int32.ofInt i_p0_wrongAt), .ref a_p0_places, .ref a_p0_stirred, .ref a_p0_ways, .ref a_p0_waysThen, .ref a_p0_stays, .ref a_p0_fewest, .ref a_p0_bowls, .ref a_p0_has, .ref a_p0_goesOn, .ref a_p0_isThere, .ref a_p0_isThereThen, .ref a_p0_bestRow, .ref a_p0_lanes, .ref a_p0_sizes, .ref a_p0_cells, .int (Int32.ofInt i_p0_torn)])), (a_p0_st, .inl (G 1, 152, .inl (zA v_p0_st))), (a_p0_brings, .inl (G 1, 35, .inl (zA v_p0_brings))), (a_p0_places, .inl (G 1, 7, .inl (zA v_p0_places))), (a_p0_bowls, .inl (G 1, 7, .inl (zA v_p0_bowls))), (a_p0_has, .inl (G 1, 7, .inl (zA v_p0_has)))] s.heap.size = A at hD ⊢
  have hA : ∀ q : Nat, s.heap.size ≤ q → A q := fun q h => by rw [← hAe]; exact Or.inr h
  clear hAe hD0
  have hS : va_S A s.heap s.heap [] := va_S.rf
  have hl := lv_entry ([.ref a_p0, .int (Int32.ofInt x1), .int (Int32.ofInt x2), .int (Int32.ofInt x3)]) (n := 7) (Nat.le_of_ble_eq_true rfl)
  rw [lg_entry_eq]
  generalize (lg_sl ([.ref a_p0, .int (Int32.ofInt x1), .int (Int32.ofInt x2), .int (Int32.ofInt x3)]) ++ List.replicate (7 - (lg_sl ([.ref a_p0, .int (Int32.ofInt x1), .int (Int32.ofInt x2), .int (Int32.ofInt x3)])).length) Slot.unset).toArray = ls at hl ⊢
  have hl : lv_has ls 7 [(0, .ref a_p0), (1, .int (Int32.ofInt x1)), (2, .int (Int32.ofInt x2)), (3, .int (Int32.ofInt x3))] := hl
  refine W_nameQ (fun Q hQ => ?_)
  obtain ⟨H, hH⟩ : ∃ H, H = s.heap := ⟨_, rfl⟩
  replace hS : va_S A s.heap H [] := by rw [hH]; exact hS
  replace hP : va_P D vwCl [(a_p0, .inr (12, [.ref a_p0_st, .ref a_p0_isKept, .int (Int32.ofInt i_p0_seats), .int (Int32.ofInt i_p0_stirs), .ref a_p0_brings, .ref a_p0_need, .ref a_p0_draft, .int (Int32.ofInt i_p0_dSeats), .int (Int32.ofInt i_p0_dStirs), .ref a_p0_dStir, .ref a_p0_dNeed, .int (Int32.ofInt i_p0_told), .int (Int32.ofInt i_p0_highest), .ref a_p0_tape, .int (Int32.ofInt i_p0_taped), .int (Int32.ofInt i_p0_pos), .int (Int32.ofInt i_p0_from), .int (Int32.ofInt i_p0_sort), .int (Int32.ofInt i_p0_value), .int (Int32.ofInt i_p0_fault), .int (Int32.ofInt i_p0_wrongAt), .ref a_p0_places, .ref a_p0_stirred, .ref a_p0_ways, .ref a_p0_waysThen, .ref a_p0_stays, .ref a_p0_fewest, .ref a_p0_bowls, .ref a_p0_has, .ref a_p0_goesOn, .ref a_p0_isThere, .ref a_p0_isThereThen, .ref a_p0_bestRow, .ref a_p0_lanes, .ref a_p0_sizes, .ref a_p0_cells, .int (Int32.ofInt i_p0_torn)])), (a_p0_st, .inl (G 1, 152, .inl (zA v_p0_st))), (a_p0_brings, .inl (G 1, 35, .inl (zA v_p0_brings))), (a_p0_places, .inl (G 1, 7, .inl (zA v_p0_places))), (a_p0_bowls, .inl (G 1, 7, .inl (zA v_p0_bowls))), (a_p0_has, .inl (G 1, 7, .inl (zA v_p0_has)))] H := by rw [hH]; exact hP
  rw [← hH]
  clear hH
  unfold f_X12_coupBy at hf
  refine lv_aload_n hx hb dX12_coupBy_0 rfl (lv_at hl 0 rfl) ?_
  refine lv_iload_n hx hb dX12_coupBy_1 rfl (lv_at hl 1 rfl) ?_
  refine lv_iload_n hx hb dX12_coupBy_2 rfl (lv_at hl 3 rfl) ?_
  have hq := bd2_s hf
  clear hf
  obtain ⟨w1, w2, hcall, hf⟩ := hq
  refine gsV (ws' := [(a_p0, .inr (12, [.ref a_p0_st, .ref a_p0_isKept, .int (Int32.ofInt i_p0_seats), .int (Int32.ofInt i_p0_stirs), .ref a_p0_brings, .ref a_p0_need, .ref a_p0_draft, .int (Int32.ofInt i_p0_dSeats), .int (Int32.ofInt i_p0_dStirs), .ref a_p0_dStir, .ref a_p0_dNeed, .int (Int32.ofInt i_p0_told), .int (Int32.ofInt i_p0_highest), .ref a_p0_tape, .int (Int32.ofInt i_p0_taped), .int (Int32.ofInt i_p0_pos), .int (Int32.ofInt i_p0_from), .int (Int32.ofInt i_p0_sort), .int (Int32.ofInt i_p0_value), .int (Int32.ofInt i_p0_fault), .int (Int32.ofInt i_p0_wrongAt), .ref a_p0_places, .ref a_p0_stirred, .ref a_p0_ways, .ref a_p0_waysThen, .ref a_p0_stays, .ref a_p0_fewest, .ref a_p0_bowls, .ref a_p0_has, .ref a_p0_goesOn, .ref a_p0_isThere, .ref a_p0_isThereThen, .ref a_p0_bestRow, .ref a_p0_lanes, .ref a_p0_sizes, .ref a_p0_cells, .int (Int32.ofInt i_p0_torn)])), (a_p0_st, .inl (G 1, 152, .inl (zA v_p0_st))), (a_p0_brings, .inl (G 1, 35, .inl (zA v_p0_brings))), (a_p0_places, .inl (G 1, 7, .inl (zA w1))), (a_p0_bowls, .inl (G 1, 7, .inl (zA w2))), (a_p0_has, .inl (G 1, 7, .inl (zA v_p0_has)))]) (va_runV (As := [.int (Int32.ofInt x1), .int (Int32.ofInt x3)]) (rest := []) ⟨hx, hb, hml, hown, hts⟩ (c_X12_findBowls (l := l) (D := D) (G := G) (sz := H.size) (a_p0 := a_p0) (a_p0_st := a_p0_st) (a_p0_isKept := a_p0_isKept) (a_p0_brings := a_p0_brings) (a_p0_need := a_p0_need) (a_p0_draft := a_p0_draft) (a_p0_dStir := a_p0_dStir) (a_p0_dNeed := a_p0_dNeed) (a_p0_tape := a_p0_tape) (a_p0_places := a_p0_places) (a_p0_stirred := a_p0_stirred) (a_p0_ways := a_p0_ways) (a_p0_waysThen := a_p0_waysThen) (a_p0_stays := a_p0_stays) (a_p0_fewest := a_p0_fewest) (a_p0_bowls := a_p0_bowls) (a_p0_has := a_p0_has) (a_p0_goesOn := a_p0_goesOn) (a_p0_isThere := a_p0_isThere) (a_p0_isThereThen := a_p0_isThereThen) (a_p0_bestRow := a_p0_bestRow) (a_p0_lanes := a_p0_lanes) (a_p0_sizes := a_p0_sizes) (a_p0_cells := a_p0_cells) (i_p0_seats := i_p0_seats) (i_p0_stirs := i_p0_stirs) (i_p0_dSeats := i_p0_dSeats) (i_p0_dStirs := i_p0_dStirs) (i_p0_told := i_p0_told) (i_p0_highest := i_p0_highest) (i_p0_taped := i_p0_taped) (i_p0_pos := i_p0_pos) (i_p0_from := i_p0_from) (i_p0_sort := i_p0_sort) (i_p0_value := i_p0_value) (i_p0_fault := i_p0_fault) (i_p0_wrongAt := i_p0_wrongAt) (i_p0_torn := i_p0_torn) (v_p0_st := v_p0_st) (v_p0_brings := v_p0_brings) (v_p0_places := v_p0_places) (v_p0_bowls := v_p0_bowls) (x1 := x1) (x2 := x3) (o_v_p0_places := w1) (o_v_p0_bowls := w2) (hf := hcall)) (cwV 2 hts gX12_coupBy_X12_findBowls rfl rfl rfl hdV_yX12_findBowls_RX12 ⟨Nat.le_of_ble_eq_true rfl, Nat.le_of_ble_eq_true rfl⟩) (preG_V (ci := 12) (q := (RX12, TX12, 37)) (hP.sub [0, 1, 2, 3, 4] rfl) (hD.sub [0, 1, 2, 3, 4] rfl rfl) hK rfl rfl) rfl rfl hl.1 rfl (lv_room (Nat.le_of_ble_eq_true rfl)) dX12_coupBy_3 ⟨Nat.le_of_ble_eq_true rfl, Nat.le_of_ble_eq_true rfl⟩) hP hD hS hA [0, 1, 2, 3, 4] rfl rfl rfl (fun H locs hP hD hS => ?_)
  clear hcall
  refine lv_iconst (v := Int32.ofInt (0 : Int)) hx hb dX12_coupBy_6 (by decide) ?_
  refine z_topi (fun z3 ez => ?_)
  replace hf := bnd_s hf ez
  clear ez
  refine lv_istore (lv' := [(4, .int (Int32.ofInt z3)), (0, .ref a_p0), (1, .int (Int32.ofInt x1)), (2, .int (Int32.ofInt x2)), (3, .int (Int32.ofInt x3))]) hx hb dX12_coupBy_7 hl (by decide) rfl (fun ls hl => ?_)
  have hq := jn_i hf
  clear hf
  obtain ⟨J5, eJ5, hf⟩ := hq
  have hJ5 : ∀ (w4 : (Int → Int)) (ls : Array Slot) (H : Heap) (locs : List Loc), lv_has ls 7 [(0, .ref a_p0), (2, .int (Int32.ofInt x2)), (3, .int (Int32.ofInt x3))] → va_P D vwCl [(a_p0, .inr (12, [.ref a_p0_st, .ref a_p0_isKept, .int (Int32.ofInt i_p0_seats), .int (Int32.ofInt i_p0_stirs), .ref a_p0_brings, .ref a_p0_need, .ref a_p0_draft, .int (Int32.ofInt i_p0_dSeats), .int (Int32.ofInt i_p0_dStirs), .ref a_p0_dStir, .ref a_p0_dNeed, .int (Int32.ofInt i_p0_told), .int (Int32.ofInt i_p0_highest), .ref a_p0_tape, .int (Int32.ofInt i_p0_taped), .int (Int32.ofInt i_p0_pos), .int (Int32.ofInt i_p0_from), .int (Int32.ofInt i_p0_sort), .int (Int32.ofInt i_p0_value), .int (Int32.ofInt i_p0_fault), .int (Int32.ofInt i_p0_wrongAt), .ref a_p0_places, .ref a_p0_stirred, .ref a_p0_ways, .ref a_p0_waysThen, .ref a_p0_stays, .ref a_p0_fewest, .ref a_p0_bowls, .ref a_p0_has, .ref a_p0_goesOn, .ref a_p0_isThere, .ref a_p0_isThereThen, .ref a_p0_bestRow, .ref a_p0_lanes, .ref a_p0_sizes, .ref a_p0_cells, .int (Int32.ofInt i_p0_torn)])), (a_p0_st, .inl (G 1, 152, .inl (zA v_p0_st))), (a_p0_brings, .inl (G 1, 35, .inl (zA v_p0_brings))), (a_p0_places, .inl (G 1, 7, .inl (zA w1))), (a_p0_bowls, .inl (G 1, 7, .inl (zA w2))), (a_p0_has, .inl (G 1, 7, .inl (zA w4)))] H → va_D A [(a_p0, .inr (12, [.ref a_p0_st, .ref a_p0_isKept, .int (Int32.ofInt i_p0_seats), .int (Int32.ofInt i_p0_stirs), .ref a_p0_brings, .ref a_p0_need, .ref a_p0_draft, .int (Int32.ofInt i_p0_dSeats), .int (Int32.ofInt i_p0_dStirs), .ref a_p0_dStir, .ref a_p0_dNeed, .int (Int32.ofInt i_p0_told), .int (Int32.ofInt i_p0_highest), .ref a_p0_tape, .int (Int32.ofInt i_p0_taped), .int (Int32.ofInt i_p0_pos), .int (Int32.ofInt i_p0_from), .int (Int32.ofInt i_p0_sort), .int (Int32.ofInt i_p0_value), .int (Int32.ofInt i_p0_fault), .int (Int32.ofInt i_p0_wrongAt), .ref a_p0_places, .ref a_p0_stirred, .ref a_p0_ways, .ref a_p0_waysThen, .ref a_p0_stays, .ref a_p0_fewest, .ref a_p0_bowls, .ref a_p0_has, .ref a_p0_goesOn, .ref a_p0_isThere, .ref a_p0_isThereThen, .ref a_p0_bestRow, .ref a_p0_lanes, .ref a_p0_sizes, .ref a_p0_cells, .int (Int32.ofInt i_p0_torn)])), (a_p0_st, .inl (G 1, 152, .inl (zA v_p0_st))), (a_p0_brings, .inl (G 1, 35, .inl (zA v_p0_brings))), (a_p0_places, .inl (G 1, 7, .inl (zA w1))), (a_p0_bowls, .inl (G 1, 7, .inl (zA w2))), (a_p0_has, .inl (G 1, 7, .inl (zA w4)))] → va_S A s.heap H locs → J5 w4 = some (r, o_v_p0_places, o_v_p0_bowls, o_v_p0_has) → W p l e rm_X12_coupBy s m ([.ref a_p0, .int (Int32.ofInt x1), .int (Int32.ofInt x2), .int (Int32.ofInt x3)] : List Value).toArray below meth c H locs 0 0 Q (F0 m 38 ls []) := by
    clear hf hl hP hD hS
    intro w4 ls H locs hl hP hD hS hf
    replace hf := jn1_s eJ5 hf
    refine lv_aload_n hx hb dX12_coupBy_38 rfl (lv_at hl 0 rfl) ?_
    refine lv_iload_n hx hb dX12_coupBy_39 rfl (lv_at hl 1 rfl) ?_
    refine lv_iload_n hx hb dX12_coupBy_40 rfl (lv_at hl 2 rfl) ?_
    have hq := bd2_s hf
    clear hf
    obtain ⟨w6, w7, hcall, hf⟩ := hq
    refine gsV (ws' := [(a_p0, .inr (12, [.ref a_p0_st, .ref a_p0_isKept, .int (Int32.ofInt i_p0_seats), .int (Int32.ofInt i_p0_stirs), .ref a_p0_brings, .ref a_p0_need, .ref a_p0_draft, .int (Int32.ofInt i_p0_dSeats), .int (Int32.ofInt i_p0_dStirs), .ref a_p0_dStir, .ref a_p0_dNeed, .int (Int32.ofInt i_p0_told), .int (Int32.ofInt i_p0_highest), .ref a_p0_tape, .int (Int32.ofInt i_p0_taped), .int (Int32.ofInt i_p0_pos), .int (Int32.ofInt i_p0_from), .int (Int32.ofInt i_p0_sort), .int (Int32.ofInt i_p0_value), .int (Int32.ofInt i_p0_fault), .int (Int32.ofInt i_p0_wrongAt), .ref a_p0_places, .ref a_p0_stirred, .ref a_p0_ways, .ref a_p0_waysThen, .ref a_p0_stays, .ref a_p0_fewest, .ref a_p0_bowls, .ref a_p0_has, .ref a_p0_goesOn, .ref a_p0_isThere, .ref a_p0_isThereThen, .ref a_p0_bestRow, .ref a_p0_lanes, .ref a_p0_sizes, .ref a_p0_cells, .int (Int32.ofInt i_p0_torn)])), (a_p0_st, .inl (G 1, 152, .inl (zA v_p0_st))), (a_p0_brings, .inl (G 1, 35, .inl (zA v_p0_brings))), (a_p0_places, .inl (G 1, 7, .inl (zA w6))), (a_p0_bowls, .inl (G 1, 7, .inl (zA w7))), (a_p0_has, .inl (G 1, 7, .inl (zA w4)))]) (va_runV (As := [.int (Int32.ofInt x2), .int (Int32.ofInt x3)]) (rest := []) ⟨hx, hb, hml, hown, hts⟩ (c_X12_findBowls (l := l) (D := D) (G := G) (sz := H.size) (a_p0 := a_p0) (a_p0_st := a_p0_st) (a_p0_isKept := a_p0_isKept) (a_p0_brings := a_p0_brings) (a_p0_need := a_p0_need) (a_p0_draft := a_p0_draft) (a_p0_dStir := a_p0_dStir) (a_p0_dNeed := a_p0_dNeed) (a_p0_tape := a_p0_tape) (a_p0_places := a_p0_places) (a_p0_stirred := a_p0_stirred) (a_p0_ways := a_p0_ways) (a_p0_waysThen := a_p0_waysThen) (a_p0_stays := a_p0_stays) (a_p0_fewest := a_p0_fewest) (a_p0_bowls := a_p0_bowls) (a_p0_has := a_p0_has) (a_p0_goesOn := a_p0_goesOn) (a_p0_isThere := a_p0_isThere) (a_p0_isThereThen := a_p0_isThereThen) (a_p0_bestRow := a_p0_bestRow) (a_p0_lanes := a_p0_lanes) (a_p0_sizes := a_p0_sizes) (a_p0_cells := a_p0_cells) (i_p0_seats := i_p0_seats) (i_p0_stirs := i_p0_stirs) (i_p0_dSeats := i_p0_dSeats) (i_p0_dStirs := i_p0_dStirs) (i_p0_told := i_p0_told) (i_p0_highest := i_p0_highest) (i_p0_taped := i_p0_taped) (i_p0_pos := i_p0_pos) (i_p0_from := i_p0_from) (i_p0_sort := i_p0_sort) (i_p0_value := i_p0_value) (i_p0_fault := i_p0_fault) (i_p0_wrongAt := i_p0_wrongAt) (i_p0_torn := i_p0_torn) (v_p0_st := v_p0_st) (v_p0_brings := v_p0_brings) (v_p0_places := w1) (v_p0_bowls := w2) (x1 := x2) (x2 := x3) (o_v_p0_places := w6) (o_v_p0_bowls := w7) (hf := hcall)) (cwV 2 hts gX12_coupBy_X12_findBowls rfl rfl rfl hdV_yX12_findBowls_RX12 ⟨Nat.le_of_ble_eq_true rfl, Nat.le_of_ble_eq_true rfl⟩) (preG_V (ci := 12) (q := (RX12, TX12, 37)) (hP.sub [0, 1, 2, 3, 4] rfl) (hD.sub [0, 1, 2, 3, 4] rfl rfl) hK rfl rfl) rfl rfl hl.1 rfl (lv_room (Nat.le_of_ble_eq_true rfl)) dX12_coupBy_41 ⟨Nat.le_of_ble_eq_true rfl, Nat.le_of_ble_eq_true rfl⟩) hP hD hS hA [0, 1, 2, 3, 4] rfl rfl rfl (fun H locs hP hD hS => ?_)
    clear hcall
    refine lv_iconst (v := Int32.ofInt (0 : Int)) hx hb dX12_coupBy_44 (by decide) ?_
    refine z_topi (fun z8 ez => ?_)
    replace hf := bnd_s hf ez
    clear ez
    refine lv_istore (lv' := [(4, .int (Int32.ofInt z8)), (0, .ref a_p0), (2, .int (Int32.ofInt x2)), (3, .int (Int32.ofInt x3))]) hx hb dX12_coupBy_45 hl (by decide) rfl (fun ls hl => ?_)
    refine lv_iconst (v := Int32.ofInt (0 : Int)) hx hb dX12_coupBy_47 (by decide) ?_
    refine z_topi (fun z9 ez => ?_)
    replace hf := bnd_s hf ez
    clear ez
    refine lv_istore (lv' := [(5, .int (Int32.ofInt z9)), (4, .int (Int32.ofInt z8)), (0, .ref a_p0), (2, .int (Int32.ofInt x2)), (3, .int (Int32.ofInt x3))]) hx hb dX12_coupBy_48 hl (by decide) rfl (fun ls hl => ?_)
    have hq := jn_i hf
    clear hf
    obtain ⟨J11, eJ11, hf⟩ := hq
    have hJ11 : ∀ (z10 : Int) (ls : Array Slot) (H : Heap) (locs : List Loc), lv_has ls 7 [(4, .int (Int32.ofInt z10)), (0, .ref a_p0), (2, .int (Int32.ofInt x2))] → va_P D vwCl [(a_p0, .inr (12, [.ref a_p0_st, .ref a_p0_isKept, .int (Int32.ofInt i_p0_seats), .int (Int32.ofInt i_p0_stirs), .ref a_p0_brings, .ref a_p0_need, .ref a_p0_draft, .int (Int32.ofInt i_p0_dSeats), .int (Int32.ofInt i_p0_dStirs), .ref a_p0_dStir, .ref a_p0_dNeed, .int (Int32.ofInt i_p0_told), .int (Int32.ofInt i_p0_highest), .ref a_p0_tape, .int (Int32.ofInt i_p0_taped), .int (Int32.ofInt i_p0_pos), .int (Int32.ofInt i_p0_from), .int (Int32.ofInt i_p0_sort), .int (Int32.ofInt i_p0_value), .int (Int32.ofInt i_p0_fault), .int (Int32.ofInt i_p0_wrongAt), .ref a_p0_places, .ref a_p0_stirred, .ref a_p0_ways, .ref a_p0_waysThen, .ref a_p0_stays, .ref a_p0_fewest, .ref a_p0_bowls, .ref a_p0_has, .ref a_p0_goesOn, .ref a_p0_isThere, .ref a_p0_isThereThen, .ref a_p0_bestRow, .ref a_p0_lanes, .ref a_p0_sizes, .ref a_p0_cells, .int (Int32.ofInt i_p0_torn)])), (a_p0_st, .inl (G 1, 152, .inl (zA v_p0_st))), (a_p0_brings, .inl (G 1, 35, .inl (zA v_p0_brings))), (a_p0_places, .inl (G 1, 7, .inl (zA w6))), (a_p0_bowls, .inl (G 1, 7, .inl (zA w7))), (a_p0_has, .inl (G 1, 7, .inl (zA w4)))] H → va_D A [(a_p0, .inr (12, [.ref a_p0_st, .ref a_p0_isKept, .int (Int32.ofInt i_p0_seats), .int (Int32.ofInt i_p0_stirs), .ref a_p0_brings, .ref a_p0_need, .ref a_p0_draft, .int (Int32.ofInt i_p0_dSeats), .int (Int32.ofInt i_p0_dStirs), .ref a_p0_dStir, .ref a_p0_dNeed, .int (Int32.ofInt i_p0_told), .int (Int32.ofInt i_p0_highest), .ref a_p0_tape, .int (Int32.ofInt i_p0_taped), .int (Int32.ofInt i_p0_pos), .int (Int32.ofInt i_p0_from), .int (Int32.ofInt i_p0_sort), .int (Int32.ofInt i_p0_value), .int (Int32.ofInt i_p0_fault), .int (Int32.ofInt i_p0_wrongAt), .ref a_p0_places, .ref a_p0_stirred, .ref a_p0_ways, .ref a_p0_waysThen, .ref a_p0_stays, .ref a_p0_fewest, .ref a_p0_bowls, .ref a_p0_has, .ref a_p0_goesOn, .ref a_p0_isThere, .ref a_p0_isThereThen, .ref a_p0_bestRow, .ref a_p0_lanes, .ref a_p0_sizes, .ref a_p0_cells, .int (Int32.ofInt i_p0_torn)])), (a_p0_st, .inl (G 1, 152, .inl (zA v_p0_st))), (a_p0_brings, .inl (G 1, 35, .inl (zA v_p0_brings))), (a_p0_places, .inl (G 1, 7, .inl (zA w6))), (a_p0_bowls, .inl (G 1, 7, .inl (zA w7))), (a_p0_has, .inl (G 1, 7, .inl (zA w4)))] → va_S A s.heap H locs → J11 z10 = some (r, o_v_p0_places, o_v_p0_bowls, o_v_p0_has) → W p l e rm_X12_coupBy s m ([.ref a_p0, .int (Int32.ofInt x1), .int (Int32.ofInt x2), .int (Int32.ofInt x3)] : List Value).toArray below meth c H locs 0 0 Q (F0 m 98 ls []) := by
      clear hf hl hP hD hS
      intro z10 ls H locs hl hP hD hS hf
      replace hf := jn1_s eJ11 hf
      refine lv_aload_n hx hb dX12_coupBy_98 rfl (lv_at hl 1 rfl) ?_
      refine lv_iconst (v := Int32.ofInt (1 : Int)) hx hb dX12_coupBy_99 (by decide) ?_
      refine lv_aload_n hx hb dX12_coupBy_100 rfl (lv_at hl 1 rfl) ?_
      refine va_get (D := D) (ci := 12) (v := .int (Int32.ofInt i_p0_seats)) (C := RX12) (T := TX12) (N := 37) hx hb hts inX12_coupBy_X12 hown hK hP 0 rfl rfl 2 (by decide) (hts _ mwX12_coupBy_2) (fun _ h9 => h9) rfl dX12_coupBy_101 ?_
      refine lv_ishl hx hb dX12_coupBy_104 (z_ci (z_shl_e (1 : Int) i_p0_seats) ?_)
      refine lv_iconst (v := Int32.ofInt (1 : Int)) hx hb dX12_coupBy_105 (by decide) ?_
      refine lv_isub hx hb dX12_coupBy_106 (z_ci (Int32.ofInt_sub (z_shl (1 : Int) i_p0_seats) (1 : Int)) ?_)
      have hq := bd1_s hf
      clear hf
      obtain ⟨z12, hcall, hf⟩ := hq
      refine gnI (va_runV (As := [.int (Int32.ofInt ((z_shl (1 : Int) i_p0_seats) - (1 : Int)))]) (rest := []) ⟨hx, hb, hml, hown, hts⟩ (c_X12_spoonsOf (l := l) (D := D) (G := G) (sz := H.size) (a_p0 := a_p0) (a_p0_st := a_p0_st) (a_p0_isKept := a_p0_isKept) (a_p0_brings := a_p0_brings) (a_p0_need := a_p0_need) (a_p0_draft := a_p0_draft) (a_p0_dStir := a_p0_dStir) (a_p0_dNeed := a_p0_dNeed) (a_p0_tape := a_p0_tape) (a_p0_places := a_p0_places) (a_p0_stirred := a_p0_stirred) (a_p0_ways := a_p0_ways) (a_p0_waysThen := a_p0_waysThen) (a_p0_stays := a_p0_stays) (a_p0_fewest := a_p0_fewest) (a_p0_bowls := a_p0_bowls) (a_p0_has := a_p0_has) (a_p0_goesOn := a_p0_goesOn) (a_p0_isThere := a_p0_isThere) (a_p0_isThereThen := a_p0_isThereThen) (a_p0_bestRow := a_p0_bestRow) (a_p0_lanes := a_p0_lanes) (a_p0_sizes := a_p0_sizes) (a_p0_cells := a_p0_cells) (i_p0_seats := i_p0_seats) (i_p0_stirs := i_p0_stirs) (i_p0_dSeats := i_p0_dSeats) (i_p0_dStirs := i_p0_dStirs) (i_p0_told := i_p0_told) (i_p0_highest := i_p0_highest) (i_p0_taped := i_p0_taped) (i_p0_pos := i_p0_pos) (i_p0_from := i_p0_from) (i_p0_sort := i_p0_sort) (i_p0_value := i_p0_value) (i_p0_fault := i_p0_fault) (i_p0_wrongAt := i_p0_wrongAt) (i_p0_torn := i_p0_torn) (v_p0_st := v_p0_st) (x1 := ((z_shl (1 : Int) i_p0_seats) - (1 : Int))) (r := z12) (hf := hcall)) (cwV 1 hts gX12_coupBy_X12_spoonsOf rfl rfl rfl hdV_yX12_spoonsOf_RX12 ⟨Nat.le_of_ble_eq_true rfl, Nat.le_of_ble_eq_true rfl⟩) (preG_V (ci := 12) (q := (RX12, TX12, 37)) (hP.sub [0, 1] rfl) (hD.sub [0, 1] rfl rfl) hK rfl rfl) rfl rfl hl.1 rfl (lv_room (Nat.le_of_ble_eq_true rfl)) dX12_coupBy_107 ⟨Nat.le_of_ble_eq_true rfl, Nat.le_of_ble_eq_true rfl⟩) hP hD hS hA [0, 1] rfl (fun H locs hP hD hS => ?_)
      clear hcall
      refine z_topi (fun z13 ez => ?_)
      replace hf := bnd_s hf ez
      clear ez
      refine lv_istore (lv' := [(5, .int (Int32.ofInt z13)), (4, .int (Int32.ofInt z10)), (0, .ref a_p0), (2, .int (Int32.ofInt x2))]) hx hb dX12_coupBy_110 hl (by decide) rfl (fun ls hl => ?_)
      refine lv_iconst (v := Int32.ofInt (1 : Int)) hx hb dX12_coupBy_112 (by decide) ?_
      refine z_topi (fun z14 ez => ?_)
      replace hf := bnd_s hf ez
      clear ez
      refine lv_istore (lv' := [(6, .int (Int32.ofInt z14)), (5, .int (Int32.ofInt z13)), (4, .int (Int32.ofInt z10)), (0, .ref a_p0), (2, .int (Int32.ofInt x2))]) hx hb dX12_coupBy_113 hl (by decide) rfl (fun ls hl => ?_)
      have hq := lq1_i hf
      clear hf
      obtain ⟨B16, eB16, NB16, hf⟩ := hq
      have hB16 : ∀ (n : Nat) (z15 : Int) (ls : Array Slot) (H : Heap) (locs : List Loc), lv_has ls 7 [(6, .int (Int32.ofInt z15)), (5, .int (Int32.ofInt z13)), (4, .int (Int32.ofInt z10)), (0, .ref a_p0), (2, .int (Int32.ofInt x2))] → va_P D vwCl [(a_p0, .inr (12, [.ref a_p0_st, .ref a_p0_isKept, .int (Int32.ofInt i_p0_seats), .int (Int32.ofInt i_p0_stirs), .ref a_p0_brings, .ref a_p0_need, .ref a_p0_draft, .int (Int32.ofInt i_p0_dSeats), .int (Int32.ofInt i_p0_dStirs), .ref a_p0_dStir, .ref a_p0_dNeed, .int (Int32.ofInt i_p0_told), .int (Int32.ofInt i_p0_highest), .ref a_p0_tape, .int (Int32.ofInt i_p0_taped), .int (Int32.ofInt i_p0_pos), .int (Int32.ofInt i_p0_from), .int (Int32.ofInt i_p0_sort), .int (Int32.ofInt i_p0_value), .int (Int32.ofInt i_p0_fault), .int (Int32.ofInt i_p0_wrongAt), .ref a_p0_places, .ref a_p0_stirred, .ref a_p0_ways, .ref a_p0_waysThen, .ref a_p0_stays, .ref a_p0_fewest, .ref a_p0_bowls, .ref a_p0_has, .ref a_p0_goesOn, .ref a_p0_isThere, .ref a_p0_isThereThen, .ref a_p0_bestRow, .ref a_p0_lanes, .ref a_p0_sizes, .ref a_p0_cells, .int (Int32.ofInt i_p0_torn)])), (a_p0_st, .inl (G 1, 152, .inl (zA v_p0_st))), (a_p0_brings, .inl (G 1, 35, .inl (zA v_p0_brings))), (a_p0_places, .inl (G 1, 7, .inl (zA w6))), (a_p0_bowls, .inl (G 1, 7, .inl (zA w7))), (a_p0_has, .inl (G 1, 7, .inl (zA w4)))] H → va_D A [(a_p0, .inr (12, [.ref a_p0_st, .ref a_p0_isKept, .int (Int32.ofInt i_p0_seats), .int (Int32.ofInt i_p0_stirs), .ref a_p0_brings, .ref a_p0_need, .ref a_p0_draft, .int (Int32.ofInt i_p0_dSeats), .int (Int32.ofInt i_p0_dStirs), .ref a_p0_dStir, .ref a_p0_dNeed, .int (Int32.ofInt i_p0_told), .int (Int32.ofInt i_p0_highest), .ref a_p0_tape, .int (Int32.ofInt i_p0_taped), .int (Int32.ofInt i_p0_pos), .int (Int32.ofInt i_p0_from), .int (Int32.ofInt i_p0_sort), .int (Int32.ofInt i_p0_value), .int (Int32.ofInt i_p0_fault), .int (Int32.ofInt i_p0_wrongAt), .ref a_p0_places, .ref a_p0_stirred, .ref a_p0_ways, .ref a_p0_waysThen, .ref a_p0_stays, .ref a_p0_fewest, .ref a_p0_bowls, .ref a_p0_has, .ref a_p0_goesOn, .ref a_p0_isThere, .ref a_p0_isThereThen, .ref a_p0_bestRow, .ref a_p0_lanes, .ref a_p0_sizes, .ref a_p0_cells, .int (Int32.ofInt i_p0_torn)])), (a_p0_st, .inl (G 1, 152, .inl (zA v_p0_st))), (a_p0_brings, .inl (G 1, 35, .inl (zA v_p0_brings))), (a_p0_places, .inl (G 1, 7, .inl (zA w6))), (a_p0_bowls, .inl (G 1, 7, .inl (zA w7))), (a_p0_has, .inl (G 1, 7, .inl (zA w4)))] → va_S A s.heap H locs → lq1 B16 n z15 = some (r, o_v_p0_places, o_v_p0_bowls, o_v_p0_has) → W p l e rm_X12_coupBy s m ([.ref a_p0, .int (Int32.ofInt x1), .int (Int32.ofInt x2), .int (Int32.ofInt x3)] : List Value).toArray below meth c H locs 0 0 Q (F0 m 115 ls []) := by
        clear hf hl hP hD hS
        intro n
        induction n with
        | zero =>
          intro z15 ls H locs hl hP hD hS hf
          exact (lq1_0 hf).elim
        | succ n ih115 =>
          intro z15 ls H locs hl hP hD hS hf
          replace hf := lq1_s eB16 hf
          unfold B_X12_coupBy_115 at hf
          refine lv_iload hx hb dX12_coupBy_115 (lv_at hl 0 rfl) ?_
          refine lv_iconst (v := Int32.ofInt (1 : Int)) hx hb dX12_coupBy_117 (by decide) ?_
          refine lv_aload_n hx hb dX12_coupBy_118 rfl (lv_at hl 3 rfl) ?_
          refine va_get (D := D) (ci := 12) (v := .int (Int32.ofInt i_p0_seats)) (C := RX12) (T := TX12) (N := 37) hx hb hts inX12_coupBy_X12 hown hK hP 0 rfl rfl 2 (by decide) (hts _ mwX12_coupBy_2) (fun _ h9 => h9) rfl dX12_coupBy_119 ?_
          refine lv_ishl hx hb dX12_coupBy_122 (z_ci (z_shl_e (1 : Int) i_p0_seats) ?_)
          have hr16 := ck_c hf
          replace hf := ck_r hf
          have hr17 := ck_c hf
          replace hf := ck_r hf
          refine lv_icmp_ge (tgt := 168) hx hb dX12_coupBy_123 (by decide) (fun cc => ?_) (fun cc => ?_)
          ·
            replace hf := ite_t ((z_le hr17 hr16).mp cc) hf
            clear cc
            refine lv_bipush (v := Int32.ofInt (-4 : Int)) hx hb dX12_coupBy_168 (by decide) ?_
            obtain ⟨rfl, rfl, rfl, rfl⟩ := ou4 hf
            rw [hQ]
            exact W.iret hx hb hr (fun t ht hW => ⟨⟨_, (), rfl, rfl, by rw [ht]; exact hP, va_K.moved hW.alike hK, hD⟩, hS.F ht⟩) hS.2.2 dX12_coupBy_170
          ·
            replace hf := ite_f (fun h9 => cc ((z_le hr17 hr16).mpr h9)) hf
            clear cc
            refine lv_iload hx hb dX12_coupBy_126 (lv_at hl 0 rfl) ?_
            refine lv_iload hx hb dX12_coupBy_128 (lv_at hl 2 rfl) ?_
            refine lv_iconst (v := Int32.ofInt (-1 : Int)) hx hb dX12_coupBy_130 (by decide) ?_
            refine lv_ixor hx hb dX12_coupBy_131 (z_ci (z_xor_e z10 (-1 : Int)) ?_)
            refine lv_iand hx hb dX12_coupBy_132 (z_ci (z_and_e z15 (z_xor z10 (-1 : Int))) ?_)
            have hr18 := ck_c hf
            replace hf := ck_r hf
            refine lv_if_ne (tgt := 162) hx hb dX12_coupBy_133 (by decide) (fun cc => ?_) (fun cc => ?_)
            ·
              replace hf := ite_f (fun h9 => cc ((z_eq0 hr18).mpr h9)) hf
              clear cc
              obtain ⟨z20, ez⟩ : ∃ y : Int, y = (z15 + (1 : Int)) := ⟨_, rfl⟩
              replace hf := bnd_s hf ez
              refine lv_iinc (v := Int32.ofInt z20) (lv' := [(6, .int (Int32.ofInt z20)), (5, .int (Int32.ofInt z13)), (4, .int (Int32.ofInt z10)), (0, .ref a_p0), (2, .int (Int32.ofInt x2))]) hx hb dX12_coupBy_162 hl (k := 0) rfl (by rw [ez]; exact (Int32.ofInt_add _ _).symm) (by decide) rfl (fun ls hl => ?_)
              clear ez
              refine lv_goto (tgt := 115) hx hb dX12_coupBy_165 (by decide) ?_
              exact ih115 _ _ _ _ (lv_sub hl [0, 1, 2, 3, 4] rfl) hP hD hS hf
            ·
              replace hf := ite_t ((z_eq0 hr18).mp cc) hf
              clear cc
              refine lv_iload hx hb dX12_coupBy_136 (lv_at hl 0 rfl) ?_
              refine lv_iload_n hx hb dX12_coupBy_138 rfl (lv_at hl 4 rfl) ?_
              refine lv_ishr hx hb dX12_coupBy_139 (z_ci (z_shr_e z15 x2) ?_)
              refine lv_iconst (v := Int32.ofInt (1 : Int)) hx hb dX12_coupBy_140 (by decide) ?_
              refine lv_iand hx hb dX12_coupBy_141 (z_ci (z_and_e (z_shr z15 x2) (1 : Int)) ?_)
              refine lv_iconst (v := Int32.ofInt (1 : Int)) hx hb dX12_coupBy_142 (by decide) ?_
              have hr20 := ck_c hf
              replace hf := ck_r hf
              refine lv_icmp_ne (tgt := 162) hx hb dX12_coupBy_143 (by decide) (fun cc => ?_) (fun cc => ?_)
              ·
                replace hf := ite_f (fun h9 => cc ((z_eq hr20 (by decide)).mpr h9)) hf
                clear cc
                obtain ⟨z22, ez⟩ : ∃ y : Int, y = (z15 + (1 : Int)) := ⟨_, rfl⟩
                replace hf := bnd_s hf ez
                refine lv_iinc (v := Int32.ofInt z22) (lv' := [(6, .int (Int32.ofInt z22)), (5, .int (Int32.ofInt z13)), (4, .int (Int32.ofInt z10)), (0, .ref a_p0), (2, .int (Int32.ofInt x2))]) hx hb dX12_coupBy_162 hl (k := 0) rfl (by rw [ez]; exact (Int32.ofInt_add _ _).symm) (by decide) rfl (fun ls hl => ?_)
                clear ez
                refine lv_goto (tgt := 115) hx hb dX12_coupBy_165 (by decide) ?_
                exact ih115 _ _ _ _ (lv_sub hl [0, 1, 2, 3, 4] rfl) hP hD hS hf
              ·
                replace hf := ite_t ((z_eq hr20 (by decide)).mp cc) hf
                clear cc
                refine lv_iconst (v := Int32.ofInt (2 : Int)) hx hb dX12_coupBy_146 (by decide) ?_
                refine lv_aload_n hx hb dX12_coupBy_147 rfl (lv_at hl 3 rfl) ?_
                refine lv_iload hx hb dX12_coupBy_148 (lv_at hl 0 rfl) ?_
                have hq := bd1_s hf
                clear hf
                obtain ⟨z23, hcall, hf⟩ := hq
                refine gnI (va_runV (As := [.int (Int32.ofInt z15)]) (rest := [.int (Int32.ofInt (2 : Int))]) ⟨hx, hb, hml, hown, hts⟩ (c_X12_spoonsOf (l := l) (D := D) (G := G) (sz := H.size) (a_p0 := a_p0) (a_p0_st := a_p0_st) (a_p0_isKept := a_p0_isKept) (a_p0_brings := a_p0_brings) (a_p0_need := a_p0_need) (a_p0_draft := a_p0_draft) (a_p0_dStir := a_p0_dStir) (a_p0_dNeed := a_p0_dNeed) (a_p0_tape := a_p0_tape) (a_p0_places := a_p0_places) (a_p0_stirred := a_p0_stirred) (a_p0_ways := a_p0_ways) (a_p0_waysThen := a_p0_waysThen) (a_p0_stays := a_p0_stays) (a_p0_fewest := a_p0_fewest) (a_p0_bowls := a_p0_bowls) (a_p0_has := a_p0_has) (a_p0_goesOn := a_p0_goesOn) (a_p0_isThere := a_p0_isThere) (a_p0_isThereThen := a_p0_isThereThen) (a_p0_bestRow := a_p0_bestRow) (a_p0_lanes := a_p0_lanes) (a_p0_sizes := a_p0_sizes) (a_p0_cells := a_p0_cells) (i_p0_seats := i_p0_seats) (i_p0_stirs := i_p0_stirs) (i_p0_dSeats := i_p0_dSeats) (i_p0_dStirs := i_p0_dStirs) (i_p0_told := i_p0_told) (i_p0_highest := i_p0_highest) (i_p0_taped := i_p0_taped) (i_p0_pos := i_p0_pos) (i_p0_from := i_p0_from) (i_p0_sort := i_p0_sort) (i_p0_value := i_p0_value) (i_p0_fault := i_p0_fault) (i_p0_wrongAt := i_p0_wrongAt) (i_p0_torn := i_p0_torn) (v_p0_st := v_p0_st) (x1 := z15) (r := z23) (hf := hcall)) (cwV 1 hts gX12_coupBy_X12_spoonsOf rfl rfl rfl hdV_yX12_spoonsOf_RX12 ⟨Nat.le_of_ble_eq_true rfl, Nat.le_of_ble_eq_true rfl⟩) (preG_V (ci := 12) (q := (RX12, TX12, 37)) (hP.sub [0, 1] rfl) (hD.sub [0, 1] rfl rfl) hK rfl rfl) rfl rfl hl.1 rfl (lv_room (Nat.le_of_ble_eq_true rfl)) dX12_coupBy_150 ⟨Nat.le_of_ble_eq_true rfl, Nat.le_of_ble_eq_true rfl⟩) hP hD hS hA [0, 1] rfl (fun H locs hP hD hS => ?_)
                clear hcall
                refine lv_imul hx hb dX12_coupBy_153 (z_ci (Int32.ofInt_mul (2 : Int) z23) ?_)
                refine lv_iload hx hb dX12_coupBy_154 (lv_at hl 1 rfl) ?_
                have hr23 := ck_c hf
                replace hf := ck_r hf
                have hr24 := ck_c hf
                replace hf := ck_r hf
                refine lv_icmp_le (tgt := 162) hx hb dX12_coupBy_156 (by decide) (fun cc => ?_) (fun cc => ?_)
                ·
                  replace hf := ite_t ((z_le hr23 hr24).mp cc) hf
                  clear cc
                  obtain ⟨z26, ez⟩ : ∃ y : Int, y = (z15 + (1 : Int)) := ⟨_, rfl⟩
                  replace hf := bnd_s hf ez
                  refine lv_iinc (v := Int32.ofInt z26) (lv' := [(6, .int (Int32.ofInt z26)), (5, .int (Int32.ofInt z13)), (4, .int (Int32.ofInt z10)), (0, .ref a_p0), (2, .int (Int32.ofInt x2))]) hx hb dX12_coupBy_162 hl (k := 0) rfl (by rw [ez]; exact (Int32.ofInt_add _ _).symm) (by decide) rfl (fun ls hl => ?_)
                  clear ez
                  refine lv_goto (tgt := 115) hx hb dX12_coupBy_165 (by decide) ?_
                  exact ih115 _ _ _ _ (lv_sub hl [0, 1, 2, 3, 4] rfl) hP hD hS hf
                ·
                  replace hf := ite_f (fun h9 => cc ((z_le hr23 hr24).mpr h9)) hf
                  clear cc
                  refine lv_iload hx hb dX12_coupBy_159 (lv_at hl 0 rfl) ?_
                  obtain ⟨rfl, rfl, rfl, rfl⟩ := ou4 hf
                  rw [hQ]
                  exact W.iret hx hb hr (fun t ht hW => ⟨⟨_, (), rfl, rfl, by rw [ht]; exact hP, va_K.moved hW.alike hK, hD⟩, hS.F ht⟩) hS.2.2 dX12_coupBy_161
      exact hB16 _ _ _ _ _ (lv_sub hl [0, 1, 2, 3, 4] rfl) hP hD hS hf
    have hq := lq2_i hf
    clear hf
    obtain ⟨B29, eB29, NB29, hf⟩ := hq
    have hB29 : ∀ (n : Nat) (z27 : Int) (z28 : Int) (ls : Array Slot) (H : Heap) (locs : List Loc), lv_has ls 7 [(5, .int (Int32.ofInt z27)), (4, .int (Int32.ofInt z28)), (0, .ref a_p0), (2, .int (Int32.ofInt x2))] → va_P D vwCl [(a_p0, .inr (12, [.ref a_p0_st, .ref a_p0_isKept, .int (Int32.ofInt i_p0_seats), .int (Int32.ofInt i_p0_stirs), .ref a_p0_brings, .ref a_p0_need, .ref a_p0_draft, .int (Int32.ofInt i_p0_dSeats), .int (Int32.ofInt i_p0_dStirs), .ref a_p0_dStir, .ref a_p0_dNeed, .int (Int32.ofInt i_p0_told), .int (Int32.ofInt i_p0_highest), .ref a_p0_tape, .int (Int32.ofInt i_p0_taped), .int (Int32.ofInt i_p0_pos), .int (Int32.ofInt i_p0_from), .int (Int32.ofInt i_p0_sort), .int (Int32.ofInt i_p0_value), .int (Int32.ofInt i_p0_fault), .int (Int32.ofInt i_p0_wrongAt), .ref a_p0_places, .ref a_p0_stirred, .ref a_p0_ways, .ref a_p0_waysThen, .ref a_p0_stays, .ref a_p0_fewest, .ref a_p0_bowls, .ref a_p0_has, .ref a_p0_goesOn, .ref a_p0_isThere, .ref a_p0_isThereThen, .ref a_p0_bestRow, .ref a_p0_lanes, .ref a_p0_sizes, .ref a_p0_cells, .int (Int32.ofInt i_p0_torn)])), (a_p0_st, .inl (G 1, 152, .inl (zA v_p0_st))), (a_p0_brings, .inl (G 1, 35, .inl (zA v_p0_brings))), (a_p0_places, .inl (G 1, 7, .inl (zA w6))), (a_p0_bowls, .inl (G 1, 7, .inl (zA w7))), (a_p0_has, .inl (G 1, 7, .inl (zA w4)))] H → va_D A [(a_p0, .inr (12, [.ref a_p0_st, .ref a_p0_isKept, .int (Int32.ofInt i_p0_seats), .int (Int32.ofInt i_p0_stirs), .ref a_p0_brings, .ref a_p0_need, .ref a_p0_draft, .int (Int32.ofInt i_p0_dSeats), .int (Int32.ofInt i_p0_dStirs), .ref a_p0_dStir, .ref a_p0_dNeed, .int (Int32.ofInt i_p0_told), .int (Int32.ofInt i_p0_highest), .ref a_p0_tape, .int (Int32.ofInt i_p0_taped), .int (Int32.ofInt i_p0_pos), .int (Int32.ofInt i_p0_from), .int (Int32.ofInt i_p0_sort), .int (Int32.ofInt i_p0_value), .int (Int32.ofInt i_p0_fault), .int (Int32.ofInt i_p0_wrongAt), .ref a_p0_places, .ref a_p0_stirred, .ref a_p0_ways, .ref a_p0_waysThen, .ref a_p0_stays, .ref a_p0_fewest, .ref a_p0_bowls, .ref a_p0_has, .ref a_p0_goesOn, .ref a_p0_isThere, .ref a_p0_isThereThen, .ref a_p0_bestRow, .ref a_p0_lanes, .ref a_p0_sizes, .ref a_p0_cells, .int (Int32.ofInt i_p0_torn)])), (a_p0_st, .inl (G 1, 152, .inl (zA v_p0_st))), (a_p0_brings, .inl (G 1, 35, .inl (zA v_p0_brings))), (a_p0_places, .inl (G 1, 7, .inl (zA w6))), (a_p0_bowls, .inl (G 1, 7, .inl (zA w7))), (a_p0_has, .inl (G 1, 7, .inl (zA w4)))] → va_S A s.heap H locs → lq2 B29 n z27 z28 = some (r, o_v_p0_places, o_v_p0_bowls, o_v_p0_has) → W p l e rm_X12_coupBy s m ([.ref a_p0, .int (Int32.ofInt x1), .int (Int32.ofInt x2), .int (Int32.ofInt x3)] : List Value).toArray below meth c H locs 0 0 Q (F0 m 50 ls []) := by
      clear hf hl hP hD hS
      intro n
      induction n with
      | zero =>
        intro z27 z28 ls H locs hl hP hD hS hf
        exact (lq2_0 hf).elim
      | succ n ih50 =>
        intro z27 z28 ls H locs hl hP hD hS hf
        replace hf := lq2_s eB29 hf
        unfold B_X12_coupBy_50 at hf
        refine lv_iload hx hb dX12_coupBy_50 (lv_at hl 0 rfl) ?_
        refine lv_aload_n hx hb dX12_coupBy_52 rfl (lv_at hl 2 rfl) ?_
        refine va_get (D := D) (ci := 12) (v := .int (Int32.ofInt i_p0_seats)) (C := RX12) (T := TX12) (N := 37) hx hb hts inX12_coupBy_X12 hown hK hP 0 rfl rfl 2 (by decide) (hts _ mwX12_coupBy_2) (fun _ h9 => h9) rfl dX12_coupBy_53 ?_
        have hr29 := ck_c hf
        replace hf := ck_r hf
        have hr30 := ck_c hf
        replace hf := ck_r hf
        refine lv_icmp_ge (tgt := 98) hx hb dX12_coupBy_56 (by decide) (fun cc => ?_) (fun cc => ?_)
        ·
          replace hf := ite_t ((z_le hr30 hr29).mp cc) hf
          clear cc
          exact hJ11 _ _ _ _ (lv_sub hl [1, 2, 3] rfl) hP hD hS hf
        ·
          replace hf := ite_f (fun h9 => cc ((z_le hr30 hr29).mpr h9)) hf
          clear cc
          refine lv_iload hx hb dX12_coupBy_59 (lv_at hl 1 rfl) ?_
          refine lv_aload_n hx hb dX12_coupBy_61 rfl (lv_at hl 2 rfl) ?_
          refine va_get (D := D) (ci := 12) (v := .ref a_p0_bowls) (C := RX12) (T := TX12) (N := 37) hx hb hts inX12_coupBy_X12 hown hK hP 0 rfl rfl 27 (by decide) (hts _ mwX12_coupBy_4) (fun _ h9 => h9) rfl dX12_coupBy_62 ?_
          refine lv_iload hx hb dX12_coupBy_65 (lv_at hl 0 rfl) ?_
          have hc := ck_c hf
          replace hf := ck_r hf
          refine va_iald hx hb hK hP 4 1 rfl rfl (z_ix_in hc) dX12_coupBy_67 (z_ci (z_ald w7 hc) ?_)
          clear hc
          refine lv_aload_n hx hb dX12_coupBy_68 rfl (lv_at hl 2 rfl) ?_
          refine va_get (D := D) (ci := 12) (v := .ref a_p0_has) (C := RX12) (T := TX12) (N := 37) hx hb hts inX12_coupBy_X12 hown hK hP 0 rfl rfl 28 (by decide) (hts _ mwX12_coupBy_5) (fun _ h9 => h9) rfl dX12_coupBy_69 ?_
          refine lv_iload hx hb dX12_coupBy_72 (lv_at hl 0 rfl) ?_
          have hc := ck_c hf
          replace hf := ck_r hf
          refine va_iald hx hb hK hP 5 1 rfl rfl (z_ix_in hc) dX12_coupBy_74 (z_ci (z_ald w4 hc) ?_)
          clear hc
          have hr31 := ck_c hf
          replace hf := ck_r hf
          have hr32 := ck_c hf
          replace hf := ck_r hf
          have hq := jn_i hf
          clear hf
          obtain ⟨J36, eJ36, hf⟩ := hq
          have hJ36 : ∀ (z34 : Int) (z35 : Int) (ls : Array Slot) (H : Heap) (locs : List Loc), lv_has ls 7 [(5, .int (Int32.ofInt z27)), (0, .ref a_p0), (2, .int (Int32.ofInt x2))] → va_P D vwCl [(a_p0, .inr (12, [.ref a_p0_st, .ref a_p0_isKept, .int (Int32.ofInt i_p0_seats), .int (Int32.ofInt i_p0_stirs), .ref a_p0_brings, .ref a_p0_need, .ref a_p0_draft, .int (Int32.ofInt i_p0_dSeats), .int (Int32.ofInt i_p0_dStirs), .ref a_p0_dStir, .ref a_p0_dNeed, .int (Int32.ofInt i_p0_told), .int (Int32.ofInt i_p0_highest), .ref a_p0_tape, .int (Int32.ofInt i_p0_taped), .int (Int32.ofInt i_p0_pos), .int (Int32.ofInt i_p0_from), .int (Int32.ofInt i_p0_sort), .int (Int32.ofInt i_p0_value), .int (Int32.ofInt i_p0_fault), .int (Int32.ofInt i_p0_wrongAt), .ref a_p0_places, .ref a_p0_stirred, .ref a_p0_ways, .ref a_p0_waysThen, .ref a_p0_stays, .ref a_p0_fewest, .ref a_p0_bowls, .ref a_p0_has, .ref a_p0_goesOn, .ref a_p0_isThere, .ref a_p0_isThereThen, .ref a_p0_bestRow, .ref a_p0_lanes, .ref a_p0_sizes, .ref a_p0_cells, .int (Int32.ofInt i_p0_torn)])), (a_p0_st, .inl (G 1, 152, .inl (zA v_p0_st))), (a_p0_brings, .inl (G 1, 35, .inl (zA v_p0_brings))), (a_p0_places, .inl (G 1, 7, .inl (zA w6))), (a_p0_bowls, .inl (G 1, 7, .inl (zA w7))), (a_p0_has, .inl (G 1, 7, .inl (zA w4)))] H → va_D A [(a_p0, .inr (12, [.ref a_p0_st, .ref a_p0_isKept, .int (Int32.ofInt i_p0_seats), .int (Int32.ofInt i_p0_stirs), .ref a_p0_brings, .ref a_p0_need, .ref a_p0_draft, .int (Int32.ofInt i_p0_dSeats), .int (Int32.ofInt i_p0_dStirs), .ref a_p0_dStir, .ref a_p0_dNeed, .int (Int32.ofInt i_p0_told), .int (Int32.ofInt i_p0_highest), .ref a_p0_tape, .int (Int32.ofInt i_p0_taped), .int (Int32.ofInt i_p0_pos), .int (Int32.ofInt i_p0_from), .int (Int32.ofInt i_p0_sort), .int (Int32.ofInt i_p0_value), .int (Int32.ofInt i_p0_fault), .int (Int32.ofInt i_p0_wrongAt), .ref a_p0_places, .ref a_p0_stirred, .ref a_p0_ways, .ref a_p0_waysThen, .ref a_p0_stays, .ref a_p0_fewest, .ref a_p0_bowls, .ref a_p0_has, .ref a_p0_goesOn, .ref a_p0_isThere, .ref a_p0_isThereThen, .ref a_p0_bestRow, .ref a_p0_lanes, .ref a_p0_sizes, .ref a_p0_cells, .int (Int32.ofInt i_p0_torn)])), (a_p0_st, .inl (G 1, 152, .inl (zA v_p0_st))), (a_p0_brings, .inl (G 1, 35, .inl (zA v_p0_brings))), (a_p0_places, .inl (G 1, 7, .inl (zA w6))), (a_p0_bowls, .inl (G 1, 7, .inl (zA w7))), (a_p0_has, .inl (G 1, 7, .inl (zA w4)))] → va_S A s.heap H locs → J36 z34 z35 = some (r, o_v_p0_places, o_v_p0_bowls, o_v_p0_has) → W p l e rm_X12_coupBy s m ([.ref a_p0, .int (Int32.ofInt x1), .int (Int32.ofInt x2), .int (Int32.ofInt x3)] : List Value).toArray below meth c H locs 0 0 Q (F0 m 83 ls [.int (Int32.ofInt z35), .int (Int32.ofInt z34)]) := by
            clear hf hl hP hD hS
            intro z34 z35 ls H locs hl hP hD hS hf
            replace hf := jn2_s eJ36 hf
            have hq := bd1_s hf
            clear hf
            obtain ⟨z37, hcall, hf⟩ := hq
            refine gnI (va_runS (As := [.int (Int32.ofInt z35)]) (rest := [.int (Int32.ofInt z34)]) ⟨hx, hb, hml, hown, hts⟩ (c_X12_flag (l := l) (D := D) (G := G) (sz := H.size) (x0 := z35) (r := z37) (hf := hcall)) (va_cwS 1 hts gX12_coupBy_X12_flag rfl rfl rfl (by decide +kernel) ⟨Nat.le_of_ble_eq_true rfl, Nat.le_of_ble_eq_true rfl⟩) (preG_S (hP.sub [] rfl) (hD.sub [] rfl rfl) hK) rfl rfl hl.1 rfl (lv_room (Nat.le_of_ble_eq_true rfl)) dX12_coupBy_83 ⟨Nat.le_of_ble_eq_true rfl, Nat.le_of_ble_eq_true rfl⟩) hP hD hS hA [] rfl (fun H locs hP hD hS => ?_)
            clear hcall
            refine lv_iload hx hb dX12_coupBy_86 (lv_at hl 0 rfl) ?_
            refine lv_ishl hx hb dX12_coupBy_88 (z_ci (z_shl_e z37 z27) ?_)
            refine lv_ior hx hb dX12_coupBy_89 (z_ci (z_or_e z34 (z_shl z37 z27)) ?_)
            refine z_topi (fun z38 ez => ?_)
            replace hf := bnd_s hf ez
            clear ez
            refine lv_istore (lv' := [(4, .int (Int32.ofInt z38)), (5, .int (Int32.ofInt z27)), (0, .ref a_p0), (2, .int (Int32.ofInt x2))]) hx hb dX12_coupBy_90 hl (by decide) rfl (fun ls hl => ?_)
            obtain ⟨z39, ez⟩ : ∃ y : Int, y = (z27 + (1 : Int)) := ⟨_, rfl⟩
            replace hf := bnd_s hf ez
            refine lv_iinc (v := Int32.ofInt z39) (lv' := [(5, .int (Int32.ofInt z39)), (4, .int (Int32.ofInt z38)), (0, .ref a_p0), (2, .int (Int32.ofInt x2))]) hx hb dX12_coupBy_92 hl (k := 1) rfl (by rw [ez]; exact (Int32.ofInt_add _ _).symm) (by decide) rfl (fun ls hl => ?_)
            clear ez
            refine lv_goto (tgt := 50) hx hb dX12_coupBy_95 (by decide) ?_
            exact ih50 _ _ _ _ _ (lv_sub hl [0, 1, 2, 3] rfl) hP hD hS hf
          refine lv_icmp_le (tgt := 82) hx hb dX12_coupBy_75 (by decide) (fun cc => ?_) (fun cc => ?_)
          ·
            replace hf := ite_t ((z_le hr31 hr32).mp cc) hf
            clear cc
            refine lv_iconst (v := Int32.ofInt (0 : Int)) hx hb dX12_coupBy_82 (by decide) ?_
            exact hJ36 _ _ _ _ _ (lv_sub hl [0, 2, 3] rfl) hP hD hS hf
          ·
            replace hf := ite_f (fun h9 => cc ((z_le hr31 hr32).mpr h9)) hf
            clear cc
            refine lv_iconst (v := Int32.ofInt (1 : Int)) hx hb dX12_coupBy_78 (by decide) ?_
            refine lv_goto (tgt := 83) hx hb dX12_coupBy_79 (by decide) ?_
            exact hJ36 _ _ _ _ _ (lv_sub hl [0, 2, 3] rfl) hP hD hS hf
    exact hB29 _ _ _ _ _ _ (lv_sub hl [0, 1, 2, 3] rfl) hP hD hS hf
  have hq := lq2_i hf
  clear hf
  obtain ⟨B42, eB42, NB42, hf⟩ := hq
  have hB42 : ∀ (n : Nat) (z40 : Int) (w41 : (Int → Int)) (ls : Array Slot) (H : Heap) (locs : List Loc), lv_has ls 7 [(4, .int (Int32.ofInt z40)), (0, .ref a_p0), (2, .int (Int32.ofInt x2)), (3, .int (Int32.ofInt x3))] → va_P D vwCl [(a_p0, .inr (12, [.ref a_p0_st, .ref a_p0_isKept, .int (Int32.ofInt i_p0_seats), .int (Int32.ofInt i_p0_stirs), .ref a_p0_brings, .ref a_p0_need, .ref a_p0_draft, .int (Int32.ofInt i_p0_dSeats), .int (Int32.ofInt i_p0_dStirs), .ref a_p0_dStir, .ref a_p0_dNeed, .int (Int32.ofInt i_p0_told), .int (Int32.ofInt i_p0_highest), .ref a_p0_tape, .int (Int32.ofInt i_p0_taped), .int (Int32.ofInt i_p0_pos), .int (Int32.ofInt i_p0_from), .int (Int32.ofInt i_p0_sort), .int (Int32.ofInt i_p0_value), .int (Int32.ofInt i_p0_fault), .int (Int32.ofInt i_p0_wrongAt), .ref a_p0_places, .ref a_p0_stirred, .ref a_p0_ways, .ref a_p0_waysThen, .ref a_p0_stays, .ref a_p0_fewest, .ref a_p0_bowls, .ref a_p0_has, .ref a_p0_goesOn, .ref a_p0_isThere, .ref a_p0_isThereThen, .ref a_p0_bestRow, .ref a_p0_lanes, .ref a_p0_sizes, .ref a_p0_cells, .int (Int32.ofInt i_p0_torn)])), (a_p0_st, .inl (G 1, 152, .inl (zA v_p0_st))), (a_p0_brings, .inl (G 1, 35, .inl (zA v_p0_brings))), (a_p0_places, .inl (G 1, 7, .inl (zA w1))), (a_p0_bowls, .inl (G 1, 7, .inl (zA w2))), (a_p0_has, .inl (G 1, 7, .inl (zA w41)))] H → va_D A [(a_p0, .inr (12, [.ref a_p0_st, .ref a_p0_isKept, .int (Int32.ofInt i_p0_seats), .int (Int32.ofInt i_p0_stirs), .ref a_p0_brings, .ref a_p0_need, .ref a_p0_draft, .int (Int32.ofInt i_p0_dSeats), .int (Int32.ofInt i_p0_dStirs), .ref a_p0_dStir, .ref a_p0_dNeed, .int (Int32.ofInt i_p0_told), .int (Int32.ofInt i_p0_highest), .ref a_p0_tape, .int (Int32.ofInt i_p0_taped), .int (Int32.ofInt i_p0_pos), .int (Int32.ofInt i_p0_from), .int (Int32.ofInt i_p0_sort), .int (Int32.ofInt i_p0_value), .int (Int32.ofInt i_p0_fault), .int (Int32.ofInt i_p0_wrongAt), .ref a_p0_places, .ref a_p0_stirred, .ref a_p0_ways, .ref a_p0_waysThen, .ref a_p0_stays, .ref a_p0_fewest, .ref a_p0_bowls, .ref a_p0_has, .ref a_p0_goesOn, .ref a_p0_isThere, .ref a_p0_isThereThen, .ref a_p0_bestRow, .ref a_p0_lanes, .ref a_p0_sizes, .ref a_p0_cells, .int (Int32.ofInt i_p0_torn)])), (a_p0_st, .inl (G 1, 152, .inl (zA v_p0_st))), (a_p0_brings, .inl (G 1, 35, .inl (zA v_p0_brings))), (a_p0_places, .inl (G 1, 7, .inl (zA w1))), (a_p0_bowls, .inl (G 1, 7, .inl (zA w2))), (a_p0_has, .inl (G 1, 7, .inl (zA w41)))] → va_S A s.heap H locs → lq2 B42 n z40 w41 = some (r, o_v_p0_places, o_v_p0_bowls, o_v_p0_has) → W p l e rm_X12_coupBy s m ([.ref a_p0, .int (Int32.ofInt x1), .int (Int32.ofInt x2), .int (Int32.ofInt x3)] : List Value).toArray below meth c H locs 0 0 Q (F0 m 9 ls []) := by
    clear hf hl hP hD hS
    intro n
    induction n with
    | zero =>
      intro z40 w41 ls H locs hl hP hD hS hf
      exact (lq2_0 hf).elim
    | succ n ih9 =>
      intro z40 w41 ls H locs hl hP hD hS hf
      replace hf := lq2_s eB42 hf
      unfold B_X12_coupBy_9 at hf
      refine lv_iload hx hb dX12_coupBy_9 (lv_at hl 0 rfl) ?_
      refine lv_aload_n hx hb dX12_coupBy_11 rfl (lv_at hl 1 rfl) ?_
      refine va_get (D := D) (ci := 12) (v := .int (Int32.ofInt i_p0_seats)) (C := RX12) (T := TX12) (N := 37) hx hb hts inX12_coupBy_X12 hown hK hP 0 rfl rfl 2 (by decide) (hts _ mwX12_coupBy_2) (fun _ h9 => h9) rfl dX12_coupBy_12 ?_
      have hr42 := ck_c hf
      replace hf := ck_r hf
      have hr43 := ck_c hf
      replace hf := ck_r hf
      refine lv_icmp_ge (tgt := 38) hx hb dX12_coupBy_15 (by decide) (fun cc => ?_) (fun cc => ?_)
      ·
        replace hf := ite_t ((z_le hr43 hr42).mp cc) hf
        clear cc
        exact hJ5 _ _ _ _ (lv_sub hl [1, 2, 3] rfl) hP hD hS hf
      ·
        replace hf := ite_f (fun h9 => cc ((z_le hr43 hr42).mpr h9)) hf
        clear cc
        refine lv_aload_n hx hb dX12_coupBy_18 rfl (lv_at hl 1 rfl) ?_
        refine va_get (D := D) (ci := 12) (v := .ref a_p0_has) (C := RX12) (T := TX12) (N := 37) hx hb hts inX12_coupBy_X12 hown hK hP 0 rfl rfl 28 (by decide) (hts _ mwX12_coupBy_5) (fun _ h9 => h9) rfl dX12_coupBy_19 ?_
        refine lv_iload hx hb dX12_coupBy_22 (lv_at hl 0 rfl) ?_
        refine lv_aload_n hx hb dX12_coupBy_24 rfl (lv_at hl 1 rfl) ?_
        refine va_get (D := D) (ci := 12) (v := .ref a_p0_bowls) (C := RX12) (T := TX12) (N := 37) hx hb hts inX12_coupBy_X12 hown hK hP 0 rfl rfl 27 (by decide) (hts _ mwX12_coupBy_4) (fun _ h9 => h9) rfl dX12_coupBy_25 ?_
        refine lv_iload hx hb dX12_coupBy_28 (lv_at hl 0 rfl) ?_
        have hc := ck_c hf
        replace hf := ck_r hf
        refine va_iald hx hb hK hP 4 1 rfl rfl (z_ix_in hc) dX12_coupBy_30 (z_ci (z_ald w2 hc) ?_)
        clear hc
        have hc := ck_c hf
        replace hf := ck_r hf
        refine zs_iast (wf := fun w45 => [(a_p0, .inr (12, [.ref a_p0_st, .ref a_p0_isKept, .int (Int32.ofInt i_p0_seats), .int (Int32.ofInt i_p0_stirs), .ref a_p0_brings, .ref a_p0_need, .ref a_p0_draft, .int (Int32.ofInt i_p0_dSeats), .int (Int32.ofInt i_p0_dStirs), .ref a_p0_dStir, .ref a_p0_dNeed, .int (Int32.ofInt i_p0_told), .int (Int32.ofInt i_p0_highest), .ref a_p0_tape, .int (Int32.ofInt i_p0_taped), .int (Int32.ofInt i_p0_pos), .int (Int32.ofInt i_p0_from), .int (Int32.ofInt i_p0_sort), .int (Int32.ofInt i_p0_value), .int (Int32.ofInt i_p0_fault), .int (Int32.ofInt i_p0_wrongAt), .ref a_p0_places, .ref a_p0_stirred, .ref a_p0_ways, .ref a_p0_waysThen, .ref a_p0_stays, .ref a_p0_fewest, .ref a_p0_bowls, .ref a_p0_has, .ref a_p0_goesOn, .ref a_p0_isThere, .ref a_p0_isThereThen, .ref a_p0_bestRow, .ref a_p0_lanes, .ref a_p0_sizes, .ref a_p0_cells, .int (Int32.ofInt i_p0_torn)])), (a_p0_st, .inl (G 1, 152, .inl (zA v_p0_st))), (a_p0_brings, .inl (G 1, 35, .inl (zA v_p0_brings))), (a_p0_places, .inl (G 1, 7, .inl (zA w1))), (a_p0_bowls, .inl (G 1, 7, .inl (zA w2))), (a_p0_has, .inl (G 1, 7, .inl (zA w45)))]) hx hb hK hP hD hS 5 1 rfl rfl hc dX12_coupBy_31 (fun _ => rfl) (fun w45 ez H locs hP hD hS => ?_)
        replace hf := bnd_s hf ez
        clear ez hc
        obtain ⟨z46, ez⟩ : ∃ y : Int, y = (z40 + (1 : Int)) := ⟨_, rfl⟩
        replace hf := bnd_s hf ez
        refine lv_iinc (v := Int32.ofInt z46) (lv' := [(4, .int (Int32.ofInt z46)), (0, .ref a_p0), (2, .int (Int32.ofInt x2)), (3, .int (Int32.ofInt x3))]) hx hb dX12_coupBy_32 hl (k := 0) rfl (by rw [ez]; exact (Int32.ofInt_add _ _).symm) (by decide) rfl (fun ls hl => ?_)
        clear ez
        refine lv_goto (tgt := 9) hx hb dX12_coupBy_35 (by decide) ?_
        exact ih9 _ _ _ _ _ (lv_sub hl [0, 1, 2, 3] rfl) hP hD hS hf
  exact hB42 _ _ _ _ _ _ (lv_sub hl [0, 1, 3, 4] rfl) hP hD hS hf

noncomputable def B_X12_leaderBy_2 (i_p0_seats : Int) (x1 : Int) (v_p0_st : (Int → Int)) (v_p0_brings : (Int → Int)) (x2 : Int) (again2 : Int → (Int → Int) → (Int → Int) → (Int → Int) → Option (Int × (Int → Int) × (Int → Int) × (Int → Int))) (z2 : Int) (w3 : (Int → Int)) (w4 : (Int → Int)) (w5 : (Int → Int)) : Option (Int × (Int → Int) × (Int → Int) × (Int → Int)) := (ck (z_r32 z2) (ck (z_r32 i_p0_seats) (if i_p0_seats ≤ z2 then (some ((-4 : Int), w3, w4, w5)) else (ck (z_r32 x1) (if z2 = x1 then (bnd (z2 + (1 : Int)) (fun (z10 : Int) => (again2 z10 w3 w4 w5))) else (bd4 (f_X12_coupBy i_p0_seats v_p0_st v_p0_brings w3 w4 w5 x1 z2 x2) (fun (z11 : Int) (w12 : (Int → Int)) (w13 : (Int → Int)) (w14 : (Int → Int)) => (ck (z_r32 z11) (if z11 = (-4 : Int) then (bnd (z2 + (1 : Int)) (fun (z16 : Int) => (again2 z16 w12 w13 w14))) else (some (z2, w12, w13, w14)))))))))))
noncomputable def f_X12_leaderBy (i_p0_seats : Int) (v_p0_st : (Int → Int)) (v_p0_brings : (Int → Int)) (v_p0_places : (Int → Int)) (v_p0_bowls : (Int → Int)) (v_p0_has : (Int → Int)) (x1 : Int) (x2 : Int) : Option (Int × (Int → Int) × (Int → Int) × (Int → Int)) := (bnd (0 : Int) (fun (z1 : Int) => (lq4 (B_X12_leaderBy_2 i_p0_seats x1 v_p0_st v_p0_brings x2) 1000 z1 v_p0_places v_p0_bowls v_p0_has)))
abbrev rm_X12_leaderBy : Room := { frames := 4, cells := 0, slots := 0, locals := 95 }
theorem inX12_leaderBy_X12 : ∀ w ∈ wsX120, w ∈ wsX12_leaderBy := by first | exact fun w h => List.mem_cons_of_mem _ (List.mem_append_right _ h) | decide +kernel
theorem mwX12_leaderBy_1 : Cond.fieldLink RX12 100 "LadleKingsModel" "seats" "I" ∈ wsX12_leaderBy := by first | exact List.mem_of_getElem? (i := 1) rfl | decide +kernel
theorem hdV_yX12_coupBy_RX12 : yX12_coupBy.cls = RX12 ∧ yX12_coupBy.cls ≠ "java/lang/invoke/MethodHandle" ∧ yX12_coupBy.cls ≠ "java/lang/invoke/VarHandle" ∧ (parseMethodDescriptor yX12_coupBy.desc).map (fun d => d.parameters.length) = some 3 := by decide +kernel
set_option maxHeartbeats 8000000 in
set_option maxRecDepth 100000 in
theorem c_X12_leaderBy (l : Launch) (D : va_G) (G : Nat → ClassId) (sz : Nat) (a_p0 : Nat) (a_p0_st : Nat) (a_p0_isKept : Nat) (a_p0_brings : Nat) (a_p0_need : Nat) (a_p0_draft : Nat) (a_p0_dStir : Nat) (a_p0_dNeed : Nat) (a_p0_tape : Nat) (a_p0_places : Nat) (a_p0_stirred : Nat) (a_p0_ways : Nat) (a_p0_waysThen : Nat) (a_p0_stays : Nat) (a_p0_fewest : Nat) (a_p0_bowls : Nat) (a_p0_has : Nat) (a_p0_goesOn : Nat) (a_p0_isThere : Nat) (a_p0_isThereThen : Nat) (a_p0_bestRow : Nat) (a_p0_lanes : Nat) (a_p0_sizes : Nat) (a_p0_cells : Nat) (i_p0_seats : Int) (i_p0_stirs : Int) (i_p0_dSeats : Int) (i_p0_dStirs : Int) (i_p0_told : Int) (i_p0_highest : Int) (i_p0_taped : Int) (i_p0_pos : Int) (i_p0_from : Int) (i_p0_sort : Int) (i_p0_value : Int) (i_p0_fault : Int) (i_p0_wrongAt : Int) (i_p0_torn : Int) (v_p0_st : (Int → Int)) (v_p0_brings : (Int → Int)) (v_p0_places : (Int → Int)) (v_p0_bowls : (Int → Int)) (v_p0_has : (Int → Int)) (x1 : Int) (x2 : Int) (r : Int) (o_v_p0_places : (Int → Int)) (o_v_p0_bowls : (Int → Int)) (o_v_p0_has : (Int → Int)) (hf : f_X12_leaderBy i_p0_seats v_p0_st v_p0_brings v_p0_places v_p0_bowls v_p0_has x1 x2 = some (r, o_v_p0_places, o_v_p0_bowls, o_v_p0_has)) : Met l yX12_leaderBy wsX12_leaderBy rm_X12_leaderBy (pcG D G [.ref a_p0, .int (Int32.ofInt x1), .int (Int32.ofInt x2)] sz [(a_p0, .inr (12, [.ref a_p0_st, .ref a_p0_isKept, .int (Int32.ofInt i_p0_seats), .int (Int32.ofInt i_p0_stirs), .ref a_p0_brings, .ref a_p0_need, .ref a_p0_draft, .int (Int32.ofInt i_p0_dSeats), .int (Int32.ofInt i_p0_dStirs), .ref a_p0_dStir, .ref a_p0_dNeed, .int (Int32.ofInt i_p0_told), .int (Int32.ofInt i_p0_highest), .ref a_p0_tape, .int (Int32.ofInt i_p0_taped), .int (Int32.ofInt i_p0_pos), .int (Int32.ofInt i_p0_from), .int (Int32.ofInt i_p0_sort), .int (Int32.ofInt i_p0_value), .int (Int32.ofInt i_p0_fault), .int (Int32.ofInt i_p0_wrongAt), .ref a_p0_places, .ref a_p0_stirred, .ref a_p0_ways, .ref a_p0_waysThen, .ref a_p0_stays, .ref a_p0_fewest, .ref a_p0_bowls, .ref a_p0_has, .ref a_p0_goesOn, .ref a_p0_isThere, .ref a_p0_isThereThen, .ref a_p0_bestRow, .ref a_p0_lanes, .ref a_p0_sizes, .ref a_p0_cells, .int (Int32.ofInt i_p0_torn)])), (a_p0_st, .inl (G 1, 152, .inl (zA v_p0_st))), (a_p0_brings, .inl (G 1, 35, .inl (zA v_p0_brings))), (a_p0_places, .inl (G 1, 7, .inl (zA v_p0_places))), (a_p0_bowls, .inl (G 1, 7, .inl (zA v_p0_bowls))), (a_p0_has, .inl (G 1, 7, .inl (zA v_p0_has)))]) (qcI D G (Int32.ofInt r) [(a_p0, .inr (12, [.ref a_p0_st, .ref a_p0_isKept, .int (Int32.ofInt i_p0_seats), .int (Int32.ofInt i_p0_stirs), .ref a_p0_brings, .ref a_p0_need, .ref a_p0_draft, .int (Int32.ofInt i_p0_dSeats), .int (Int32.ofInt i_p0_dStirs), .ref a_p0_dStir, .ref a_p0_dNeed, .int (Int32.ofInt i_p0_told), .int (Int32.ofInt i_p0_highest), .ref a_p0_tape, .int (Int32.ofInt i_p0_taped), .int (Int32.ofInt i_p0_pos), .int (Int32.ofInt i_p0_from), .int (Int32.ofInt i_p0_sort), .int (Int32.ofInt i_p0_value), .int (Int32.ofInt i_p0_fault), .int (Int32.ofInt i_p0_wrongAt), .ref a_p0_places, .ref a_p0_stirred, .ref a_p0_ways, .ref a_p0_waysThen, .ref a_p0_stays, .ref a_p0_fewest, .ref a_p0_bowls, .ref a_p0_has, .ref a_p0_goesOn, .ref a_p0_isThere, .ref a_p0_isThereThen, .ref a_p0_bestRow, .ref a_p0_lanes, .ref a_p0_sizes, .ref a_p0_cells, .int (Int32.ofInt i_p0_torn)])), (a_p0_st, .inl (G 1, 152, .inl (zA v_p0_st))), (a_p0_brings, .inl (G 1, 35, .inl (zA v_p0_brings))), (a_p0_places, .inl (G 1, 7, .inl (zA o_v_p0_places))), (a_p0_bowls, .inl (G 1, 7, .inl (zA o_v_p0_bowls))), (a_p0_has, .inl (G 1, 7, .inl (zA o_v_p0_has)))] (va_A [(a_p0, .inr (12, [.ref a_p0_st, .ref a_p0_isKept, .int (Int32.ofInt i_p0_seats), .int (Int32.ofInt i_p0_stirs), .ref a_p0_brings, .ref a_p0_need, .ref a_p0_draft, .int (Int32.ofInt i_p0_dSeats), .int (Int32.ofInt i_p0_dStirs), .ref a_p0_dStir, .ref a_p0_dNeed, .int (Int32.ofInt i_p0_told), .int (Int32.ofInt i_p0_highest), .ref a_p0_tape, .int (Int32.ofInt i_p0_taped), .int (Int32.ofInt i_p0_pos), .int (Int32.ofInt i_p0_from), .int (Int32.ofInt i_p0_sort), .int (Int32.ofInt i_p0_value), .int (Int32.ofInt i_p0_fault), .int (Int32.ofInt i_p0_wrongAt), .ref a_p0_places, .ref a_p0_stirred, .ref a_p0_ways, .ref a_p0_waysThen, .ref a_p0_stays, .ref a_p0_fewest, .ref a_p0_bowls, .ref a_p0_has, .ref a_p0_goesOn, .ref a_p0_isThere, .ref a_p0_isThereThen, .ref a_p0_bestRow, .ref a_p0_lanes, .ref a_p0_sizes, .ref a_p0_cells, .int (Int32.ofInt i_p0_torn)])), (a_p0_st, .inl (G 1, 152, .inl (zA v_p0_st))), (a_p0_brings, .inl (G 1, 35, .inl (zA v_p0_brings))), (a_p0_places, .inl (G 1, 7, .inl (zA v_p0_places))), (a_p0_bowls, .inl (G 1, 7, .inl (zA v_p0_bowls))), (a_p0_has, .inl (G 1, 7, .inl (zA v_p0_has)))] sz)) 0 0 (va_A [(a_p0, .inr (12, [.ref a_p0_st, .ref a_p0_isKept, .int (Int32.ofInt i_p0_seats), .int (Int32.ofInt i_p0_stirs), .ref a_p0_brings, .ref a_p0_need, .ref a_p0_draft, .int (Int32.ofInt i_p0_dSeats), .int (Int32.ofInt i_p0_dStirs), .ref a_p0_dStir, .ref a_p0_dNeed, .int (Int32.ofInt i_p0_told), .int (Int32.ofInt i_p0_highest), .ref a_p0_tape, .int (Int32.ofInt i_p0_taped), .int (Int32.ofInt i_p0_pos), .int (Int32.ofInt i_p0_from), .int (Int32.ofInt i_p0_sort), .int (Int32.ofInt i_p0_value), .int (Int32.ofInt i_p0_fault), .int (Int32.ofInt i_p0_wrongAt), .ref a_p0_places, .ref a_p0_stirred, .ref a_p0_ways, .ref a_p0_waysThen, .ref a_p0_stays, .ref a_p0_fewest, .ref a_p0_bowls, .ref a_p0_has, .ref a_p0_goesOn, .ref a_p0_isThere, .ref a_p0_isThereThen, .ref a_p0_bestRow, .ref a_p0_lanes, .ref a_p0_sizes, .ref a_p0_cells, .int (Int32.ofInt i_p0_torn)])), (a_p0_st, .inl (G 1, 152, .inl (zA v_p0_st))), (a_p0_brings, .inl (G 1, 35, .inl (zA v_p0_brings))), (a_p0_places, .inl (G 1, 7, .inl (zA v_p0_places))), (a_p0_bowls, .inl (G 1, 7, .inl (zA v_p0_bowls))), (a_p0_has, .inl (G 1, 7, .inl (zA v_p0_has)))] sz) := by
  refine Met.ofW (cc := cX12_leaderBy) (maxL := 4) (ret := (some .int)) (by decide) rfl ?_
  intro p e s m args below meth c s₁ B hml hv
  obtain ⟨rfl, hsz, hP, hK, hD0⟩ := hv
  have hx := B.exec
  have hb := B.bytes
  have hr := B.returns
  have hts := atoms_spec (ws := wsX12_leaderBy) B.pre
  have hown : s.vm.findClass RX12 = some m.cls := findClass_of_methodNamed B.named
  have hlocks := B.notSynchronized
  subst hsz
  have hD := hD0.self (sz := s.heap.size)
  generalize hAe : va_A [(a_p0, .inr (12, [.ref a_p0_st, .ref a_p0_isKept, .int (Int32.ofInt i_p0_seats), .int (Int32.ofInt i_p0_stirs), .ref a_p0_brings, .ref a_p0_need, .ref a_p0_draft, .int (Int32.ofInt i_p0_dSeats), .int (Int32.ofInt i_p0_dStirs), .ref a_p0_dStir, .ref a_p0_dNeed, .int (Int32.ofInt i_p0_told), .int (Int32.ofInt i_p0_highest), .ref a_p0_tape, .int (Int32.ofInt i_p0_taped), .int (Int32.ofInt i_p0_pos), .int (Int32.ofInt i_p0_from), .int (Int32.ofInt i_p0_sort), .int (Int32.ofInt i_p0_value), .int (Int32.ofInt i_p0_fault), .int (Int32.ofInt i_p0_wrongAt), .ref a_p0_places, .ref a_p0_stirred, .ref a_p0_ways, .ref a_p0_waysThen, .ref a_p0_stays, .ref a_p0_fewest, .ref a_p0_bowls, .ref a_p0_has, .ref a_p0_goesOn, .ref a_p0_isThere, .ref a_p0_isThereThen, .ref a_p0_bestRow, .ref a_p0_lanes, .ref a_p0_sizes, .ref a_p0_cells, .int (Int32.ofInt i_p0_torn)])), (a_p0_st, .inl (G 1, 152, .inl (zA v_p0_st))), (a_p0_brings, .inl (G 1, 35, .inl (zA v_p0_brings))), (a_p0_places, .inl (G 1, 7, .inl (zA v_p0_places))), (a_p0_bowls, .inl (G 1, 7, .inl (zA v_p0_bowls))), (a_p0_has, .inl (G 1, 7, .inl (zA v_p0_has)))] s.heap.size = A at hD ⊢
  have hA : ∀ q : Nat, s.heap.size ≤ q → A q := fun q h => by rw [← hAe]; exact Or.inr h
  clear hAe hD0
  have hS : va_S A s.heap s.heap [] := va_S.rf
  have hl := lv_entry ([.ref a_p0, .int (Int32.ofInt x1), .int (Int32.ofInt x2)]) (n := 4) (Nat.le_of_ble_eq_true rfl)
  rw [lg_entry_eq]
  generalize (lg_sl ([.ref a_p0, .int (Int32.ofInt x1), .int (Int32.ofInt x2)]) ++ List.replicate (4 - (lg_sl ([.ref a_p0, .int (Int32.ofInt x1), .int (Int32.ofInt x2)])).length) Slot.unset).toArray = ls at hl ⊢
  have hl : lv_has ls 4 [(0, .ref a_p0), (1, .int (Int32.ofInt x1)), (2, .int (Int32.ofInt x2))] := hl
  refine W_nameQ (fun Q hQ => ?_)
  obtain ⟨H, hH⟩ : ∃ H, H = s.heap := ⟨_, rfl⟩
  replace hS : va_S A s.heap H [] := by rw [hH]; exact hS
  replace hP : va_P D vwCl [(a_p0, .inr (12, [.ref a_p0_st, .ref a_p0_isKept, .int (Int32.ofInt i_p0_seats), .int (Int32.ofInt i_p0_stirs), .ref a_p0_brings, .ref a_p0_need, .ref a_p0_draft, .int (Int32.ofInt i_p0_dSeats), .int (Int32.ofInt i_p0_dStirs), .ref a_p0_dStir, .ref a_p0_dNeed, .int (Int32.ofInt i_p0_told), .int (Int32.ofInt i_p0_highest), .ref a_p0_tape, .int (Int32.ofInt i_p0_taped), .int (Int32.ofInt i_p0_pos), .int (Int32.ofInt i_p0_from), .int (Int32.ofInt i_p0_sort), .int (Int32.ofInt i_p0_value), .int (Int32.ofInt i_p0_fault), .int (Int32.ofInt i_p0_wrongAt), .ref a_p0_places, .ref a_p0_stirred, .ref a_p0_ways, .ref a_p0_waysThen, .ref a_p0_stays, .ref a_p0_fewest, .ref a_p0_bowls, .ref a_p0_has, .ref a_p0_goesOn, .ref a_p0_isThere, .ref a_p0_isThereThen, .ref a_p0_bestRow, .ref a_p0_lanes, .ref a_p0_sizes, .ref a_p0_cells, .int (Int32.ofInt i_p0_torn)])), (a_p0_st, .inl (G 1, 152, .inl (zA v_p0_st))), (a_p0_brings, .inl (G 1, 35, .inl (zA v_p0_brings))), (a_p0_places, .inl (G 1, 7, .inl (zA v_p0_places))), (a_p0_bowls, .inl (G 1, 7, .inl (zA v_p0_bowls))), (a_p0_has, .inl (G 1, 7, .inl (zA v_p0_has)))] H := by rw [hH]; exact hP
  rw [← hH]
  clear hH
  unfold f_X12_leaderBy at hf
  refine lv_iconst (v := Int32.ofInt (0 : Int)) hx hb dX12_leaderBy_0 (by decide) ?_
  refine z_topi (fun z1 ez => ?_)
  replace hf := bnd_s hf ez
  clear ez
  refine lv_istore_n (lv' := [(3, .int (Int32.ofInt z1)), (0, .ref a_p0), (1, .int (Int32.ofInt x1)), (2, .int (Int32.ofInt x2))]) hx hb dX12_leaderBy_1 rfl hl (by decide) rfl (fun ls hl => ?_)
  have hq := lq4_i hf
  clear hf
  obtain ⟨B6, eB6, NB6, hf⟩ := hq
  have hB6 : ∀ (n : Nat) (z2 : Int) (w3 : (Int → Int)) (w4 : (Int → Int)) (w5 : (Int → Int)) (ls : Array Slot) (H : Heap) (locs : List Loc), lv_has ls 4 [(3, .int (Int32.ofInt z2)), (0, .ref a_p0), (1, .int (Int32.ofInt x1)), (2, .int (Int32.ofInt x2))] → va_P D vwCl [(a_p0, .inr (12, [.ref a_p0_st, .ref a_p0_isKept, .int (Int32.ofInt i_p0_seats), .int (Int32.ofInt i_p0_stirs), .ref a_p0_brings, .ref a_p0_need, .ref a_p0_draft, .int (Int32.ofInt i_p0_dSeats), .int (Int32.ofInt i_p0_dStirs), .ref a_p0_dStir, .ref a_p0_dNeed, .int (Int32.ofInt i_p0_told), .int (Int32.ofInt i_p0_highest), .ref a_p0_tape, .int (Int32.ofInt i_p0_taped), .int (Int32.ofInt i_p0_pos), .int (Int32.ofInt i_p0_from), .int (Int32.ofInt i_p0_sort), .int (Int32.ofInt i_p0_value), .int (Int32.ofInt i_p0_fault), .int (Int32.ofInt i_p0_wrongAt), .ref a_p0_places, .ref a_p0_stirred, .ref a_p0_ways, .ref a_p0_waysThen, .ref a_p0_stays, .ref a_p0_fewest, .ref a_p0_bowls, .ref a_p0_has, .ref a_p0_goesOn, .ref a_p0_isThere, .ref a_p0_isThereThen, .ref a_p0_bestRow, .ref a_p0_lanes, .ref a_p0_sizes, .ref a_p0_cells, .int (Int32.ofInt i_p0_torn)])), (a_p0_st, .inl (G 1, 152, .inl (zA v_p0_st))), (a_p0_brings, .inl (G 1, 35, .inl (zA v_p0_brings))), (a_p0_places, .inl (G 1, 7, .inl (zA w3))), (a_p0_bowls, .inl (G 1, 7, .inl (zA w4))), (a_p0_has, .inl (G 1, 7, .inl (zA w5)))] H → va_D A [(a_p0, .inr (12, [.ref a_p0_st, .ref a_p0_isKept, .int (Int32.ofInt i_p0_seats), .int (Int32.ofInt i_p0_stirs), .ref a_p0_brings, .ref a_p0_need, .ref a_p0_draft, .int (Int32.ofInt i_p0_dSeats), .int (Int32.ofInt i_p0_dStirs), .ref a_p0_dStir, .ref a_p0_dNeed, .int (Int32.ofInt i_p0_told), .int (Int32.ofInt i_p0_highest), .ref a_p0_tape, .int (Int32.ofInt i_p0_taped), .int (Int32.ofInt i_p0_pos), .int (Int32.ofInt i_p0_from), .int (Int32.ofInt i_p0_sort), .int (Int32.ofInt i_p0_value), .int (Int32.ofInt i_p0_fault), .int (Int32.ofInt i_p0_wrongAt), .ref a_p0_places, .ref a_p0_stirred, .ref a_p0_ways, .ref a_p0_waysThen, .ref a_p0_stays, .ref a_p0_fewest, .ref a_p0_bowls, .ref a_p0_has, .ref a_p0_goesOn, .ref a_p0_isThere, .ref a_p0_isThereThen, .ref a_p0_bestRow, .ref a_p0_lanes, .ref a_p0_sizes, .ref a_p0_cells, .int (Int32.ofInt i_p0_torn)])), (a_p0_st, .inl (G 1, 152, .inl (zA v_p0_st))), (a_p0_brings, .inl (G 1, 35, .inl (zA v_p0_brings))), (a_p0_places, .inl (G 1, 7, .inl (zA w3))), (a_p0_bowls, .inl (G 1, 7, .inl (zA w4))), (a_p0_has, .inl (G 1, 7, .inl (zA w5)))] → va_S A s.heap H locs → lq4 B6 n z2 w3 w4 w5 = some (r, o_v_p0_places, o_v_p0_bowls, o_v_p0_has) → W p l e rm_X12_leaderBy s m ([.ref a_p0, .int (Int32.ofInt x1), .int (Int32.ofInt x2)] : List Value).toArray below meth c H locs 0 0 Q (F0 m 2 ls []) := by
    clear hf hl hP hD hS
    intro n
    induction n with
    | zero =>
      intro z2 w3 w4 w5 ls H locs hl hP hD hS hf
      exact (lq4_0 hf).elim
    | succ n ih2 =>
      intro z2 w3 w4 w5 ls H locs hl hP hD hS hf
      replace hf := lq4_s eB6 hf
      unfold B_X12_leaderBy_2 at hf
      refine lv_iload_n hx hb dX12_leaderBy_2 rfl (lv_at hl 0 rfl) ?_
      refine lv_aload_n hx hb dX12_leaderBy_3 rfl (lv_at hl 1 rfl) ?_
      refine va_get (D := D) (ci := 12) (v := .int (Int32.ofInt i_p0_seats)) (C := RX12) (T := TX12) (N := 37) hx hb hts inX12_leaderBy_X12 hown hK hP 0 rfl rfl 2 (by decide) (hts _ mwX12_leaderBy_1) (fun _ h9 => h9) rfl dX12_leaderBy_4 ?_
      have hr6 := ck_c hf
      replace hf := ck_r hf
      have hr7 := ck_c hf
      replace hf := ck_r hf
      refine lv_icmp_ge (tgt := 35) hx hb dX12_leaderBy_7 (by decide) (fun cc => ?_) (fun cc => ?_)
      ·
        replace hf := ite_t ((z_le hr7 hr6).mp cc) hf
        clear cc
        refine lv_bipush (v := Int32.ofInt (-4 : Int)) hx hb dX12_leaderBy_35 (by decide) ?_
        obtain ⟨rfl, rfl, rfl, rfl⟩ := ou4 hf
        rw [hQ]
        exact W.iret hx hb hr (fun t ht hW => ⟨⟨_, (), rfl, rfl, by rw [ht]; exact hP, va_K.moved hW.alike hK, hD⟩, hS.F ht⟩) hS.2.2 dX12_leaderBy_37
      ·
        replace hf := ite_f (fun h9 => cc ((z_le hr7 hr6).mpr h9)) hf
        clear cc
        refine lv_iload_n hx hb dX12_leaderBy_10 rfl (lv_at hl 0 rfl) ?_
        refine lv_iload_n hx hb dX12_leaderBy_11 rfl (lv_at hl 2 rfl) ?_
        have hr8 := ck_c hf
        replace hf := ck_r hf
        refine lv_icmp_eq (tgt := 29) hx hb dX12_leaderBy_12 (by decide) (fun cc => ?_) (fun cc => ?_)
        ·
          replace hf := ite_t ((z_eq hr6 hr8).mp cc) hf
          clear cc
          obtain ⟨z10, ez⟩ : ∃ y : Int, y = (z2 + (1 : Int)) := ⟨_, rfl⟩
          replace hf := bnd_s hf ez
          refine lv_iinc (v := Int32.ofInt z10) (lv' := [(3, .int (Int32.ofInt z10)), (0, .ref a_p0), (1, .int (Int32.ofInt x1)), (2, .int (Int32.ofInt x2))]) hx hb dX12_leaderBy_29 hl (k := 0) rfl (by rw [ez]; exact (Int32.ofInt_add _ _).symm) (by decide) rfl (fun ls hl => ?_)
          clear ez
          refine lv_goto (tgt := 2) hx hb dX12_leaderBy_32 (by decide) ?_
          exact ih2 _ _ _ _ _ _ _ (lv_sub hl [0, 1, 2, 3] rfl) hP hD hS hf
        ·
          replace hf := ite_f (fun h9 => cc ((z_eq hr6 hr8).mpr h9)) hf
          clear cc
          refine lv_aload_n hx hb dX12_leaderBy_15 rfl (lv_at hl 1 rfl) ?_
          refine lv_iload_n hx hb dX12_leaderBy_16 rfl (lv_at hl 2 rfl) ?_
          refine lv_iload_n hx hb dX12_leaderBy_17 rfl (lv_at hl 0 rfl) ?_
          refine lv_iload_n hx hb dX12_leaderBy_18 rfl (lv_at hl 3 rfl) ?_
          have hq := bd4_s hf
          clear hf
          obtain ⟨z11, w12, w13, w14, hcall, hf⟩ := hq
          refine gsI (ws' := [(a_p0, .inr (12, [.ref a_p0_st, .ref a_p0_isKept, .int (Int32.ofInt i_p0_seats), .int (Int32.ofInt i_p0_stirs), .ref a_p0_brings, .ref a_p0_need, .ref a_p0_draft, .int (Int32.ofInt i_p0_dSeats), .int (Int32.ofInt i_p0_dStirs), .ref a_p0_dStir, .ref a_p0_dNeed, .int (Int32.ofInt i_p0_told), .int (Int32.ofInt i_p0_highest), .ref a_p0_tape, .int (Int32.ofInt i_p0_taped), .int (Int32.ofInt i_p0_pos), .int (Int32.ofInt i_p0_from), .int (Int32.ofInt i_p0_sort), .int (Int32.ofInt i_p0_value), .int (Int32.ofInt i_p0_fault), .int (Int32.ofInt i_p0_wrongAt), .ref a_p0_places, .ref a_p0_stirred, .ref a_p0_ways, .ref a_p0_waysThen, .ref a_p0_stays, .ref a_p0_fewest, .ref a_p0_bowls, .ref a_p0_has, .ref a_p0_goesOn, .ref a_p0_isThere, .ref a_p0_isThereThen, .ref a_p0_bestRow, .ref a_p0_lanes, .ref a_p0_sizes, .ref a_p0_cells, .int (Int32.ofInt i_p0_torn)])), (a_p0_st, .inl (G 1, 152, .inl (zA v_p0_st))), (a_p0_brings, .inl (G 1, 35, .inl (zA v_p0_brings))), (a_p0_places, .inl (G 1, 7, .inl (zA w12))), (a_p0_bowls, .inl (G 1, 7, .inl (zA w13))), (a_p0_has, .inl (G 1, 7, .inl (zA w14)))]) (va_runV (As := [.int (Int32.ofInt x1), .int (Int32.ofInt z2), .int (Int32.ofInt x2)]) (rest := []) ⟨hx, hb, hml, hown, hts⟩ (c_X12_coupBy (l := l) (D := D) (G := G) (sz := H.size) (a_p0 := a_p0) (a_p0_st := a_p0_st) (a_p0_isKept := a_p0_isKept) (a_p0_brings := a_p0_brings) (a_p0_need := a_p0_need) (a_p0_draft := a_p0_draft) (a_p0_dStir := a_p0_dStir) (a_p0_dNeed := a_p0_dNeed) (a_p0_tape := a_p0_tape) (a_p0_places := a_p0_places) (a_p0_stirred := a_p0_stirred) (a_p0_ways := a_p0_ways) (a_p0_waysThen := a_p0_waysThen) (a_p0_stays := a_p0_stays) (a_p0_fewest := a_p0_fewest) (a_p0_bowls := a_p0_bowls) (a_p0_has := a_p0_has) (a_p0_goesOn := a_p0_goesOn) (a_p0_isThere := a_p0_isThere) (a_p0_isThereThen := a_p0_isThereThen) (a_p0_bestRow := a_p0_bestRow) (a_p0_lanes := a_p0_lanes) (a_p0_sizes := a_p0_sizes) (a_p0_cells := a_p0_cells) (i_p0_seats := i_p0_seats) (i_p0_stirs := i_p0_stirs) (i_p0_dSeats := i_p0_dSeats) (i_p0_dStirs := i_p0_dStirs) (i_p0_told := i_p0_told) (i_p0_highest := i_p0_highest) (i_p0_taped := i_p0_taped) (i_p0_pos := i_p0_pos) (i_p0_from := i_p0_from) (i_p0_sort := i_p0_sort) (i_p0_value := i_p0_value) (i_p0_fault := i_p0_fault) (i_p0_wrongAt := i_p0_wrongAt) (i_p0_torn := i_p0_torn) (v_p0_st := v_p0_st) (v_p0_brings := v_p0_brings) (v_p0_places := w3) (v_p0_bowls := w4) (v_p0_has := w5) (x1 := x1) (x2 := z2) (x3 := x2) (r := z11) (o_v_p0_places := w12) (o_v_p0_bowls := w13) (o_v_p0_has := w14) (hf := hcall)) (cwV 3 hts gX12_leaderBy_X12_coupBy rfl rfl rfl hdV_yX12_coupBy_RX12 ⟨Nat.le_of_ble_eq_true rfl, Nat.le_of_ble_eq_true rfl⟩) (preG_V (ci := 12) (q := (RX12, TX12, 37)) (hP.sub [0, 1, 2, 3, 4, 5] rfl) (hD.sub [0, 1, 2, 3, 4, 5] rfl rfl) hK rfl rfl) rfl rfl hl.1 rfl (lv_room (Nat.le_of_ble_eq_true rfl)) dX12_leaderBy_19 ⟨Nat.le_of_ble_eq_true rfl, Nat.le_of_ble_eq_true rfl⟩) hP hD hS hA [0, 1, 2, 3, 4, 5] rfl rfl rfl (fun H locs hP hD hS => ?_)
          clear hcall
          refine lv_bipush (v := Int32.ofInt (-4 : Int)) hx hb dX12_leaderBy_22 (by decide) ?_
          have hr14 := ck_c hf
          replace hf := ck_r hf
          refine lv_icmp_eq (tgt := 29) hx hb dX12_leaderBy_24 (by decide) (fun cc => ?_) (fun cc => ?_)
          ·
            replace hf := ite_t ((z_eq hr14 (by decide)).mp cc) hf
            clear cc
            obtain ⟨z16, ez⟩ : ∃ y : Int, y = (z2 + (1 : Int)) := ⟨_, rfl⟩
            replace hf := bnd_s hf ez
            refine lv_iinc (v := Int32.ofInt z16) (lv' := [(3, .int (Int32.ofInt z16)), (0, .ref a_p0), (1, .int (Int32.ofInt x1)), (2, .int (Int32.ofInt x2))]) hx hb dX12_leaderBy_29 hl (k := 0) rfl (by rw [ez]; exact (Int32.ofInt_add _ _).symm) (by decide) rfl (fun ls hl => ?_)
            clear ez
            refine lv_goto (tgt := 2) hx hb dX12_leaderBy_32 (by decide) ?_
            exact ih2 _ _ _ _ _ _ _ (lv_sub hl [0, 1, 2, 3] rfl) hP hD hS hf
          ·
            replace hf := ite_f (fun h9 => cc ((z_eq hr14 (by decide)).mpr h9)) hf
            clear cc
            refine lv_iload_n hx hb dX12_leaderBy_27 rfl (lv_at hl 0 rfl) ?_
            obtain ⟨rfl, rfl, rfl, rfl⟩ := ou4 hf
            rw [hQ]
            exact W.iret hx hb hr (fun t ht hW => ⟨⟨_, (), rfl, rfl, by rw [ht]; exact hP, va_K.moved hW.alike hK, hD⟩, hS.F ht⟩) hS.2.2 dX12_leaderBy_28
  exact hB6 _ _ _ _ _ _ _ _ (lv_sub hl [0, 1, 2, 3] rfl) hP hD hS hf

noncomputable def f_X12_coup (i_p0_seats : Int) (i_p0_stirs : Int) (v_p0_st : (Int → Int)) (v_p0_brings : (Int → Int)) (v_p0_places : (Int → Int)) (v_p0_bowls : (Int → Int)) (v_p0_has : (Int → Int)) (x1 : Int) (x2 : Int) (x3 : Int) : Option (Int × (Int → Int) × (Int → Int) × (Int → Int)) := (bd1 (f_X12_isSeat i_p0_seats x1) (fun (z1 : Int) => (ck (z_r32 z1) (if z1 = (0 : Int) then (some ((-1 : Int), v_p0_places, v_p0_bowls, v_p0_has)) else (bd1 (f_X12_isStir i_p0_stirs x2) (fun (z3 : Int) => (ck (z_r32 z3) (if z3 = (0 : Int) then (some ((-1 : Int), v_p0_places, v_p0_bowls, v_p0_has)) else (bd1 (f_X12_isTold x3) (fun (z5 : Int) => (ck (z_r32 z5) (if z5 = (0 : Int) then (some ((-1 : Int), v_p0_places, v_p0_bowls, v_p0_has)) else (bd4 (f_X12_leaderBy i_p0_seats v_p0_st v_p0_brings v_p0_places v_p0_bowls v_p0_has x1 x2) (fun (z7 : Int) (w8 : (Int → Int)) (w9 : (Int → Int)) (w10 : (Int → Int)) => (bnd z7 (fun (z11 : Int) => (ck (z_r32 z11) (if z11 = (-4 : Int) then (some ((-4 : Int), w8, w9, w10)) else (ck (z_r32 x3) (if x3 = (0 : Int) then (some (z11, w8, w9, w10)) else (bd4 (f_X12_coupBy i_p0_seats v_p0_st v_p0_brings w8 w9 w10 x1 z11 x2) (fun (z14 : Int) (w15 : (Int → Int)) (w16 : (Int → Int)) (w17 : (Int → Int)) => (some (z14, w15, w16, w17))))))))))))))))))))))))
abbrev rm_X12_coup : Room := { frames := 5, cells := 0, slots := 0, locals := 118 }
theorem hdV_yX12_leaderBy_RX12 : yX12_leaderBy.cls = RX12 ∧ yX12_leaderBy.cls ≠ "java/lang/invoke/MethodHandle" ∧ yX12_leaderBy.cls ≠ "java/lang/invoke/VarHandle" ∧ (parseMethodDescriptor yX12_leaderBy.desc).map (fun d => d.parameters.length) = some 2 := by decide +kernel
set_option maxHeartbeats 8000000 in
set_option maxRecDepth 100000 in
theorem c_X12_coup (l : Launch) (D : va_G) (G : Nat → ClassId) (sz : Nat) (a_p0 : Nat) (a_p0_st : Nat) (a_p0_isKept : Nat) (a_p0_brings : Nat) (a_p0_need : Nat) (a_p0_draft : Nat) (a_p0_dStir : Nat) (a_p0_dNeed : Nat) (a_p0_tape : Nat) (a_p0_places : Nat) (a_p0_stirred : Nat) (a_p0_ways : Nat) (a_p0_waysThen : Nat) (a_p0_stays : Nat) (a_p0_fewest : Nat) (a_p0_bowls : Nat) (a_p0_has : Nat) (a_p0_goesOn : Nat) (a_p0_isThere : Nat) (a_p0_isThereThen : Nat) (a_p0_bestRow : Nat) (a_p0_lanes : Nat) (a_p0_sizes : Nat) (a_p0_cells : Nat) (i_p0_seats : Int) (i_p0_stirs : Int) (i_p0_dSeats : Int) (i_p0_dStirs : Int) (i_p0_told : Int) (i_p0_highest : Int) (i_p0_taped : Int) (i_p0_pos : Int) (i_p0_from : Int) (i_p0_sort : Int) (i_p0_value : Int) (i_p0_fault : Int) (i_p0_wrongAt : Int) (i_p0_torn : Int) (v_p0_st : (Int → Int)) (v_p0_brings : (Int → Int)) (v_p0_places : (Int → Int)) (v_p0_bowls : (Int → Int)) (v_p0_has : (Int → Int)) (x1 : Int) (x2 : Int) (x3 : Int) (r : Int) (o_v_p0_places : (Int → Int)) (o_v_p0_bowls : (Int → Int)) (o_v_p0_has : (Int → Int)) (hf : f_X12_coup i_p0_seats i_p0_stirs v_p0_st v_p0_brings v_p0_places v_p0_bowls v_p0_has x1 x2 x3 = some (r, o_v_p0_places, o_v_p0_bowls, o_v_p0_has)) : Met l yX12_coup wsX12_coup rm_X12_coup (pcG D G [.ref a_p0, .int (Int32.ofInt x1), .int (Int32.ofInt x2), .int (Int32.ofInt x3)] sz [(a_p0, .inr (12, [.ref a_p0_st, .ref a_p0_isKept, .int (Int32.ofInt i_p0_seats), .int (Int32.ofInt i_p0_stirs), .ref a_p0_brings, .ref a_p0_need, .ref a_p0_draft, .int (Int32.ofInt i_p0_dSeats), .int (Int32.ofInt i_p0_dStirs), .ref a_p0_dStir, .ref a_p0_dNeed, .int (Int32.ofInt i_p0_told), .int (Int32.ofInt i_p0_highest), .ref a_p0_tape, .int (Int32.ofInt i_p0_taped), .int (Int32.ofInt i_p0_pos), .int (Int32.ofInt i_p0_from), .int (Int32.ofInt i_p0_sort), .int (Int32.ofInt i_p0_value), .int (Int32.ofInt i_p0_fault), .int (Int32.ofInt i_p0_wrongAt), .ref a_p0_places, .ref a_p0_stirred, .ref a_p0_ways, .ref a_p0_waysThen, .ref a_p0_stays, .ref a_p0_fewest, .ref a_p0_bowls, .ref a_p0_has, .ref a_p0_goesOn, .ref a_p0_isThere, .ref a_p0_isThereThen, .ref a_p0_bestRow, .ref a_p0_lanes, .ref a_p0_sizes, .ref a_p0_cells, .int (Int32.ofInt i_p0_torn)])), (a_p0_st, .inl (G 1, 152, .inl (zA v_p0_st))), (a_p0_brings, .inl (G 1, 35, .inl (zA v_p0_brings))), (a_p0_places, .inl (G 1, 7, .inl (zA v_p0_places))), (a_p0_bowls, .inl (G 1, 7, .inl (zA v_p0_bowls))), (a_p0_has, .inl (G 1, 7, .inl (zA v_p0_has)))]) (qcI D G (Int32.ofInt r) [(a_p0, .inr (12, [.ref a_p0_st, .ref a_p0_isKept, .int (Int32.ofInt i_p0_seats), .int (Int32.ofInt i_p0_stirs), .ref a_p0_brings, .ref a_p0_need, .ref a_p0_draft, .int (Int32.ofInt i_p0_dSeats), .int (Int32.ofInt i_p0_dStirs), .ref a_p0_dStir, .ref a_p0_dNeed, .int (Int32.ofInt i_p0_told), .int (Int32.ofInt i_p0_highest), .ref a_p0_tape, .int (Int32.ofInt i_p0_taped), .int (Int32.ofInt i_p0_pos), .int (Int32.ofInt i_p0_from), .int (Int32.ofInt i_p0_sort), .int (Int32.ofInt i_p0_value), .int (Int32.ofInt i_p0_fault), .int (Int32.ofInt i_p0_wrongAt), .ref a_p0_places, .ref a_p0_stirred, .ref a_p0_ways, .ref a_p0_waysThen, .ref a_p0_stays, .ref a_p0_fewest, .ref a_p0_bowls, .ref a_p0_has, .ref a_p0_goesOn, .ref a_p0_isThere, .ref a_p0_isThereThen, .ref a_p0_bestRow, .ref a_p0_lanes, .ref a_p0_sizes, .ref a_p0_cells, .int (Int32.ofInt i_p0_torn)])), (a_p0_st, .inl (G 1, 152, .inl (zA v_p0_st))), (a_p0_brings, .inl (G 1, 35, .inl (zA v_p0_brings))), (a_p0_places, .inl (G 1, 7, .inl (zA o_v_p0_places))), (a_p0_bowls, .inl (G 1, 7, .inl (zA o_v_p0_bowls))), (a_p0_has, .inl (G 1, 7, .inl (zA o_v_p0_has)))] (va_A [(a_p0, .inr (12, [.ref a_p0_st, .ref a_p0_isKept, .int (Int32.ofInt i_p0_seats), .int (Int32.ofInt i_p0_stirs), .ref a_p0_brings, .ref a_p0_need, .ref a_p0_draft, .int (Int32.ofInt i_p0_dSeats), .int (Int32.ofInt i_p0_dStirs), .ref a_p0_dStir, .ref a_p0_dNeed, .int (Int32.ofInt i_p0_told), .int (Int32.ofInt i_p0_highest), .ref a_p0_tape, .int (Int32.ofInt i_p0_taped), .int (Int32.ofInt i_p0_pos), .int (Int32.ofInt i_p0_from), .int (Int32.ofInt i_p0_sort), .int (Int32.ofInt i_p0_value), .int (Int32.ofInt i_p0_fault), .int (Int32.ofInt i_p0_wrongAt), .ref a_p0_places, .ref a_p0_stirred, .ref a_p0_ways, .ref a_p0_waysThen, .ref a_p0_stays, .ref a_p0_fewest, .ref a_p0_bowls, .ref a_p0_has, .ref a_p0_goesOn, .ref a_p0_isThere, .ref a_p0_isThereThen, .ref a_p0_bestRow, .ref a_p0_lanes, .ref a_p0_sizes, .ref a_p0_cells, .int (Int32.ofInt i_p0_torn)])), (a_p0_st, .inl (G 1, 152, .inl (zA v_p0_st))), (a_p0_brings, .inl (G 1, 35, .inl (zA v_p0_brings))), (a_p0_places, .inl (G 1, 7, .inl (zA v_p0_places))), (a_p0_bowls, .inl (G 1, 7, .inl (zA v_p0_bowls))), (a_p0_has, .inl (G 1, 7, .inl (zA v_p0_has)))] sz)) 0 0 (va_A [(a_p0, .inr (12, [.ref a_p0_st, .ref a_p0_isKept, .int (Int32.ofInt i_p0_seats), .int (Int32.ofInt i_p0_stirs), .ref a_p0_brings, .ref a_p0_need, .ref a_p0_draft, .int (Int32.ofInt i_p0_dSeats), .int (Int32.ofInt i_p0_dStirs), .ref a_p0_dStir, .ref a_p0_dNeed, .int (Int32.ofInt i_p0_told), .int (Int32.ofInt i_p0_highest), .ref a_p0_tape, .int (Int32.ofInt i_p0_taped), .int (Int32.ofInt i_p0_pos), .int (Int32.ofInt i_p0_from), .int (Int32.ofInt i_p0_sort), .int (Int32.ofInt i_p0_value), .int (Int32.ofInt i_p0_fault), .int (Int32.ofInt i_p0_wrongAt), .ref a_p0_places, .ref a_p0_stirred, .ref a_p0_ways, .ref a_p0_waysThen, .ref a_p0_stays, .ref a_p0_fewest, .ref a_p0_bowls, .ref a_p0_has, .ref a_p0_goesOn, .ref a_p0_isThere, .ref a_p0_isThereThen, .ref a_p0_bestRow, .ref a_p0_lanes, .ref a_p0_sizes, .ref a_p0_cells, .int (Int32.ofInt i_p0_torn)])), (a_p0_st, .inl (G 1, 152, .inl (zA v_p0_st))), (a_p0_brings, .inl (G 1, 35, .inl (zA v_p0_brings))), (a_p0_places, .inl (G 1, 7, .inl (zA v_p0_places))), (a_p0_bowls, .inl (G 1, 7, .inl (zA v_p0_bowls))), (a_p0_has, .inl (G 1, 7, .inl (zA v_p0_has)))] sz) := by
  refine Met.ofW (cc := cX12_coup) (maxL := 5) (ret := (some .int)) (by decide) rfl ?_
  intro p e s m args below meth c s₁ B hml hv
  obtain ⟨rfl, hsz, hP, hK, hD0⟩ := hv
  have hx := B.exec
  have hb := B.bytes
  have hr := B.returns
  have hts := atoms_spec (ws := wsX12_coup) B.pre
  have hown : s.vm.findClass RX12 = some m.cls := findClass_of_methodNamed B.named
  have hlocks := B.notSynchronized
  subst hsz
  have hD := hD0.self (sz := s.heap.size)
  generalize hAe : va_A [(a_p0, .inr (12, [.ref a_p0_st, .ref a_p0_isKept, .int (Int32.ofInt i_p0_seats), .int (Int32.ofInt i_p0_stirs), .ref a_p0_brings, .ref a_p0_need, .ref a_p0_draft, .int (Int32.ofInt i_p0_dSeats), .int (Int32.ofInt i_p0_dStirs), .ref a_p0_dStir, .ref a_p0_dNeed, .int (Int32.ofInt i_p0_told), .int (Int32.ofInt i_p0_highest), .ref a_p0_tape, .int (Int32.ofInt i_p0_taped), .int (Int32.ofInt i_p0_pos), .int (Int32.ofInt i_p0_from), .int (Int32.ofInt i_p0_sort), .int (Int32.ofInt i_p0_value), .int (Int32.ofInt i_p0_fault), .int (Int32.ofInt i_p0_wrongAt), .ref a_p0_places, .ref a_p0_stirred, .ref a_p0_ways, .ref a_p0_waysThen, .ref a_p0_stays, .ref a_p0_fewest, .ref a_p0_bowls, .ref a_p0_has, .ref a_p0_goesOn, .ref a_p0_isThere, .ref a_p0_isThereThen, .ref a_p0_bestRow, .ref a_p0_lanes, .ref a_p0_sizes, .ref a_p0_cells, .int (Int32.ofInt i_p0_torn)])), (a_p0_st, .inl (G 1, 152, .inl (zA v_p0_st))), (a_p0_brings, .inl (G 1, 35, .inl (zA v_p0_brings))), (a_p0_places, .inl (G 1, 7, .inl (zA v_p0_places))), (a_p0_bowls, .inl (G 1, 7, .inl (zA v_p0_bowls))), (a_p0_has, .inl (G 1, 7, .inl (zA v_p0_has)))] s.heap.size = A at hD ⊢
  have hA : ∀ q : Nat, s.heap.size ≤ q → A q := fun q h => by rw [← hAe]; exact Or.inr h
  clear hAe hD0
  have hS : va_S A s.heap s.heap [] := va_S.rf
  have hl := lv_entry ([.ref a_p0, .int (Int32.ofInt x1), .int (Int32.ofInt x2), .int (Int32.ofInt x3)]) (n := 5) (Nat.le_of_ble_eq_true rfl)
  rw [lg_entry_eq]
  generalize (lg_sl ([.ref a_p0, .int (Int32.ofInt x1), .int (Int32.ofInt x2), .int (Int32.ofInt x3)]) ++ List.replicate (5 - (lg_sl ([.ref a_p0, .int (Int32.ofInt x1), .int (Int32.ofInt x2), .int (Int32.ofInt x3)])).length) Slot.unset).toArray = ls at hl ⊢
  have hl : lv_has ls 5 [(0, .ref a_p0), (1, .int (Int32.ofInt x1)), (2, .int (Int32.ofInt x2)), (3, .int (Int32.ofInt x3))] := hl
  refine W_nameQ (fun Q hQ => ?_)
  obtain ⟨H, hH⟩ : ∃ H, H = s.heap := ⟨_, rfl⟩
  replace hS : va_S A s.heap H [] := by rw [hH]; exact hS
  replace hP : va_P D vwCl [(a_p0, .inr (12, [.ref a_p0_st, .ref a_p0_isKept, .int (Int32.ofInt i_p0_seats), .int (Int32.ofInt i_p0_stirs), .ref a_p0_brings, .ref a_p0_need, .ref a_p0_draft, .int (Int32.ofInt i_p0_dSeats), .int (Int32.ofInt i_p0_dStirs), .ref a_p0_dStir, .ref a_p0_dNeed, .int (Int32.ofInt i_p0_told), .int (Int32.ofInt i_p0_highest), .ref a_p0_tape, .int (Int32.ofInt i_p0_taped), .int (Int32.ofInt i_p0_pos), .int (Int32.ofInt i_p0_from), .int (Int32.ofInt i_p0_sort), .int (Int32.ofInt i_p0_value), .int (Int32.ofInt i_p0_fault), .int (Int32.ofInt i_p0_wrongAt), .ref a_p0_places, .ref a_p0_stirred, .ref a_p0_ways, .ref a_p0_waysThen, .ref a_p0_stays, .ref a_p0_fewest, .ref a_p0_bowls, .ref a_p0_has, .ref a_p0_goesOn, .ref a_p0_isThere, .ref a_p0_isThereThen, .ref a_p0_bestRow, .ref a_p0_lanes, .ref a_p0_sizes, .ref a_p0_cells, .int (Int32.ofInt i_p0_torn)])), (a_p0_st, .inl (G 1, 152, .inl (zA v_p0_st))), (a_p0_brings, .inl (G 1, 35, .inl (zA v_p0_brings))), (a_p0_places, .inl (G 1, 7, .inl (zA v_p0_places))), (a_p0_bowls, .inl (G 1, 7, .inl (zA v_p0_bowls))), (a_p0_has, .inl (G 1, 7, .inl (zA v_p0_has)))] H := by rw [hH]; exact hP
  rw [← hH]
  clear hH
  unfold f_X12_coup at hf
  refine lv_aload_n hx hb dX12_coup_0 rfl (lv_at hl 0 rfl) ?_
  refine lv_iload_n hx hb dX12_coup_1 rfl (lv_at hl 1 rfl) ?_
  have hq := bd1_s hf
  clear hf
  obtain ⟨z1, hcall, hf⟩ := hq
  refine gnI (va_runV (As := [.int (Int32.ofInt x1)]) (rest := []) ⟨hx, hb, hml, hown, hts⟩ (c_X12_isSeat (l := l) (D := D) (G := G) (sz := H.size) (a_p0 := a_p0) (a_p0_st := a_p0_st) (a_p0_isKept := a_p0_isKept) (a_p0_brings := a_p0_brings) (a_p0_need := a_p0_need) (a_p0_draft := a_p0_draft) (a_p0_dStir := a_p0_dStir) (a_p0_dNeed := a_p0_dNeed) (a_p0_tape := a_p0_tape) (a_p0_places := a_p0_places) (a_p0_stirred := a_p0_stirred) (a_p0_ways := a_p0_ways) (a_p0_waysThen := a_p0_waysThen) (a_p0_stays := a_p0_stays) (a_p0_fewest := a_p0_fewest) (a_p0_bowls := a_p0_bowls) (a_p0_has := a_p0_has) (a_p0_goesOn := a_p0_goesOn) (a_p0_isThere := a_p0_isThere) (a_p0_isThereThen := a_p0_isThereThen) (a_p0_bestRow := a_p0_bestRow) (a_p0_lanes := a_p0_lanes) (a_p0_sizes := a_p0_sizes) (a_p0_cells := a_p0_cells) (i_p0_seats := i_p0_seats) (i_p0_stirs := i_p0_stirs) (i_p0_dSeats := i_p0_dSeats) (i_p0_dStirs := i_p0_dStirs) (i_p0_told := i_p0_told) (i_p0_highest := i_p0_highest) (i_p0_taped := i_p0_taped) (i_p0_pos := i_p0_pos) (i_p0_from := i_p0_from) (i_p0_sort := i_p0_sort) (i_p0_value := i_p0_value) (i_p0_fault := i_p0_fault) (i_p0_wrongAt := i_p0_wrongAt) (i_p0_torn := i_p0_torn) (x1 := x1) (r := z1) (hf := hcall)) (cwV 1 hts gX12_coup_X12_isSeat rfl rfl rfl hdV_yX12_isSeat_RX12 ⟨Nat.le_of_ble_eq_true rfl, Nat.le_of_ble_eq_true rfl⟩) (preG_V (ci := 12) (q := (RX12, TX12, 37)) (hP.sub [0] rfl) (hD.sub [0] rfl rfl) hK rfl rfl) rfl rfl hl.1 rfl (lv_room (Nat.le_of_ble_eq_true rfl)) dX12_coup_2 ⟨Nat.le_of_ble_eq_true rfl, Nat.le_of_ble_eq_true rfl⟩) hP hD hS hA [0] rfl (fun H locs hP hD hS => ?_)
  clear hcall
  have hr1 := ck_c hf
  replace hf := ck_r hf
  refine lv_if_eq (tgt := 23) hx hb dX12_coup_5 (by decide) (fun cc => ?_) (fun cc => ?_)
  ·
    replace hf := ite_t ((z_eq0 hr1).mp cc) hf
    clear cc
    refine lv_iconst (v := Int32.ofInt (-1 : Int)) hx hb dX12_coup_23 (by decide) ?_
    obtain ⟨rfl, rfl, rfl, rfl⟩ := ou4 hf
    rw [hQ]
    exact W.iret hx hb hr (fun t ht hW => ⟨⟨_, (), rfl, rfl, by rw [ht]; exact hP, va_K.moved hW.alike hK, hD⟩, hS.F ht⟩) hS.2.2 dX12_coup_24
  ·
    replace hf := ite_f (fun h9 => cc ((z_eq0 hr1).mpr h9)) hf
    clear cc
    refine lv_aload_n hx hb dX12_coup_8 rfl (lv_at hl 0 rfl) ?_
    refine lv_iload_n hx hb dX12_coup_9 rfl (lv_at hl 2 rfl) ?_
    have hq := bd1_s hf
    clear hf
    obtain ⟨z3, hcall, hf⟩ := hq
    refine gnI (va_runV (As := [.int (Int32.ofInt x2)]) (rest := []) ⟨hx, hb, hml, hown, hts⟩ (c_X12_isStir (l := l) (D := D) (G := G) (sz := H.size) (a_p0 := a_p0) (a_p0_st := a_p0_st) (a_p0_isKept := a_p0_isKept) (a_p0_brings := a_p0_brings) (a_p0_need := a_p0_need) (a_p0_draft := a_p0_draft) (a_p0_dStir := a_p0_dStir) (a_p0_dNeed := a_p0_dNeed) (a_p0_tape := a_p0_tape) (a_p0_places := a_p0_places) (a_p0_stirred := a_p0_stirred) (a_p0_ways := a_p0_ways) (a_p0_waysThen := a_p0_waysThen) (a_p0_stays := a_p0_stays) (a_p0_fewest := a_p0_fewest) (a_p0_bowls := a_p0_bowls) (a_p0_has := a_p0_has) (a_p0_goesOn := a_p0_goesOn) (a_p0_isThere := a_p0_isThere) (a_p0_isThereThen := a_p0_isThereThen) (a_p0_bestRow := a_p0_bestRow) (a_p0_lanes := a_p0_lanes) (a_p0_sizes := a_p0_sizes) (a_p0_cells := a_p0_cells) (i_p0_seats := i_p0_seats) (i_p0_stirs := i_p0_stirs) (i_p0_dSeats := i_p0_dSeats) (i_p0_dStirs := i_p0_dStirs) (i_p0_told := i_p0_told) (i_p0_highest := i_p0_highest) (i_p0_taped := i_p0_taped) (i_p0_pos := i_p0_pos) (i_p0_from := i_p0_from) (i_p0_sort := i_p0_sort) (i_p0_value := i_p0_value) (i_p0_fault := i_p0_fault) (i_p0_wrongAt := i_p0_wrongAt) (i_p0_torn := i_p0_torn) (x1 := x2) (r := z3) (hf := hcall)) (cwV 1 hts gX12_coup_X12_isStir rfl rfl rfl hdV_yX12_isStir_RX12 ⟨Nat.le_of_ble_eq_true rfl, Nat.le_of_ble_eq_true rfl⟩) (preG_V (ci := 12) (q := (RX12, TX12, 37)) (hP.sub [0] rfl) (hD.sub [0] rfl rfl) hK rfl rfl) rfl rfl hl.1 rfl (lv_room (Nat.le_of_ble_eq_true rfl)) dX12_coup_10 ⟨Nat.le_of_ble_eq_true rfl, Nat.le_of_ble_eq_true rfl⟩) hP hD hS hA [0] rfl (fun H locs hP hD hS => ?_)
    clear hcall
    have hr3 := ck_c hf
    replace hf := ck_r hf
    refine lv_if_eq (tgt := 23) hx hb dX12_coup_13 (by decide) (fun cc => ?_) (fun cc => ?_)
    ·
      replace hf := ite_t ((z_eq0 hr3).mp cc) hf
      clear cc
      refine lv_iconst (v := Int32.ofInt (-1 : Int)) hx hb dX12_coup_23 (by decide) ?_
      obtain ⟨rfl, rfl, rfl, rfl⟩ := ou4 hf
      rw [hQ]
      exact W.iret hx hb hr (fun t ht hW => ⟨⟨_, (), rfl, rfl, by rw [ht]; exact hP, va_K.moved hW.alike hK, hD⟩, hS.F ht⟩) hS.2.2 dX12_coup_24
    ·
      replace hf := ite_f (fun h9 => cc ((z_eq0 hr3).mpr h9)) hf
      clear cc
      refine lv_iload_n hx hb dX12_coup_16 rfl (lv_at hl 3 rfl) ?_
      have hq := bd1_s hf
      clear hf
      obtain ⟨z5, hcall, hf⟩ := hq
      refine gnI (va_runS (As := [.int (Int32.ofInt x3)]) (rest := []) ⟨hx, hb, hml, hown, hts⟩ (c_X12_isTold (l := l) (D := D) (G := G) (sz := H.size) (x0 := x3) (r := z5) (hf := hcall)) (va_cwS 1 hts gX12_coup_X12_isTold rfl rfl rfl (by decide +kernel) ⟨Nat.le_of_ble_eq_true rfl, Nat.le_of_ble_eq_true rfl⟩) (preG_S (hP.sub [] rfl) (hD.sub [] rfl rfl) hK) rfl rfl hl.1 rfl (lv_room (Nat.le_of_ble_eq_true rfl)) dX12_coup_17 ⟨Nat.le_of_ble_eq_true rfl, Nat.le_of_ble_eq_true rfl⟩) hP hD hS hA [] rfl (fun H locs hP hD hS => ?_)
      clear hcall
      have hr5 := ck_c hf
      replace hf := ck_r hf
      refine lv_if_ne (tgt := 25) hx hb dX12_coup_20 (by decide) (fun cc => ?_) (fun cc => ?_)
      ·
        replace hf := ite_f (fun h9 => cc ((z_eq0 hr5).mpr h9)) hf
        clear cc
        refine lv_aload_n hx hb dX12_coup_25 rfl (lv_at hl 0 rfl) ?_
        refine lv_iload_n hx hb dX12_coup_26 rfl (lv_at hl 1 rfl) ?_
        refine lv_iload_n hx hb dX12_coup_27 rfl (lv_at hl 2 rfl) ?_
        have hq := bd4_s hf
        clear hf
        obtain ⟨z7, w8, w9, w10, hcall, hf⟩ := hq
        refine gsI (ws' := [(a_p0, .inr (12, [.ref a_p0_st, .ref a_p0_isKept, .int (Int32.ofInt i_p0_seats), .int (Int32.ofInt i_p0_stirs), .ref a_p0_brings, .ref a_p0_need, .ref a_p0_draft, .int (Int32.ofInt i_p0_dSeats), .int (Int32.ofInt i_p0_dStirs), .ref a_p0_dStir, .ref a_p0_dNeed, .int (Int32.ofInt i_p0_told), .int (Int32.ofInt i_p0_highest), .ref a_p0_tape, .int (Int32.ofInt i_p0_taped), .int (Int32.ofInt i_p0_pos), .int (Int32.ofInt i_p0_from), .int (Int32.ofInt i_p0_sort), .int (Int32.ofInt i_p0_value), .int (Int32.ofInt i_p0_fault), .int (Int32.ofInt i_p0_wrongAt), .ref a_p0_places, .ref a_p0_stirred, .ref a_p0_ways, .ref a_p0_waysThen, .ref a_p0_stays, .ref a_p0_fewest, .ref a_p0_bowls, .ref a_p0_has, .ref a_p0_goesOn, .ref a_p0_isThere, .ref a_p0_isThereThen, .ref a_p0_bestRow, .ref a_p0_lanes, .ref a_p0_sizes, .ref a_p0_cells, .int (Int32.ofInt i_p0_torn)])), (a_p0_st, .inl (G 1, 152, .inl (zA v_p0_st))), (a_p0_brings, .inl (G 1, 35, .inl (zA v_p0_brings))), (a_p0_places, .inl (G 1, 7, .inl (zA w8))), (a_p0_bowls, .inl (G 1, 7, .inl (zA w9))), (a_p0_has, .inl (G 1, 7, .inl (zA w10)))]) (va_runV (As := [.int (Int32.ofInt x1), .int (Int32.ofInt x2)]) (rest := []) ⟨hx, hb, hml, hown, hts⟩ (c_X12_leaderBy (l := l) (D := D) (G := G) (sz := H.size) (a_p0 := a_p0) (a_p0_st := a_p0_st) (a_p0_isKept := a_p0_isKept) (a_p0_brings := a_p0_brings) (a_p0_need := a_p0_need) (a_p0_draft := a_p0_draft) (a_p0_dStir := a_p0_dStir) (a_p0_dNeed := a_p0_dNeed) (a_p0_tape := a_p0_tape) (a_p0_places := a_p0_places) (a_p0_stirred := a_p0_stirred) (a_p0_ways := a_p0_ways) (a_p0_waysThen := a_p0_waysThen) (a_p0_stays := a_p0_stays) (a_p0_fewest := a_p0_fewest) (a_p0_bowls := a_p0_bowls) (a_p0_has := a_p0_has) (a_p0_goesOn := a_p0_goesOn) (a_p0_isThere := a_p0_isThere) (a_p0_isThereThen := a_p0_isThereThen) (a_p0_bestRow := a_p0_bestRow) (a_p0_lanes := a_p0_lanes) (a_p0_sizes := a_p0_sizes) (a_p0_cells := a_p0_cells) (i_p0_seats := i_p0_seats) (i_p0_stirs := i_p0_stirs) (i_p0_dSeats := i_p0_dSeats) (i_p0_dStirs := i_p0_dStirs) (i_p0_told := i_p0_told) (i_p0_highest := i_p0_highest) (i_p0_taped := i_p0_taped) (i_p0_pos := i_p0_pos) (i_p0_from := i_p0_from) (i_p0_sort := i_p0_sort) (i_p0_value := i_p0_value) (i_p0_fault := i_p0_fault) (i_p0_wrongAt := i_p0_wrongAt) (i_p0_torn := i_p0_torn) (v_p0_st := v_p0_st) (v_p0_brings := v_p0_brings) (v_p0_places := v_p0_places) (v_p0_bowls := v_p0_bowls) (v_p0_has := v_p0_has) (x1 := x1) (x2 := x2) (r := z7) (o_v_p0_places := w8) (o_v_p0_bowls := w9) (o_v_p0_has := w10) (hf := hcall)) (cwV 2 hts gX12_coup_X12_leaderBy rfl rfl rfl hdV_yX12_leaderBy_RX12 ⟨Nat.le_of_ble_eq_true rfl, Nat.le_of_ble_eq_true rfl⟩) (preG_V (ci := 12) (q := (RX12, TX12, 37)) (hP.sub [0, 1, 2, 3, 4, 5] rfl) (hD.sub [0, 1, 2, 3, 4, 5] rfl rfl) hK rfl rfl) rfl rfl hl.1 rfl (lv_room (Nat.le_of_ble_eq_true rfl)) dX12_coup_28 ⟨Nat.le_of_ble_eq_true rfl, Nat.le_of_ble_eq_true rfl⟩) hP hD hS hA [0, 1, 2, 3, 4, 5] rfl rfl rfl (fun H locs hP hD hS => ?_)
        clear hcall
        refine z_topi (fun z11 ez => ?_)
        replace hf := bnd_s hf ez
        clear ez
        refine lv_istore (lv' := [(4, .int (Int32.ofInt z11)), (0, .ref a_p0), (1, .int (Int32.ofInt x1)), (2, .int (Int32.ofInt x2)), (3, .int (Int32.ofInt x3))]) hx hb dX12_coup_31 hl (by decide) rfl (fun ls hl => ?_)
        refine lv_iload hx hb dX12_coup_33 (lv_at hl 0 rfl) ?_
        refine lv_bipush (v := Int32.ofInt (-4 : Int)) hx hb dX12_coup_35 (by decide) ?_
        have hr11 := ck_c hf
        replace hf := ck_r hf
        refine lv_icmp_ne (tgt := 45) hx hb dX12_coup_37 (by decide) (fun cc => ?_) (fun cc => ?_)
        ·
          replace hf := ite_f (fun h9 => cc ((z_eq hr11 (by decide)).mpr h9)) hf
          clear cc
          refine lv_iload_n hx hb dX12_coup_45 rfl (lv_at hl 4 rfl) ?_
          have hr12 := ck_c hf
          replace hf := ck_r hf
          refine lv_if_ne (tgt := 54) hx hb dX12_coup_46 (by decide) (fun cc => ?_) (fun cc => ?_)
          ·
            replace hf := ite_f (fun h9 => cc ((z_eq0 hr12).mpr h9)) hf
            clear cc
            refine lv_aload_n hx hb dX12_coup_54 rfl (lv_at hl 1 rfl) ?_
            refine lv_iload_n hx hb dX12_coup_55 rfl (lv_at hl 2 rfl) ?_
            refine lv_iload hx hb dX12_coup_56 (lv_at hl 0 rfl) ?_
            refine lv_iload_n hx hb dX12_coup_58 rfl (lv_at hl 3 rfl) ?_
            have hq := bd4_s hf
            clear hf
            obtain ⟨z14, w15, w16, w17, hcall, hf⟩ := hq
            refine gsI (ws' := [(a_p0, .inr (12, [.ref a_p0_st, .ref a_p0_isKept, .int (Int32.ofInt i_p0_seats), .int (Int32.ofInt i_p0_stirs), .ref a_p0_brings, .ref a_p0_need, .ref a_p0_draft, .int (Int32.ofInt i_p0_dSeats), .int (Int32.ofInt i_p0_dStirs), .ref a_p0_dStir, .ref a_p0_dNeed, .int (Int32.ofInt i_p0_told), .int (Int32.ofInt i_p0_highest), .ref a_p0_tape, .int (Int32.ofInt i_p0_taped), .int (Int32.ofInt i_p0_pos), .int (Int32.ofInt i_p0_from), .int (Int32.ofInt i_p0_sort), .int (Int32.ofInt i_p0_value), .int (Int32.ofInt i_p0_fault), .int (Int32.ofInt i_p0_wrongAt), .ref a_p0_places, .ref a_p0_stirred, .ref a_p0_ways, .ref a_p0_waysThen, .ref a_p0_stays, .ref a_p0_fewest, .ref a_p0_bowls, .ref a_p0_has, .ref a_p0_goesOn, .ref a_p0_isThere, .ref a_p0_isThereThen, .ref a_p0_bestRow, .ref a_p0_lanes, .ref a_p0_sizes, .ref a_p0_cells, .int (Int32.ofInt i_p0_torn)])), (a_p0_st, .inl (G 1, 152, .inl (zA v_p0_st))), (a_p0_brings, .inl (G 1, 35, .inl (zA v_p0_brings))), (a_p0_places, .inl (G 1, 7, .inl (zA w15))), (a_p0_bowls, .inl (G 1, 7, .inl (zA w16))), (a_p0_has, .inl (G 1, 7, .inl (zA w17)))]) (va_runV (As := [.int (Int32.ofInt x1), .int (Int32.ofInt z11), .int (Int32.ofInt x2)]) (rest := []) ⟨hx, hb, hml, hown, hts⟩ (c_X12_coupBy (l := l) (D := D) (G := G) (sz := H.size) (a_p0 := a_p0) (a_p0_st := a_p0_st) (a_p0_isKept := a_p0_isKept) (a_p0_brings := a_p0_brings) (a_p0_need := a_p0_need) (a_p0_draft := a_p0_draft) (a_p0_dStir := a_p0_dStir) (a_p0_dNeed := a_p0_dNeed) (a_p0_tape := a_p0_tape) (a_p0_places := a_p0_places) (a_p0_stirred := a_p0_stirred) (a_p0_ways := a_p0_ways) (a_p0_waysThen := a_p0_waysThen) (a_p0_stays := a_p0_stays) (a_p0_fewest := a_p0_fewest) (a_p0_bowls := a_p0_bowls) (a_p0_has := a_p0_has) (a_p0_goesOn := a_p0_goesOn) (a_p0_isThere := a_p0_isThere) (a_p0_isThereThen := a_p0_isThereThen) (a_p0_bestRow := a_p0_bestRow) (a_p0_lanes := a_p0_lanes) (a_p0_sizes := a_p0_sizes) (a_p0_cells := a_p0_cells) (i_p0_seats := i_p0_seats) (i_p0_stirs := i_p0_stirs) (i_p0_dSeats := i_p0_dSeats) (i_p0_dStirs := i_p0_dStirs) (i_p0_told := i_p0_told) (i_p0_highest := i_p0_highest) (i_p0_taped := i_p0_taped) (i_p0_pos := i_p0_pos) (i_p0_from := i_p0_from) (i_p0_sort := i_p0_sort) (i_p0_value := i_p0_value) (i_p0_fault := i_p0_fault) (i_p0_wrongAt := i_p0_wrongAt) (i_p0_torn := i_p0_torn) (v_p0_st := v_p0_st) (v_p0_brings := v_p0_brings) (v_p0_places := w8) (v_p0_bowls := w9) (v_p0_has := w10) (x1 := x1) (x2 := z11) (x3 := x2) (r := z14) (o_v_p0_places := w15) (o_v_p0_bowls := w16) (o_v_p0_has := w17) (hf := hcall)) (cwV 3 hts gX12_coup_X12_coupBy rfl rfl rfl hdV_yX12_coupBy_RX12 ⟨Nat.le_of_ble_eq_true rfl, Nat.le_of_ble_eq_true rfl⟩) (preG_V (ci := 12) (q := (RX12, TX12, 37)) (hP.sub [0, 1, 2, 3, 4, 5] rfl) (hD.sub [0, 1, 2, 3, 4, 5] rfl rfl) hK rfl rfl) rfl rfl hl.1 rfl (lv_room (Nat.le_of_ble_eq_true rfl)) dX12_coup_59 ⟨Nat.le_of_ble_eq_true rfl, Nat.le_of_ble_eq_true rfl⟩) hP hD hS hA [0, 1, 2, 3, 4, 5] rfl rfl rfl (fun H locs hP hD hS => ?_)
            clear hcall
            obtain ⟨rfl, rfl, rfl, rfl⟩ := ou4 hf
            rw [hQ]
            exact W.iret hx hb hr (fun t ht hW => ⟨⟨_, (), rfl, rfl, by rw [ht]; exact hP, va_K.moved hW.alike hK, hD⟩, hS.F ht⟩) hS.2.2 dX12_coup_62
          ·
            replace hf := ite_t ((z_eq0 hr12).mp cc) hf
            clear cc
            refine lv_iload hx hb dX12_coup_49 (lv_at hl 0 rfl) ?_
            refine lv_goto (tgt := 62) hx hb dX12_coup_51 (by decide) ?_
            obtain ⟨rfl, rfl, rfl, rfl⟩ := ou4 hf
            rw [hQ]
            exact W.iret hx hb hr (fun t ht hW => ⟨⟨_, (), rfl, rfl, by rw [ht]; exact hP, va_K.moved hW.alike hK, hD⟩, hS.F ht⟩) hS.2.2 dX12_coup_62
        ·
          replace hf := ite_t ((z_eq hr11 (by decide)).mp cc) hf
          clear cc
          refine lv_bipush (v := Int32.ofInt (-4 : Int)) hx hb dX12_coup_40 (by decide) ?_
          refine lv_goto (tgt := 62) hx hb dX12_coup_42 (by decide) ?_
          obtain ⟨rfl, rfl, rfl, rfl⟩ := ou4 hf
          rw [hQ]
          exact W.iret hx hb hr (fun t ht hW => ⟨⟨_, (), rfl, rfl, by rw [ht]; exact hP, va_K.moved hW.alike hK, hD⟩, hS.F ht⟩) hS.2.2 dX12_coup_62
      ·
        replace hf := ite_t ((z_eq0 hr5).mp cc) hf
        clear cc
        refine lv_iconst (v := Int32.ofInt (-1 : Int)) hx hb dX12_coup_23 (by decide) ?_
        obtain ⟨rfl, rfl, rfl, rfl⟩ := ou4 hf
        rw [hQ]
        exact W.iret hx hb hr (fun t ht hW => ⟨⟨_, (), rfl, rfl, by rw [ht]; exact hP, va_K.moved hW.alike hK, hD⟩, hS.F ht⟩) hS.2.2 dX12_coup_24

noncomputable def B_X12_firm_14 (i_p0_seats : Int) (v_p0_st : (Int → Int)) (v_p0_brings : (Int → Int)) (x1 : Int) (again14 : Int → Int → (Int → Int) → (Int → Int) → (Int → Int) → Option (Int × (Int → Int) × (Int → Int) × (Int → Int))) (z5 : Int) (z6 : Int) (w7 : (Int → Int)) (w8 : (Int → Int)) (w9 : (Int → Int)) : Option (Int × (Int → Int) × (Int → Int) × (Int → Int)) := (ck (z_r32 z5) (ck (z_r32 i_p0_seats) (if i_p0_seats ≤ z5 then (some (z6, w7, w8, w9)) else (bd4 (f_X12_leaderBy i_p0_seats v_p0_st v_p0_brings w7 w8 w9 z5 x1) (fun (z13 : Int) (w14 : (Int → Int)) (w15 : (Int → Int)) (w16 : (Int → Int)) => (ck (z_r32 z13) (jn (fun (z18 : Int) (z19 : Int) => (bd1 (f_X12_flag z19) (fun (z21 : Int) => (bnd (z_or z18 (z_shl z21 z5)) (fun (z22 : Int) => (bnd (z5 + (1 : Int)) (fun (z23 : Int) => (again14 z23 z22 w14 w15 w16)))))))) (fun (J20 : Int → Int → Option (Int × (Int → Int) × (Int → Int) × (Int → Int))) => (if z13 = (-4 : Int) then (J20 z6 (1 : Int)) else (J20 z6 (0 : Int)))))))))))
noncomputable def f_X12_firm (i_p0_seats : Int) (i_p0_stirs : Int) (v_p0_st : (Int → Int)) (v_p0_brings : (Int → Int)) (v_p0_places : (Int → Int)) (v_p0_bowls : (Int → Int)) (v_p0_has : (Int → Int)) (x1 : Int) : Option (Int × (Int → Int) × (Int → Int) × (Int → Int)) := (bd1 (f_X12_isStir i_p0_stirs x1) (fun (z1 : Int) => (ck (z_r32 z1) (if z1 = (0 : Int) then (some ((-1 : Int), v_p0_places, v_p0_bowls, v_p0_has)) else (bnd (0 : Int) (fun (z3 : Int) => (bnd (0 : Int) (fun (z4 : Int) => (lq5 (B_X12_firm_14 i_p0_seats v_p0_st v_p0_brings x1) 1000 z4 z3 v_p0_places v_p0_bowls v_p0_has)))))))))
abbrev rm_X12_firm : Room := { frames := 5, cells := 0, slots := 0, locals := 118 }
theorem inX12_firm_X12 : ∀ w ∈ wsX120, w ∈ wsX12_firm := by first | exact fun w h => List.mem_cons_of_mem _ (List.mem_append_right _ h) | decide +kernel
theorem mwX12_firm_1 : Cond.fieldLink RX12 100 "LadleKingsModel" "seats" "I" ∈ wsX12_firm := by first | exact List.mem_of_getElem? (i := 1) rfl | decide +kernel
set_option maxHeartbeats 8000000 in
set_option maxRecDepth 100000 in
theorem c_X12_firm (l : Launch) (D : va_G) (G : Nat → ClassId) (sz : Nat) (a_p0 : Nat) (a_p0_st : Nat) (a_p0_isKept : Nat) (a_p0_brings : Nat) (a_p0_need : Nat) (a_p0_draft : Nat) (a_p0_dStir : Nat) (a_p0_dNeed : Nat) (a_p0_tape : Nat) (a_p0_places : Nat) (a_p0_stirred : Nat) (a_p0_ways : Nat) (a_p0_waysThen : Nat) (a_p0_stays : Nat) (a_p0_fewest : Nat) (a_p0_bowls : Nat) (a_p0_has : Nat) (a_p0_goesOn : Nat) (a_p0_isThere : Nat) (a_p0_isThereThen : Nat) (a_p0_bestRow : Nat) (a_p0_lanes : Nat) (a_p0_sizes : Nat) (a_p0_cells : Nat) (i_p0_seats : Int) (i_p0_stirs : Int) (i_p0_dSeats : Int) (i_p0_dStirs : Int) (i_p0_told : Int) (i_p0_highest : Int) (i_p0_taped : Int) (i_p0_pos : Int) (i_p0_from : Int) (i_p0_sort : Int) (i_p0_value : Int) (i_p0_fault : Int) (i_p0_wrongAt : Int) (i_p0_torn : Int) (v_p0_st : (Int → Int)) (v_p0_brings : (Int → Int)) (v_p0_places : (Int → Int)) (v_p0_bowls : (Int → Int)) (v_p0_has : (Int → Int)) (x1 : Int) (r : Int) (o_v_p0_places : (Int → Int)) (o_v_p0_bowls : (Int → Int)) (o_v_p0_has : (Int → Int)) (hf : f_X12_firm i_p0_seats i_p0_stirs v_p0_st v_p0_brings v_p0_places v_p0_bowls v_p0_has x1 = some (r, o_v_p0_places, o_v_p0_bowls, o_v_p0_has)) : Met l yX12_firm wsX12_firm rm_X12_firm (pcG D G [.ref a_p0, .int (Int32.ofInt x1)] sz [(a_p0, .inr (12, [.ref a_p0_st, .ref a_p0_isKept, .int (Int32.ofInt i_p0_seats), .int (Int32.ofInt i_p0_stirs), .ref a_p0_brings, .ref a_p0_need, .ref a_p0_draft, .int (Int32.ofInt i_p0_dSeats), .int (Int32.ofInt i_p0_dStirs), .ref a_p0_dStir, .ref a_p0_dNeed, .int (Int32.ofInt i_p0_told), .int (Int32.ofInt i_p0_highest), .ref a_p0_tape, .int (Int32.ofInt i_p0_taped), .int (Int32.ofInt i_p0_pos), .int (Int32.ofInt i_p0_from), .int (Int32.ofInt i_p0_sort), .int (Int32.ofInt i_p0_value), .int (Int32.ofInt i_p0_fault), .int (Int32.ofInt i_p0_wrongAt), .ref a_p0_places, .ref a_p0_stirred, .ref a_p0_ways, .ref a_p0_waysThen, .ref a_p0_stays, .ref a_p0_fewest, .ref a_p0_bowls, .ref a_p0_has, .ref a_p0_goesOn, .ref a_p0_isThere, .ref a_p0_isThereThen, .ref a_p0_bestRow, .ref a_p0_lanes, .ref a_p0_sizes, .ref a_p0_cells, .int (Int32.ofInt i_p0_torn)])), (a_p0_st, .inl (G 1, 152, .inl (zA v_p0_st))), (a_p0_brings, .inl (G 1, 35, .inl (zA v_p0_brings))), (a_p0_places, .inl (G 1, 7, .inl (zA v_p0_places))), (a_p0_bowls, .inl (G 1, 7, .inl (zA v_p0_bowls))), (a_p0_has, .inl (G 1, 7, .inl (zA v_p0_has)))]) (qcI D G (Int32.ofInt r) [(a_p0, .inr (12, [.ref a_p0_st, .ref a_p0_isKept, .int (Int32.ofInt i_p0_seats), .int (Int32.ofInt i_p0_stirs), .ref a_p0_brings, .ref a_p0_need, .ref a_p0_draft, .int (Int32.ofInt i_p0_dSeats), .int (Int32.ofInt i_p0_dStirs), .ref a_p0_dStir, .ref a_p0_dNeed, .int (Int32.ofInt i_p0_told), .int (Int32.ofInt i_p0_highest), .ref a_p0_tape, .int (Int32.ofInt i_p0_taped), .int (Int32.ofInt i_p0_pos), .int (Int32.ofInt i_p0_from), .int (Int32.ofInt i_p0_sort), .int (Int32.ofInt i_p0_value), .int (Int32.ofInt i_p0_fault), .int (Int32.ofInt i_p0_wrongAt), .ref a_p0_places, .ref a_p0_stirred, .ref a_p0_ways, .ref a_p0_waysThen, .ref a_p0_stays, .ref a_p0_fewest, .ref a_p0_bowls, .ref a_p0_has, .ref a_p0_goesOn, .ref a_p0_isThere, .ref a_p0_isThereThen, .ref a_p0_bestRow, .ref a_p0_lanes, .ref a_p0_sizes, .ref a_p0_cells, .int (Int32.ofInt i_p0_torn)])), (a_p0_st, .inl (G 1, 152, .inl (zA v_p0_st))), (a_p0_brings, .inl (G 1, 35, .inl (zA v_p0_brings))), (a_p0_places, .inl (G 1, 7, .inl (zA o_v_p0_places))), (a_p0_bowls, .inl (G 1, 7, .inl (zA o_v_p0_bowls))), (a_p0_has, .inl (G 1, 7, .inl (zA o_v_p0_has)))] (va_A [(a_p0, .inr (12, [.ref a_p0_st, .ref a_p0_isKept, .int (Int32.ofInt i_p0_seats), .int (Int32.ofInt i_p0_stirs), .ref a_p0_brings, .ref a_p0_need, .ref a_p0_draft, .int (Int32.ofInt i_p0_dSeats), .int (Int32.ofInt i_p0_dStirs), .ref a_p0_dStir, .ref a_p0_dNeed, .int (Int32.ofInt i_p0_told), .int (Int32.ofInt i_p0_highest), .ref a_p0_tape, .int (Int32.ofInt i_p0_taped), .int (Int32.ofInt i_p0_pos), .int (Int32.ofInt i_p0_from), .int (Int32.ofInt i_p0_sort), .int (Int32.ofInt i_p0_value), .int (Int32.ofInt i_p0_fault), .int (Int32.ofInt i_p0_wrongAt), .ref a_p0_places, .ref a_p0_stirred, .ref a_p0_ways, .ref a_p0_waysThen, .ref a_p0_stays, .ref a_p0_fewest, .ref a_p0_bowls, .ref a_p0_has, .ref a_p0_goesOn, .ref a_p0_isThere, .ref a_p0_isThereThen, .ref a_p0_bestRow, .ref a_p0_lanes, .ref a_p0_sizes, .ref a_p0_cells, .int (Int32.ofInt i_p0_torn)])), (a_p0_st, .inl (G 1, 152, .inl (zA v_p0_st))), (a_p0_brings, .inl (G 1, 35, .inl (zA v_p0_brings))), (a_p0_places, .inl (G 1, 7, .inl (zA v_p0_places))), (a_p0_bowls, .inl (G 1, 7, .inl (zA v_p0_bowls))), (a_p0_has, .inl (G 1, 7, .inl (zA v_p0_has)))] sz)) 0 0 (va_A [(a_p0, .inr (12, [.ref a_p0_st, .ref a_p0_isKept, .int (Int32.ofInt i_p0_seats), .int (Int32.ofInt i_p0_stirs), .ref a_p0_brings, .ref a_p0_need, .ref a_p0_draft, .int (Int32.ofInt i_p0_dSeats), .int (Int32.ofInt i_p0_dStirs), .ref a_p0_dStir, .ref a_p0_dNeed, .int (Int32.ofInt i_p0_told), .int (Int32.ofInt i_p0_highest), .ref a_p0_tape, .int (Int32.ofInt i_p0_taped), .int (Int32.ofInt i_p0_pos), .int (Int32.ofInt i_p0_from), .int (Int32.ofInt i_p0_sort), .int (Int32.ofInt i_p0_value), .int (Int32.ofInt i_p0_fault), .int (Int32.ofInt i_p0_wrongAt), .ref a_p0_places, .ref a_p0_stirred, .ref a_p0_ways, .ref a_p0_waysThen, .ref a_p0_stays, .ref a_p0_fewest, .ref a_p0_bowls, .ref a_p0_has, .ref a_p0_goesOn, .ref a_p0_isThere, .ref a_p0_isThereThen, .ref a_p0_bestRow, .ref a_p0_lanes, .ref a_p0_sizes, .ref a_p0_cells, .int (Int32.ofInt i_p0_torn)])), (a_p0_st, .inl (G 1, 152, .inl (zA v_p0_st))), (a_p0_brings, .inl (G 1, 35, .inl (zA v_p0_brings))), (a_p0_places, .inl (G 1, 7, .inl (zA v_p0_places))), (a_p0_bowls, .inl (G 1, 7, .inl (zA v_p0_bowls))), (a_p0_has, .inl (G 1, 7, .inl (zA v_p0_has)))] sz) := by
  refine Met.ofW (cc := cX12_firm) (maxL := 4) (ret := (some .int)) (by decide) rfl ?_
  intro p e s m args below meth c s₁ B hml hv
  obtain ⟨rfl, hsz, hP, hK, hD0⟩ := hv
  have hx := B.exec
  have hb := B.bytes
  have hr := B.returns
  have hts := atoms_spec (ws := wsX12_firm) B.pre
  have hown : s.vm.findClass RX12 = some m.cls := findClass_of_methodNamed B.named
  have hlocks := B.notSynchronized
  subst hsz
  have hD := hD0.self (sz := s.heap.size)
  generalize hAe : va_A [(a_p0, .inr (12, [.ref a_p0_st, .ref a_p0_isKept, .int (Int32.ofInt i_p0_seats), .int (Int32.ofInt i_p0_stirs), .ref a_p0_brings, .ref a_p0_need, .ref a_p0_draft, .int (Int32.ofInt i_p0_dSeats), .int (Int32.ofInt i_p0_dStirs), .ref a_p0_dStir, .ref a_p0_dNeed, .int (Int32.ofInt i_p0_told), .int (Int32.ofInt i_p0_highest), .ref a_p0_tape, .int (Int32.ofInt i_p0_taped), .int (Int32.ofInt i_p0_pos), .int (Int32.ofInt i_p0_from), .int (Int32.ofInt i_p0_sort), .int (Int32.ofInt i_p0_value), .int (Int32.ofInt i_p0_fault), .int (Int32.ofInt i_p0_wrongAt), .ref a_p0_places, .ref a_p0_stirred, .ref a_p0_ways, .ref a_p0_waysThen, .ref a_p0_stays, .ref a_p0_fewest, .ref a_p0_bowls, .ref a_p0_has, .ref a_p0_goesOn, .ref a_p0_isThere, .ref a_p0_isThereThen, .ref a_p0_bestRow, .ref a_p0_lanes, .ref a_p0_sizes, .ref a_p0_cells, .int (Int32.ofInt i_p0_torn)])), (a_p0_st, .inl (G 1, 152, .inl (zA v_p0_st))), (a_p0_brings, .inl (G 1, 35, .inl (zA v_p0_brings))), (a_p0_places, .inl (G 1, 7, .inl (zA v_p0_places))), (a_p0_bowls, .inl (G 1, 7, .inl (zA v_p0_bowls))), (a_p0_has, .inl (G 1, 7, .inl (zA v_p0_has)))] s.heap.size = A at hD ⊢
  have hA : ∀ q : Nat, s.heap.size ≤ q → A q := fun q h => by rw [← hAe]; exact Or.inr h
  clear hAe hD0
  have hS : va_S A s.heap s.heap [] := va_S.rf
  have hl := lv_entry ([.ref a_p0, .int (Int32.ofInt x1)]) (n := 4) (Nat.le_of_ble_eq_true rfl)
  rw [lg_entry_eq]
  generalize (lg_sl ([.ref a_p0, .int (Int32.ofInt x1)]) ++ List.replicate (4 - (lg_sl ([.ref a_p0, .int (Int32.ofInt x1)])).length) Slot.unset).toArray = ls at hl ⊢
  have hl : lv_has ls 4 [(0, .ref a_p0), (1, .int (Int32.ofInt x1))] := hl
  refine W_nameQ (fun Q hQ => ?_)
  obtain ⟨H, hH⟩ : ∃ H, H = s.heap := ⟨_, rfl⟩
  replace hS : va_S A s.heap H [] := by rw [hH]; exact hS
  replace hP : va_P D vwCl [(a_p0, .inr (12, [.ref a_p0_st, .ref a_p0_isKept, .int (Int32.ofInt i_p0_seats), .int (Int32.ofInt i_p0_stirs), .ref a_p0_brings, .ref a_p0_need, .ref a_p0_draft, .int (Int32.ofInt i_p0_dSeats), .int (Int32.ofInt i_p0_dStirs), .ref a_p0_dStir, .ref a_p0_dNeed, .int (Int32.ofInt i_p0_told), .int (Int32.ofInt i_p0_highest), .ref a_p0_tape, .int (Int32.ofInt i_p0_taped), .int (Int32.ofInt i_p0_pos), .int (Int32.ofInt i_p0_from), .int (Int32.ofInt i_p0_sort), .int (Int32.ofInt i_p0_value), .int (Int32.ofInt i_p0_fault), .int (Int32.ofInt i_p0_wrongAt), .ref a_p0_places, .ref a_p0_stirred, .ref a_p0_ways, .ref a_p0_waysThen, .ref a_p0_stays, .ref a_p0_fewest, .ref a_p0_bowls, .ref a_p0_has, .ref a_p0_goesOn, .ref a_p0_isThere, .ref a_p0_isThereThen, .ref a_p0_bestRow, .ref a_p0_lanes, .ref a_p0_sizes, .ref a_p0_cells, .int (Int32.ofInt i_p0_torn)])), (a_p0_st, .inl (G 1, 152, .inl (zA v_p0_st))), (a_p0_brings, .inl (G 1, 35, .inl (zA v_p0_brings))), (a_p0_places, .inl (G 1, 7, .inl (zA v_p0_places))), (a_p0_bowls, .inl (G 1, 7, .inl (zA v_p0_bowls))), (a_p0_has, .inl (G 1, 7, .inl (zA v_p0_has)))] H := by rw [hH]; exact hP
  rw [← hH]
  clear hH
  unfold f_X12_firm at hf
  refine lv_aload_n hx hb dX12_firm_0 rfl (lv_at hl 0 rfl) ?_
  refine lv_iload_n hx hb dX12_firm_1 rfl (lv_at hl 1 rfl) ?_
  have hq := bd1_s hf
  clear hf
  obtain ⟨z1, hcall, hf⟩ := hq
  refine gnI (va_runV (As := [.int (Int32.ofInt x1)]) (rest := []) ⟨hx, hb, hml, hown, hts⟩ (c_X12_isStir (l := l) (D := D) (G := G) (sz := H.size) (a_p0 := a_p0) (a_p0_st := a_p0_st) (a_p0_isKept := a_p0_isKept) (a_p0_brings := a_p0_brings) (a_p0_need := a_p0_need) (a_p0_draft := a_p0_draft) (a_p0_dStir := a_p0_dStir) (a_p0_dNeed := a_p0_dNeed) (a_p0_tape := a_p0_tape) (a_p0_places := a_p0_places) (a_p0_stirred := a_p0_stirred) (a_p0_ways := a_p0_ways) (a_p0_waysThen := a_p0_waysThen) (a_p0_stays := a_p0_stays) (a_p0_fewest := a_p0_fewest) (a_p0_bowls := a_p0_bowls) (a_p0_has := a_p0_has) (a_p0_goesOn := a_p0_goesOn) (a_p0_isThere := a_p0_isThere) (a_p0_isThereThen := a_p0_isThereThen) (a_p0_bestRow := a_p0_bestRow) (a_p0_lanes := a_p0_lanes) (a_p0_sizes := a_p0_sizes) (a_p0_cells := a_p0_cells) (i_p0_seats := i_p0_seats) (i_p0_stirs := i_p0_stirs) (i_p0_dSeats := i_p0_dSeats) (i_p0_dStirs := i_p0_dStirs) (i_p0_told := i_p0_told) (i_p0_highest := i_p0_highest) (i_p0_taped := i_p0_taped) (i_p0_pos := i_p0_pos) (i_p0_from := i_p0_from) (i_p0_sort := i_p0_sort) (i_p0_value := i_p0_value) (i_p0_fault := i_p0_fault) (i_p0_wrongAt := i_p0_wrongAt) (i_p0_torn := i_p0_torn) (x1 := x1) (r := z1) (hf := hcall)) (cwV 1 hts gX12_firm_X12_isStir rfl rfl rfl hdV_yX12_isStir_RX12 ⟨Nat.le_of_ble_eq_true rfl, Nat.le_of_ble_eq_true rfl⟩) (preG_V (ci := 12) (q := (RX12, TX12, 37)) (hP.sub [0] rfl) (hD.sub [0] rfl rfl) hK rfl rfl) rfl rfl hl.1 rfl (lv_room (Nat.le_of_ble_eq_true rfl)) dX12_firm_2 ⟨Nat.le_of_ble_eq_true rfl, Nat.le_of_ble_eq_true rfl⟩) hP hD hS hA [0] rfl (fun H locs hP hD hS => ?_)
  clear hcall
  have hr1 := ck_c hf
  replace hf := ck_r hf
  refine lv_if_ne (tgt := 10) hx hb dX12_firm_5 (by decide) (fun cc => ?_) (fun cc => ?_)
  ·
    replace hf := ite_f (fun h9 => cc ((z_eq0 hr1).mpr h9)) hf
    clear cc
    refine lv_iconst (v := Int32.ofInt (0 : Int)) hx hb dX12_firm_10 (by decide) ?_
    refine z_topi (fun z3 ez => ?_)
    replace hf := bnd_s hf ez
    clear ez
    refine lv_istore_n (lv' := [(2, .int (Int32.ofInt z3)), (0, .ref a_p0), (1, .int (Int32.ofInt x1))]) hx hb dX12_firm_11 rfl hl (by decide) rfl (fun ls hl => ?_)
    refine lv_iconst (v := Int32.ofInt (0 : Int)) hx hb dX12_firm_12 (by decide) ?_
    refine z_topi (fun z4 ez => ?_)
    replace hf := bnd_s hf ez
    clear ez
    refine lv_istore_n (lv' := [(3, .int (Int32.ofInt z4)), (2, .int (Int32.ofInt z3)), (0, .ref a_p0), (1, .int (Int32.ofInt x1))]) hx hb dX12_firm_13 rfl hl (by decide) rfl (fun ls hl => ?_)
    have hq := lq5_i hf
    clear hf
    obtain ⟨B10, eB10, NB10, hf⟩ := hq
    have hB10 : ∀ (n : Nat) (z5 : Int) (z6 : Int) (w7 : (Int → Int)) (w8 : (Int → Int)) (w9 : (Int → Int)) (ls : Array Slot) (H : Heap) (locs : List Loc), lv_has ls 4 [(3, .int (Int32.ofInt z5)), (2, .int (Int32.ofInt z6)), (0, .ref a_p0), (1, .int (Int32.ofInt x1))] → va_P D vwCl [(a_p0, .inr (12, [.ref a_p0_st, .ref a_p0_isKept, .int (Int32.ofInt i_p0_seats), .int (Int32.ofInt i_p0_stirs), .ref a_p0_brings, .ref a_p0_need, .ref a_p0_draft, .int (Int32.ofInt i_p0_dSeats), .int (Int32.ofInt i_p0_dStirs), .ref a_p0_dStir, .ref a_p0_dNeed, .int (Int32.ofInt i_p0_told), .int (Int32.ofInt i_p0_highest), .ref a_p0_tape, .int (Int32.ofInt i_p0_taped), .int (Int32.ofInt i_p0_pos), .int (Int32.ofInt i_p0_from), .int (Int32.ofInt i_p0_sort), .int (Int32.ofInt i_p0_value), .int (Int32.ofInt i_p0_fault), .int (Int32.ofInt i_p0_wrongAt), .ref a_p0_places, .ref a_p0_stirred, .ref a_p0_ways, .ref a_p0_waysThen, .ref a_p0_stays, .ref a_p0_fewest, .ref a_p0_bowls, .ref a_p0_has, .ref a_p0_goesOn, .ref a_p0_isThere, .ref a_p0_isThereThen, .ref a_p0_bestRow, .ref a_p0_lanes, .ref a_p0_sizes, .ref a_p0_cells, .int (Int32.ofInt i_p0_torn)])), (a_p0_st, .inl (G 1, 152, .inl (zA v_p0_st))), (a_p0_brings, .inl (G 1, 35, .inl (zA v_p0_brings))), (a_p0_places, .inl (G 1, 7, .inl (zA w7))), (a_p0_bowls, .inl (G 1, 7, .inl (zA w8))), (a_p0_has, .inl (G 1, 7, .inl (zA w9)))] H → va_D A [(a_p0, .inr (12, [.ref a_p0_st, .ref a_p0_isKept, .int (Int32.ofInt i_p0_seats), .int (Int32.ofInt i_p0_stirs), .ref a_p0_brings, .ref a_p0_need, .ref a_p0_draft, .int (Int32.ofInt i_p0_dSeats), .int (Int32.ofInt i_p0_dStirs), .ref a_p0_dStir, .ref a_p0_dNeed, .int (Int32.ofInt i_p0_told), .int (Int32.ofInt i_p0_highest), .ref a_p0_tape, .int (Int32.ofInt i_p0_taped), .int (Int32.ofInt i_p0_pos), .int (Int32.ofInt i_p0_from), .int (Int32.ofInt i_p0_sort), .int (Int32.ofInt i_p0_value), .int (Int32.ofInt i_p0_fault), .int (Int32.ofInt i_p0_wrongAt), .ref a_p0_places, .ref a_p0_stirred, .ref a_p0_ways, .ref a_p0_waysThen, .ref a_p0_stays, .ref a_p0_fewest, .ref a_p0_bowls, .ref a_p0_has, .ref a_p0_goesOn, .ref a_p0_isThere, .ref a_p0_isThereThen, .ref a_p0_bestRow, .ref a_p0_lanes, .ref a_p0_sizes, .ref a_p0_cells, .int (Int32.ofInt i_p0_torn)])), (a_p0_st, .inl (G 1, 152, .inl (zA v_p0_st))), (a_p0_brings, .inl (G 1, 35, .inl (zA v_p0_brings))), (a_p0_places, .inl (G 1, 7, .inl (zA w7))), (a_p0_bowls, .inl (G 1, 7, .inl (zA w8))), (a_p0_has, .inl (G 1, 7, .inl (zA w9)))] → va_S A s.heap H locs → lq5 B10 n z5 z6 w7 w8 w9 = some (r, o_v_p0_places, o_v_p0_bowls, o_v_p0_has) → W p l e rm_X12_firm s m ([.ref a_p0, .int (Int32.ofInt x1)] : List Value).toArray below meth c H locs 0 0 Q (F0 m 14 ls []) := by
      clear hf hl hP hD hS
      intro n
      induction n with
      | zero =>
        intro z5 z6 w7 w8 w9 ls H locs hl hP hD hS hf
        exact (lq5_0 hf).elim
      | succ n ih14 =>
        intro z5 z6 w7 w8 w9 ls H locs hl hP hD hS hf
        replace hf := lq5_s eB10 hf
        unfold B_X12_firm_14 at hf
        refine lv_iload_n hx hb dX12_firm_14 rfl (lv_at hl 0 rfl) ?_
        refine lv_aload_n hx hb dX12_firm_15 rfl (lv_at hl 2 rfl) ?_
        refine va_get (D := D) (ci := 12) (v := .int (Int32.ofInt i_p0_seats)) (C := RX12) (T := TX12) (N := 37) hx hb hts inX12_firm_X12 hown hK hP 0 rfl rfl 2 (by decide) (hts _ mwX12_firm_1) (fun _ h9 => h9) rfl dX12_firm_16 ?_
        have hr10 := ck_c hf
        replace hf := ck_r hf
        have hr11 := ck_c hf
        replace hf := ck_r hf
        refine lv_icmp_ge (tgt := 52) hx hb dX12_firm_19 (by decide) (fun cc => ?_) (fun cc => ?_)
        ·
          replace hf := ite_t ((z_le hr11 hr10).mp cc) hf
          clear cc
          refine lv_iload_n hx hb dX12_firm_52 rfl (lv_at hl 1 rfl) ?_
          obtain ⟨rfl, rfl, rfl, rfl⟩ := ou4 hf
          rw [hQ]
          exact W.iret hx hb hr (fun t ht hW => ⟨⟨_, (), rfl, rfl, by rw [ht]; exact hP, va_K.moved hW.alike hK, hD⟩, hS.F ht⟩) hS.2.2 dX12_firm_53
        ·
          replace hf := ite_f (fun h9 => cc ((z_le hr11 hr10).mpr h9)) hf
          clear cc
          refine lv_iload_n hx hb dX12_firm_22 rfl (lv_at hl 1 rfl) ?_
          refine lv_aload_n hx hb dX12_firm_23 rfl (lv_at hl 2 rfl) ?_
          refine lv_iload_n hx hb dX12_firm_24 rfl (lv_at hl 0 rfl) ?_
          refine lv_iload_n hx hb dX12_firm_25 rfl (lv_at hl 3 rfl) ?_
          have hq := bd4_s hf
          clear hf
          obtain ⟨z13, w14, w15, w16, hcall, hf⟩ := hq
          refine gsI (ws' := [(a_p0, .inr (12, [.ref a_p0_st, .ref a_p0_isKept, .int (Int32.ofInt i_p0_seats), .int (Int32.ofInt i_p0_stirs), .ref a_p0_brings, .ref a_p0_need, .ref a_p0_draft, .int (Int32.ofInt i_p0_dSeats), .int (Int32.ofInt i_p0_dStirs), .ref a_p0_dStir, .ref a_p0_dNeed, .int (Int32.ofInt i_p0_told), .int (Int32.ofInt i_p0_highest), .ref a_p0_tape, .int (Int32.ofInt i_p0_taped), .int (Int32.ofInt i_p0_pos), .int (Int32.ofInt i_p0_from), .int (Int32.ofInt i_p0_sort), .int (Int32.ofInt i_p0_value), .int (Int32.ofInt i_p0_fault), .int (Int32.ofInt i_p0_wrongAt), .ref a_p0_places, .ref a_p0_stirred, .ref a_p0_ways, .ref a_p0_waysThen, .ref a_p0_stays, .ref a_p0_fewest, .ref a_p0_bowls, .ref a_p0_has, .ref a_p0_goesOn, .ref a_p0_isThere, .ref a_p0_isThereThen, .ref a_p0_bestRow, .ref a_p0_lanes, .ref a_p0_sizes, .ref a_p0_cells, .int (Int32.ofInt i_p0_torn)])), (a_p0_st, .inl (G 1, 152, .inl (zA v_p0_st))), (a_p0_brings, .inl (G 1, 35, .inl (zA v_p0_brings))), (a_p0_places, .inl (G 1, 7, .inl (zA w14))), (a_p0_bowls, .inl (G 1, 7, .inl (zA w15))), (a_p0_has, .inl (G 1, 7, .inl (zA w16)))]) (va_runV (As := [.int (Int32.ofInt z5), .int (Int32.ofInt x1)]) (rest := [.int (Int32.ofInt z6)]) ⟨hx, hb, hml, hown, hts⟩ (c_X12_leaderBy (l := l) (D := D) (G := G) (sz := H.size) (a_p0 := a_p0) (a_p0_st := a_p0_st) (a_p0_isKept := a_p0_isKept) (a_p0_brings := a_p0_brings) (a_p0_need := a_p0_need) (a_p0_draft := a_p0_draft) (a_p0_dStir := a_p0_dStir) (a_p0_dNeed := a_p0_dNeed) (a_p0_tape := a_p0_tape) (a_p0_places := a_p0_places) (a_p0_stirred := a_p0_stirred) (a_p0_ways := a_p0_ways) (a_p0_waysThen := a_p0_waysThen) (a_p0_stays := a_p0_stays) (a_p0_fewest := a_p0_fewest) (a_p0_bowls := a_p0_bowls) (a_p0_has := a_p0_has) (a_p0_goesOn := a_p0_goesOn) (a_p0_isThere := a_p0_isThere) (a_p0_isThereThen := a_p0_isThereThen) (a_p0_bestRow := a_p0_bestRow) (a_p0_lanes := a_p0_lanes) (a_p0_sizes := a_p0_sizes) (a_p0_cells := a_p0_cells) (i_p0_seats := i_p0_seats) (i_p0_stirs := i_p0_stirs) (i_p0_dSeats := i_p0_dSeats) (i_p0_dStirs := i_p0_dStirs) (i_p0_told := i_p0_told) (i_p0_highest := i_p0_highest) (i_p0_taped := i_p0_taped) (i_p0_pos := i_p0_pos) (i_p0_from := i_p0_from) (i_p0_sort := i_p0_sort) (i_p0_value := i_p0_value) (i_p0_fault := i_p0_fault) (i_p0_wrongAt := i_p0_wrongAt) (i_p0_torn := i_p0_torn) (v_p0_st := v_p0_st) (v_p0_brings := v_p0_brings) (v_p0_places := w7) (v_p0_bowls := w8) (v_p0_has := w9) (x1 := z5) (x2 := x1) (r := z13) (o_v_p0_places := w14) (o_v_p0_bowls := w15) (o_v_p0_has := w16) (hf := hcall)) (cwV 2 hts gX12_firm_X12_leaderBy rfl rfl rfl hdV_yX12_leaderBy_RX12 ⟨Nat.le_of_ble_eq_true rfl, Nat.le_of_ble_eq_true rfl⟩) (preG_V (ci := 12) (q := (RX12, TX12, 37)) (hP.sub [0, 1, 2, 3, 4, 5] rfl) (hD.sub [0, 1, 2, 3, 4, 5] rfl rfl) hK rfl rfl) rfl rfl hl.1 rfl (lv_room (Nat.le_of_ble_eq_true rfl)) dX12_firm_26 ⟨Nat.le_of_ble_eq_true rfl, Nat.le_of_ble_eq_true rfl⟩) hP hD hS hA [0, 1, 2, 3, 4, 5] rfl rfl rfl (fun H locs hP hD hS => ?_)
          clear hcall
          refine lv_bipush (v := Int32.ofInt (-4 : Int)) hx hb dX12_firm_29 (by decide) ?_
          have hr16 := ck_c hf
          replace hf := ck_r hf
          have hq := jn_i hf
          clear hf
          obtain ⟨J20, eJ20, hf⟩ := hq
          have hJ20 : ∀ (z18 : Int) (z19 : Int) (ls : Array Slot) (H : Heap) (locs : List Loc), lv_has ls 4 [(3, .int (Int32.ofInt z5)), (0, .ref a_p0), (1, .int (Int32.ofInt x1))] → va_P D vwCl [(a_p0, .inr (12, [.ref a_p0_st, .ref a_p0_isKept, .int (Int32.ofInt i_p0_seats), .int (Int32.ofInt i_p0_stirs), .ref a_p0_brings, .ref a_p0_need, .ref a_p0_draft, .int (Int32.ofInt i_p0_dSeats), .int (Int32.ofInt i_p0_dStirs), .ref a_p0_dStir, .ref a_p0_dNeed, .int (Int32.ofInt i_p0_told), .int (Int32.ofInt i_p0_highest), .ref a_p0_tape, .int (Int32.ofInt i_p0_taped), .int (Int32.ofInt i_p0_pos), .int (Int32.ofInt i_p0_from), .int (Int32.ofInt i_p0_sort), .int (Int32.ofInt i_p0_value), .int (Int32.ofInt i_p0_fault), .int (Int32.ofInt i_p0_wrongAt), .ref a_p0_places, .ref a_p0_stirred, .ref a_p0_ways, .ref a_p0_waysThen, .ref a_p0_stays, .ref a_p0_fewest, .ref a_p0_bowls, .ref a_p0_has, .ref a_p0_goesOn, .ref a_p0_isThere, .ref a_p0_isThereThen, .ref a_p0_bestRow, .ref a_p0_lanes, .ref a_p0_sizes, .ref a_p0_cells, .int (Int32.ofInt i_p0_torn)])), (a_p0_st, .inl (G 1, 152, .inl (zA v_p0_st))), (a_p0_brings, .inl (G 1, 35, .inl (zA v_p0_brings))), (a_p0_places, .inl (G 1, 7, .inl (zA w14))), (a_p0_bowls, .inl (G 1, 7, .inl (zA w15))), (a_p0_has, .inl (G 1, 7, .inl (zA w16)))] H → va_D A [(a_p0, .inr (12, [.ref a_p0_st, .ref a_p0_isKept, .int (Int32.ofInt i_p0_seats), .int (Int32.ofInt i_p0_stirs), .ref a_p0_brings, .ref a_p0_need, .ref a_p0_draft, .int (Int32.ofInt i_p0_dSeats), .int (Int32.ofInt i_p0_dStirs), .ref a_p0_dStir, .ref a_p0_dNeed, .int (Int32.ofInt i_p0_told), .int (Int32.ofInt i_p0_highest), .ref a_p0_tape, .int (Int32.ofInt i_p0_taped), .int (Int32.ofInt i_p0_pos), .int (Int32.ofInt i_p0_from), .int (Int32.ofInt i_p0_sort), .int (Int32.ofInt i_p0_value), .int (Int32.ofInt i_p0_fault), .int (Int32.ofInt i_p0_wrongAt), .ref a_p0_places, .ref a_p0_stirred, .ref a_p0_ways, .ref a_p0_waysThen, .ref a_p0_stays, .ref a_p0_fewest, .ref a_p0_bowls, .ref a_p0_has, .ref a_p0_goesOn, .ref a_p0_isThere, .ref a_p0_isThereThen, .ref a_p0_bestRow, .ref a_p0_lanes, .ref a_p0_sizes, .ref a_p0_cells, .int (Int32.ofInt i_p0_torn)])), (a_p0_st, .inl (G 1, 152, .inl (zA v_p0_st))), (a_p0_brings, .inl (G 1, 35, .inl (zA v_p0_brings))), (a_p0_places, .inl (G 1, 7, .inl (zA w14))), (a_p0_bowls, .inl (G 1, 7, .inl (zA w15))), (a_p0_has, .inl (G 1, 7, .inl (zA w16)))] → va_S A s.heap H locs → J20 z18 z19 = some (r, o_v_p0_places, o_v_p0_bowls, o_v_p0_has) → W p l e rm_X12_firm s m ([.ref a_p0, .int (Int32.ofInt x1)] : List Value).toArray below meth c H locs 0 0 Q (F0 m 39 ls [.int (Int32.ofInt z19), .int (Int32.ofInt z18)]) := by
            clear hf hl hP hD hS
            intro z18 z19 ls H locs hl hP hD hS hf
            replace hf := jn2_s eJ20 hf
            have hq := bd1_s hf
            clear hf
            obtain ⟨z21, hcall, hf⟩ := hq
            refine gnI (va_runS (As := [.int (Int32.ofInt z19)]) (rest := [.int (Int32.ofInt z18)]) ⟨hx, hb, hml, hown, hts⟩ (c_X12_flag (l := l) (D := D) (G := G) (sz := H.size) (x0 := z19) (r := z21) (hf := hcall)) (va_cwS 1 hts gX12_firm_X12_flag rfl rfl rfl (by decide +kernel) ⟨Nat.le_of_ble_eq_true rfl, Nat.le_of_ble_eq_true rfl⟩) (preG_S (hP.sub [] rfl) (hD.sub [] rfl rfl) hK) rfl rfl hl.1 rfl (lv_room (Nat.le_of_ble_eq_true rfl)) dX12_firm_39 ⟨Nat.le_of_ble_eq_true rfl, Nat.le_of_ble_eq_true rfl⟩) hP hD hS hA [] rfl (fun H locs hP hD hS => ?_)
            clear hcall
            refine lv_iload_n hx hb dX12_firm_42 rfl (lv_at hl 0 rfl) ?_
            refine lv_ishl hx hb dX12_firm_43 (z_ci (z_shl_e z21 z5) ?_)
            refine lv_ior hx hb dX12_firm_44 (z_ci (z_or_e z18 (z_shl z21 z5)) ?_)
            refine z_topi (fun z22 ez => ?_)
            replace hf := bnd_s hf ez
            clear ez
            refine lv_istore_n (lv' := [(2, .int (Int32.ofInt z22)), (3, .int (Int32.ofInt z5)), (0, .ref a_p0), (1, .int (Int32.ofInt x1))]) hx hb dX12_firm_45 rfl hl (by decide) rfl (fun ls hl => ?_)
            obtain ⟨z23, ez⟩ : ∃ y : Int, y = (z5 + (1 : Int)) := ⟨_, rfl⟩
            replace hf := bnd_s hf ez
            refine lv_iinc (v := Int32.ofInt z23) (lv' := [(3, .int (Int32.ofInt z23)), (2, .int (Int32.ofInt z22)), (0, .ref a_p0), (1, .int (Int32.ofInt x1))]) hx hb dX12_firm_46 hl (k := 1) rfl (by rw [ez]; exact (Int32.ofInt_add _ _).symm) (by decide) rfl (fun ls hl => ?_)
            clear ez
            refine lv_goto (tgt := 14) hx hb dX12_firm_49 (by decide) ?_
            exact ih14 _ _ _ _ _ _ _ _ (lv_sub hl [0, 1, 2, 3] rfl) hP hD hS hf
          refine lv_icmp_ne (tgt := 38) hx hb dX12_firm_31 (by decide) (fun cc => ?_) (fun cc => ?_)
          ·
            replace hf := ite_f (fun h9 => cc ((z_eq hr16 (by decide)).mpr h9)) hf
            clear cc
            refine lv_iconst (v := Int32.ofInt (0 : Int)) hx hb dX12_firm_38 (by decide) ?_
            exact hJ20 _ _ _ _ _ (lv_sub hl [0, 2, 3] rfl) hP hD hS hf
          ·
            replace hf := ite_t ((z_eq hr16 (by decide)).mp cc) hf
            clear cc
            refine lv_iconst (v := Int32.ofInt (1 : Int)) hx hb dX12_firm_34 (by decide) ?_
            refine lv_goto (tgt := 39) hx hb dX12_firm_35 (by decide) ?_
            exact hJ20 _ _ _ _ _ (lv_sub hl [0, 2, 3] rfl) hP hD hS hf
    exact hB10 _ _ _ _ _ _ _ _ _ (lv_sub hl [0, 1, 2, 3] rfl) hP hD hS hf
  ·
    replace hf := ite_t ((z_eq0 hr1).mp cc) hf
    clear cc
    refine lv_iconst (v := Int32.ofInt (-1 : Int)) hx hb dX12_firm_8 (by decide) ?_
    obtain ⟨rfl, rfl, rfl, rfl⟩ := ou4 hf
    rw [hQ]
    exact W.iret hx hb hr (fun t ht hW => ⟨⟨_, (), rfl, rfl, by rw [ht]; exact hP, va_K.moved hW.alike hK, hD⟩, hS.F ht⟩) hS.2.2 dX12_firm_9

noncomputable def f_X12_see (i_p0_seats : Int) (v_p0_st : (Int → Int)) (x1 : Int) : Option (Int × (Int → Int)) := (bd1 (f_X12_isSeat i_p0_seats x1) (fun (z1 : Int) => (ck (z_r32 z1) (if z1 = (0 : Int) then (some ((-1 : Int), v_p0_st)) else (ck (z_ix (31 : Int) 152) (ck (z_r32 (v_p0_st (31 : Int))) (if (v_p0_st (31 : Int)) = (6 : Int) then (some ((-3 : Int), v_p0_st)) else (ck (z_ix (31 : Int) 152) (ck (z_ix ((32 : Int) + (v_p0_st (31 : Int))) 152) (bnd (z_up v_p0_st ((32 : Int) + (v_p0_st (31 : Int))) x1) (fun (w4 : (Int → Int)) => (ck (z_ix (31 : Int) 152) (ck (z_ix (31 : Int) 152) (bnd (z_up w4 (31 : Int) ((w4 (31 : Int)) + (1 : Int))) (fun (w5 : (Int → Int)) => (ck (z_ix (31 : Int) 152) (some ((w5 (31 : Int)), w5))))))))))))))))))
abbrev rm_X12_see : Room := { frames := 2, cells := 0, slots := 0, locals := 46 }
theorem inX12_see_X12 : ∀ w ∈ wsX120, w ∈ wsX12_see := by first | exact fun w h => List.mem_cons_of_mem _ (List.mem_append_right _ h) | decide +kernel
theorem mwX12_see_1 : Cond.fieldLink RX12 7 "LadleKingsModel" "st" "[I" ∈ wsX12_see := by first | exact List.mem_of_getElem? (i := 1) rfl | decide +kernel
set_option maxHeartbeats 8000000 in
set_option maxRecDepth 100000 in
theorem c_X12_see (l : Launch) (D : va_G) (G : Nat → ClassId) (sz : Nat) (a_p0 : Nat) (a_p0_st : Nat) (a_p0_isKept : Nat) (a_p0_brings : Nat) (a_p0_need : Nat) (a_p0_draft : Nat) (a_p0_dStir : Nat) (a_p0_dNeed : Nat) (a_p0_tape : Nat) (a_p0_places : Nat) (a_p0_stirred : Nat) (a_p0_ways : Nat) (a_p0_waysThen : Nat) (a_p0_stays : Nat) (a_p0_fewest : Nat) (a_p0_bowls : Nat) (a_p0_has : Nat) (a_p0_goesOn : Nat) (a_p0_isThere : Nat) (a_p0_isThereThen : Nat) (a_p0_bestRow : Nat) (a_p0_lanes : Nat) (a_p0_sizes : Nat) (a_p0_cells : Nat) (i_p0_seats : Int) (i_p0_stirs : Int) (i_p0_dSeats : Int) (i_p0_dStirs : Int) (i_p0_told : Int) (i_p0_highest : Int) (i_p0_taped : Int) (i_p0_pos : Int) (i_p0_from : Int) (i_p0_sort : Int) (i_p0_value : Int) (i_p0_fault : Int) (i_p0_wrongAt : Int) (i_p0_torn : Int) (v_p0_st : (Int → Int)) (x1 : Int) (r : Int) (o_v_p0_st : (Int → Int)) (hf : f_X12_see i_p0_seats v_p0_st x1 = some (r, o_v_p0_st)) : Met l yX12_see wsX12_see rm_X12_see (pcG D G [.ref a_p0, .int (Int32.ofInt x1)] sz [(a_p0, .inr (12, [.ref a_p0_st, .ref a_p0_isKept, .int (Int32.ofInt i_p0_seats), .int (Int32.ofInt i_p0_stirs), .ref a_p0_brings, .ref a_p0_need, .ref a_p0_draft, .int (Int32.ofInt i_p0_dSeats), .int (Int32.ofInt i_p0_dStirs), .ref a_p0_dStir, .ref a_p0_dNeed, .int (Int32.ofInt i_p0_told), .int (Int32.ofInt i_p0_highest), .ref a_p0_tape, .int (Int32.ofInt i_p0_taped), .int (Int32.ofInt i_p0_pos), .int (Int32.ofInt i_p0_from), .int (Int32.ofInt i_p0_sort), .int (Int32.ofInt i_p0_value), .int (Int32.ofInt i_p0_fault), .int (Int32.ofInt i_p0_wrongAt), .ref a_p0_places, .ref a_p0_stirred, .ref a_p0_ways, .ref a_p0_waysThen, .ref a_p0_stays, .ref a_p0_fewest, .ref a_p0_bowls, .ref a_p0_has, .ref a_p0_goesOn, .ref a_p0_isThere, .ref a_p0_isThereThen, .ref a_p0_bestRow, .ref a_p0_lanes, .ref a_p0_sizes, .ref a_p0_cells, .int (Int32.ofInt i_p0_torn)])), (a_p0_st, .inl (G 1, 152, .inl (zA v_p0_st)))]) (qcI D G (Int32.ofInt r) [(a_p0, .inr (12, [.ref a_p0_st, .ref a_p0_isKept, .int (Int32.ofInt i_p0_seats), .int (Int32.ofInt i_p0_stirs), .ref a_p0_brings, .ref a_p0_need, .ref a_p0_draft, .int (Int32.ofInt i_p0_dSeats), .int (Int32.ofInt i_p0_dStirs), .ref a_p0_dStir, .ref a_p0_dNeed, .int (Int32.ofInt i_p0_told), .int (Int32.ofInt i_p0_highest), .ref a_p0_tape, .int (Int32.ofInt i_p0_taped), .int (Int32.ofInt i_p0_pos), .int (Int32.ofInt i_p0_from), .int (Int32.ofInt i_p0_sort), .int (Int32.ofInt i_p0_value), .int (Int32.ofInt i_p0_fault), .int (Int32.ofInt i_p0_wrongAt), .ref a_p0_places, .ref a_p0_stirred, .ref a_p0_ways, .ref a_p0_waysThen, .ref a_p0_stays, .ref a_p0_fewest, .ref a_p0_bowls, .ref a_p0_has, .ref a_p0_goesOn, .ref a_p0_isThere, .ref a_p0_isThereThen, .ref a_p0_bestRow, .ref a_p0_lanes, .ref a_p0_sizes, .ref a_p0_cells, .int (Int32.ofInt i_p0_torn)])), (a_p0_st, .inl (G 1, 152, .inl (zA o_v_p0_st)))] (va_A [(a_p0, .inr (12, [.ref a_p0_st, .ref a_p0_isKept, .int (Int32.ofInt i_p0_seats), .int (Int32.ofInt i_p0_stirs), .ref a_p0_brings, .ref a_p0_need, .ref a_p0_draft, .int (Int32.ofInt i_p0_dSeats), .int (Int32.ofInt i_p0_dStirs), .ref a_p0_dStir, .ref a_p0_dNeed, .int (Int32.ofInt i_p0_told), .int (Int32.ofInt i_p0_highest), .ref a_p0_tape, .int (Int32.ofInt i_p0_taped), .int (Int32.ofInt i_p0_pos), .int (Int32.ofInt i_p0_from), .int (Int32.ofInt i_p0_sort), .int (Int32.ofInt i_p0_value), .int (Int32.ofInt i_p0_fault), .int (Int32.ofInt i_p0_wrongAt), .ref a_p0_places, .ref a_p0_stirred, .ref a_p0_ways, .ref a_p0_waysThen, .ref a_p0_stays, .ref a_p0_fewest, .ref a_p0_bowls, .ref a_p0_has, .ref a_p0_goesOn, .ref a_p0_isThere, .ref a_p0_isThereThen, .ref a_p0_bestRow, .ref a_p0_lanes, .ref a_p0_sizes, .ref a_p0_cells, .int (Int32.ofInt i_p0_torn)])), (a_p0_st, .inl (G 1, 152, .inl (zA v_p0_st)))] sz)) 0 0 (va_A [(a_p0, .inr (12, [.ref a_p0_st, .ref a_p0_isKept, .int (Int32.ofInt i_p0_seats), .int (Int32.ofInt i_p0_stirs), .ref a_p0_brings, .ref a_p0_need, .ref a_p0_draft, .int (Int32.ofInt i_p0_dSeats), .int (Int32.ofInt i_p0_dStirs), .ref a_p0_dStir, .ref a_p0_dNeed, .int (Int32.ofInt i_p0_told), .int (Int32.ofInt i_p0_highest), .ref a_p0_tape, .int (Int32.ofInt i_p0_taped), .int (Int32.ofInt i_p0_pos), .int (Int32.ofInt i_p0_from), .int (Int32.ofInt i_p0_sort), .int (Int32.ofInt i_p0_value), .int (Int32.ofInt i_p0_fault), .int (Int32.ofInt i_p0_wrongAt), .ref a_p0_places, .ref a_p0_stirred, .ref a_p0_ways, .ref a_p0_waysThen, .ref a_p0_stays, .ref a_p0_fewest, .ref a_p0_bowls, .ref a_p0_has, .ref a_p0_goesOn, .ref a_p0_isThere, .ref a_p0_isThereThen, .ref a_p0_bestRow, .ref a_p0_lanes, .ref a_p0_sizes, .ref a_p0_cells, .int (Int32.ofInt i_p0_torn)])), (a_p0_st, .inl (G 1, 152, .inl (zA v_p0_st)))] sz) := by
  refine Met.ofW (cc := cX12_see) (maxL := 2) (ret := (some .int)) (by decide) rfl ?_
  intro p e s m args below meth c s₁ B hml hv
  obtain ⟨rfl, hsz, hP, hK, hD0⟩ := hv
  have hx := B.exec
  have hb := B.bytes
  have hr := B.returns
  have hts := atoms_spec (ws := wsX12_see) B.pre
  have hown : s.vm.findClass RX12 = some m.cls := findClass_of_methodNamed B.named
  have hlocks := B.notSynchronized
  subst hsz
  have hD := hD0.self (sz := s.heap.size)
  generalize hAe : va_A [(a_p0, .inr (12, [.ref a_p0_st, .ref a_p0_isKept, .int (Int32.ofInt i_p0_seats), .int (Int32.ofInt i_p0_stirs), .ref a_p0_brings, .ref a_p0_need, .ref a_p0_draft, .int (Int32.ofInt i_p0_dSeats), .int (Int32.ofInt i_p0_dStirs), .ref a_p0_dStir, .ref a_p0_dNeed, .int (Int32.ofInt i_p0_told), .int (Int32.ofInt i_p0_highest), .ref a_p0_tape, .int (Int32.ofInt i_p0_taped), .int (Int32.ofInt i_p0_pos), .int (Int32.ofInt i_p0_from), .int (Int32.ofInt i_p0_sort), .int (Int32.ofInt i_p0_value), .int (Int32.ofInt i_p0_fault), .int (Int32.ofInt i_p0_wrongAt), .ref a_p0_places, .ref a_p0_stirred, .ref a_p0_ways, .ref a_p0_waysThen, .ref a_p0_stays, .ref a_p0_fewest, .ref a_p0_bowls, .ref a_p0_has, .ref a_p0_goesOn, .ref a_p0_isThere, .ref a_p0_isThereThen, .ref a_p0_bestRow, .ref a_p0_lanes, .ref a_p0_sizes, .ref a_p0_cells, .int (Int32.ofInt i_p0_torn)])), (a_p0_st, .inl (G 1, 152, .inl (zA v_p0_st)))] s.heap.size = A at hD ⊢
  have hA : ∀ q : Nat, s.heap.size ≤ q → A q := fun q h => by rw [← hAe]; exact Or.inr h
  clear hAe hD0
  have hS : va_S A s.heap s.heap [] := va_S.rf
  have hl := lv_entry ([.ref a_p0, .int (Int32.ofInt x1)]) (n := 2) (Nat.le_of_ble_eq_true rfl)
  rw [lg_entry_eq]
  generalize (lg_sl ([.ref a_p0, .int (Int32.ofInt x1)]) ++ List.replicate (2 - (lg_sl ([.ref a_p0, .int (Int32.ofInt x1)])).length) Slot.unset).toArray = ls at hl ⊢
  have hl : lv_has ls 2 [(0, .ref a_p0), (1, .int (Int32.ofInt x1))] := hl
  refine W_nameQ (fun Q hQ => ?_)
  obtain ⟨H, hH⟩ : ∃ H, H = s.heap := ⟨_, rfl⟩
  replace hS : va_S A s.heap H [] := by rw [hH]; exact hS
  replace hP : va_P D vwCl [(a_p0, .inr (12, [.ref a_p0_st, .ref a_p0_isKept, .int (Int32.ofInt i_p0_seats), .int (Int32.ofInt i_p0_stirs), .ref a_p0_brings, .ref a_p0_need, .ref a_p0_draft, .int (Int32.ofInt i_p0_dSeats), .int (Int32.ofInt i_p0_dStirs), .ref a_p0_dStir, .ref a_p0_dNeed, .int (Int32.ofInt i_p0_told), .int (Int32.ofInt i_p0_highest), .ref a_p0_tape, .int (Int32.ofInt i_p0_taped), .int (Int32.ofInt i_p0_pos), .int (Int32.ofInt i_p0_from), .int (Int32.ofInt i_p0_sort), .int (Int32.ofInt i_p0_value), .int (Int32.ofInt i_p0_fault), .int (Int32.ofInt i_p0_wrongAt), .ref a_p0_places, .ref a_p0_stirred, .ref a_p0_ways, .ref a_p0_waysThen, .ref a_p0_stays, .ref a_p0_fewest, .ref a_p0_bowls, .ref a_p0_has, .ref a_p0_goesOn, .ref a_p0_isThere, .ref a_p0_isThereThen, .ref a_p0_bestRow, .ref a_p0_lanes, .ref a_p0_sizes, .ref a_p0_cells, .int (Int32.ofInt i_p0_torn)])), (a_p0_st, .inl (G 1, 152, .inl (zA v_p0_st)))] H := by rw [hH]; exact hP
  rw [← hH]
  clear hH
  unfold f_X12_see at hf
  refine lv_aload_n hx hb dX12_see_0 rfl (lv_at hl 0 rfl) ?_
  refine lv_iload_n hx hb dX12_see_1 rfl (lv_at hl 1 rfl) ?_
  have hq := bd1_s hf
  clear hf
  obtain ⟨z1, hcall, hf⟩ := hq
  refine gnI (va_runV (As := [.int (Int32.ofInt x1)]) (rest := []) ⟨hx, hb, hml, hown, hts⟩ (c_X12_isSeat (l := l) (D := D) (G := G) (sz := H.size) (a_p0 := a_p0) (a_p0_st := a_p0_st) (a_p0_isKept := a_p0_isKept) (a_p0_brings := a_p0_brings) (a_p0_need := a_p0_need) (a_p0_draft := a_p0_draft) (a_p0_dStir := a_p0_dStir) (a_p0_dNeed := a_p0_dNeed) (a_p0_tape := a_p0_tape) (a_p0_places := a_p0_places) (a_p0_stirred := a_p0_stirred) (a_p0_ways := a_p0_ways) (a_p0_waysThen := a_p0_waysThen) (a_p0_stays := a_p0_stays) (a_p0_fewest := a_p0_fewest) (a_p0_bowls := a_p0_bowls) (a_p0_has := a_p0_has) (a_p0_goesOn := a_p0_goesOn) (a_p0_isThere := a_p0_isThere) (a_p0_isThereThen := a_p0_isThereThen) (a_p0_bestRow := a_p0_bestRow) (a_p0_lanes := a_p0_lanes) (a_p0_sizes := a_p0_sizes) (a_p0_cells := a_p0_cells) (i_p0_seats := i_p0_seats) (i_p0_stirs := i_p0_stirs) (i_p0_dSeats := i_p0_dSeats) (i_p0_dStirs := i_p0_dStirs) (i_p0_told := i_p0_told) (i_p0_highest := i_p0_highest) (i_p0_taped := i_p0_taped) (i_p0_pos := i_p0_pos) (i_p0_from := i_p0_from) (i_p0_sort := i_p0_sort) (i_p0_value := i_p0_value) (i_p0_fault := i_p0_fault) (i_p0_wrongAt := i_p0_wrongAt) (i_p0_torn := i_p0_torn) (x1 := x1) (r := z1) (hf := hcall)) (cwV 1 hts gX12_see_X12_isSeat rfl rfl rfl hdV_yX12_isSeat_RX12 ⟨Nat.le_of_ble_eq_true rfl, Nat.le_of_ble_eq_true rfl⟩) (preG_V (ci := 12) (q := (RX12, TX12, 37)) (hP.sub [0] rfl) (hD.sub [0] rfl rfl) hK rfl rfl) rfl rfl hl.1 rfl (lv_room (Nat.le_of_ble_eq_true rfl)) dX12_see_2 ⟨Nat.le_of_ble_eq_true rfl, Nat.le_of_ble_eq_true rfl⟩) hP hD hS hA [0] rfl (fun H locs hP hD hS => ?_)
  clear hcall
  have hr1 := ck_c hf
  replace hf := ck_r hf
  refine lv_if_ne (tgt := 10) hx hb dX12_see_5 (by decide) (fun cc => ?_) (fun cc => ?_)
  ·
    replace hf := ite_f (fun h9 => cc ((z_eq0 hr1).mpr h9)) hf
    clear cc
    refine lv_aload_n hx hb dX12_see_10 rfl (lv_at hl 0 rfl) ?_
    refine va_get (D := D) (ci := 12) (v := .ref a_p0_st) (C := RX12) (T := TX12) (N := 37) hx hb hts inX12_see_X12 hown hK hP 0 rfl rfl 0 (by decide) (hts _ mwX12_see_1) (fun _ h9 => h9) rfl dX12_see_11 ?_
    refine lv_bipush (v := Int32.ofInt (31 : Int)) hx hb dX12_see_14 (by decide) ?_
    have hc := ck_c hf
    replace hf := ck_r hf
    refine va_iald hx hb hK hP 1 1 rfl rfl (z_ix_in hc) dX12_see_16 (z_ci (z_ald v_p0_st hc) ?_)
    clear hc
    refine lv_bipush (v := Int32.ofInt (6 : Int)) hx hb dX12_see_17 (by decide) ?_
    have hr2 := ck_c hf
    replace hf := ck_r hf
    refine lv_icmp_ne (tgt := 25) hx hb dX12_see_19 (by decide) (fun cc => ?_) (fun cc => ?_)
    ·
      replace hf := ite_f (fun h9 => cc ((z_eq hr2 (by decide)).mpr h9)) hf
      clear cc
      refine lv_aload_n hx hb dX12_see_25 rfl (lv_at hl 0 rfl) ?_
      refine va_get (D := D) (ci := 12) (v := .ref a_p0_st) (C := RX12) (T := TX12) (N := 37) hx hb hts inX12_see_X12 hown hK hP 0 rfl rfl 0 (by decide) (hts _ mwX12_see_1) (fun _ h9 => h9) rfl dX12_see_26 ?_
      refine lv_bipush (v := Int32.ofInt (32 : Int)) hx hb dX12_see_29 (by decide) ?_
      refine lv_aload_n hx hb dX12_see_31 rfl (lv_at hl 0 rfl) ?_
      refine va_get (D := D) (ci := 12) (v := .ref a_p0_st) (C := RX12) (T := TX12) (N := 37) hx hb hts inX12_see_X12 hown hK hP 0 rfl rfl 0 (by decide) (hts _ mwX12_see_1) (fun _ h9 => h9) rfl dX12_see_32 ?_
      refine lv_bipush (v := Int32.ofInt (31 : Int)) hx hb dX12_see_35 (by decide) ?_
      have hc := ck_c hf
      replace hf := ck_r hf
      refine va_iald hx hb hK hP 1 1 rfl rfl (z_ix_in hc) dX12_see_37 (z_ci (z_ald v_p0_st hc) ?_)
      clear hc
      refine lv_iadd hx hb dX12_see_38 (z_ci (Int32.ofInt_add (32 : Int) (v_p0_st (31 : Int))) ?_)
      refine lv_iload_n hx hb dX12_see_39 rfl (lv_at hl 1 rfl) ?_
      have hc := ck_c hf
      replace hf := ck_r hf
      refine zs_iast (wf := fun w4 => [(a_p0, .inr (12, [.ref a_p0_st, .ref a_p0_isKept, .int (Int32.ofInt i_p0_seats), .int (Int32.ofInt i_p0_stirs), .ref a_p0_brings, .ref a_p0_need, .ref a_p0_draft, .int (Int32.ofInt i_p0_dSeats), .int (Int32.ofInt i_p0_dStirs), .ref a_p0_dStir, .ref a_p0_dNeed, .int (Int32.ofInt i_p0_told), .int (Int32.ofInt i_p0_highest), .ref a_p0_tape, .int (Int32.ofInt i_p0_taped), .int (Int32.ofInt i_p0_pos), .int (Int32.ofInt i_p0_from), .int (Int32.ofInt i_p0_sort), .int (Int32.ofInt i_p0_value), .int (Int32.ofInt i_p0_fault), .int (Int32.ofInt i_p0_wrongAt), .ref a_p0_places, .ref a_p0_stirred, .ref a_p0_ways, .ref a_p0_waysThen, .ref a_p0_stays, .ref a_p0_fewest, .ref a_p0_bowls, .ref a_p0_has, .ref a_p0_goesOn, .ref a_p0_isThere, .ref a_p0_isThereThen, .ref a_p0_bestRow, .ref a_p0_lanes, .ref a_p0_sizes, .ref a_p0_cells, .int (Int32.ofInt i_p0_torn)])), (a_p0_st, .inl (G 1, 152, .inl (zA w4)))]) hx hb hK hP hD hS 1 1 rfl rfl hc dX12_see_40 (fun _ => rfl) (fun w4 ez H locs hP hD hS => ?_)
      replace hf := bnd_s hf ez
      clear ez hc
      refine lv_aload_n hx hb dX12_see_41 rfl (lv_at hl 0 rfl) ?_
      refine va_get (D := D) (ci := 12) (v := .ref a_p0_st) (C := RX12) (T := TX12) (N := 37) hx hb hts inX12_see_X12 hown hK hP 0 rfl rfl 0 (by decide) (hts _ mwX12_see_1) (fun _ h9 => h9) rfl dX12_see_42 ?_
      refine lv_bipush (v := Int32.ofInt (31 : Int)) hx hb dX12_see_45 (by decide) ?_
      refine lv_dup2_11 hx hb dX12_see_47 rfl rfl ?_
      have hc := ck_c hf
      replace hf := ck_r hf
      refine va_iald hx hb hK hP 1 1 rfl rfl (z_ix_in hc) dX12_see_48 (z_ci (z_ald w4 hc) ?_)
      clear hc
      refine lv_iconst (v := Int32.ofInt (1 : Int)) hx hb dX12_see_49 (by decide) ?_
      refine lv_iadd hx hb dX12_see_50 (z_ci (Int32.ofInt_add (w4 (31 : Int)) (1 : Int)) ?_)
      have hc := ck_c hf
      replace hf := ck_r hf
      refine zs_iast (wf := fun w5 => [(a_p0, .inr (12, [.ref a_p0_st, .ref a_p0_isKept, .int (Int32.ofInt i_p0_seats), .int (Int32.ofInt i_p0_stirs), .ref a_p0_brings, .ref a_p0_need, .ref a_p0_draft, .int (Int32.ofInt i_p0_dSeats), .int (Int32.ofInt i_p0_dStirs), .ref a_p0_dStir, .ref a_p0_dNeed, .int (Int32.ofInt i_p0_told), .int (Int32.ofInt i_p0_highest), .ref a_p0_tape, .int (Int32.ofInt i_p0_taped), .int (Int32.ofInt i_p0_pos), .int (Int32.ofInt i_p0_from), .int (Int32.ofInt i_p0_sort), .int (Int32.ofInt i_p0_value), .int (Int32.ofInt i_p0_fault), .int (Int32.ofInt i_p0_wrongAt), .ref a_p0_places, .ref a_p0_stirred, .ref a_p0_ways, .ref a_p0_waysThen, .ref a_p0_stays, .ref a_p0_fewest, .ref a_p0_bowls, .ref a_p0_has, .ref a_p0_goesOn, .ref a_p0_isThere, .ref a_p0_isThereThen, .ref a_p0_bestRow, .ref a_p0_lanes, .ref a_p0_sizes, .ref a_p0_cells, .int (Int32.ofInt i_p0_torn)])), (a_p0_st, .inl (G 1, 152, .inl (zA w5)))]) hx hb hK hP hD hS 1 1 rfl rfl hc dX12_see_51 (fun _ => rfl) (fun w5 ez H locs hP hD hS => ?_)
      replace hf := bnd_s hf ez
      clear ez hc
      refine lv_aload_n hx hb dX12_see_52 rfl (lv_at hl 0 rfl) ?_
      refine va_get (D := D) (ci := 12) (v := .ref a_p0_st) (C := RX12) (T := TX12) (N := 37) hx hb hts inX12_see_X12 hown hK hP 0 rfl rfl 0 (by decide) (hts _ mwX12_see_1) (fun _ h9 => h9) rfl dX12_see_53 ?_
      refine lv_bipush (v := Int32.ofInt (31 : Int)) hx hb dX12_see_56 (by decide) ?_
      have hc := ck_c hf
      replace hf := ck_r hf
      refine va_iald hx hb hK hP 1 1 rfl rfl (z_ix_in hc) dX12_see_58 (z_ci (z_ald w5 hc) ?_)
      clear hc
      obtain ⟨rfl, rfl⟩ := ou2 hf
      rw [hQ]
      exact W.iret hx hb hr (fun t ht hW => ⟨⟨_, (), rfl, rfl, by rw [ht]; exact hP, va_K.moved hW.alike hK, hD⟩, hS.F ht⟩) hS.2.2 dX12_see_59
    ·
      replace hf := ite_t ((z_eq hr2 (by decide)).mp cc) hf
      clear cc
      refine lv_bipush (v := Int32.ofInt (-3 : Int)) hx hb dX12_see_22 (by decide) ?_
      obtain ⟨rfl, rfl⟩ := ou2 hf
      rw [hQ]
      exact W.iret hx hb hr (fun t ht hW => ⟨⟨_, (), rfl, rfl, by rw [ht]; exact hP, va_K.moved hW.alike hK, hD⟩, hS.F ht⟩) hS.2.2 dX12_see_24
  ·
    replace hf := ite_t ((z_eq0 hr1).mp cc) hf
    clear cc
    refine lv_iconst (v := Int32.ofInt (-1 : Int)) hx hb dX12_see_8 (by decide) ?_
    obtain ⟨rfl, rfl⟩ := ou2 hf
    rw [hQ]
    exact W.iret hx hb hr (fun t ht hW => ⟨⟨_, (), rfl, rfl, by rw [ht]; exact hP, va_K.moved hW.alike hK, hD⟩, hS.F ht⟩) hS.2.2 dX12_see_9

noncomputable def f_X12_forget (v_p0_st : (Int → Int)) (x1 : Int) : Option (Int × (Int → Int)) := (ck (z_r32 x1) (ck (z_ix (31 : Int) 152) (ck (z_r32 (v_p0_st (31 : Int))) (bd1 (f_X12_in x1 (0 : Int) (v_p0_st (31 : Int))) (fun (z3 : Int) => (ck (z_r32 z3) (if z3 = (0 : Int) then (some ((-1 : Int), v_p0_st)) else (ck (z_ix (31 : Int) 152) (bnd (v_p0_st (31 : Int)) (fun (z5 : Int) => (ck (z_ix (31 : Int) 152) (bnd (z_up v_p0_st (31 : Int) x1) (fun (w6 : (Int → Int)) => (some (z5, w6)))))))))))))))
abbrev rm_X12_forget : Room := { frames := 1, cells := 0, slots := 0, locals := 25 }
theorem inX12_forget_X12 : ∀ w ∈ wsX120, w ∈ wsX12_forget := by first | exact fun w h => List.mem_cons_of_mem _ (List.mem_append_right _ h) | decide +kernel
theorem mwX12_forget_1 : Cond.fieldLink RX12 7 "LadleKingsModel" "st" "[I" ∈ wsX12_forget := by first | exact List.mem_of_getElem? (i := 1) rfl | decide +kernel
set_option maxHeartbeats 8000000 in
set_option maxRecDepth 100000 in
theorem c_X12_forget (l : Launch) (D : va_G) (G : Nat → ClassId) (sz : Nat) (a_p0 : Nat) (a_p0_st : Nat) (a_p0_isKept : Nat) (a_p0_brings : Nat) (a_p0_need : Nat) (a_p0_draft : Nat) (a_p0_dStir : Nat) (a_p0_dNeed : Nat) (a_p0_tape : Nat) (a_p0_places : Nat) (a_p0_stirred : Nat) (a_p0_ways : Nat) (a_p0_waysThen : Nat) (a_p0_stays : Nat) (a_p0_fewest : Nat) (a_p0_bowls : Nat) (a_p0_has : Nat) (a_p0_goesOn : Nat) (a_p0_isThere : Nat) (a_p0_isThereThen : Nat) (a_p0_bestRow : Nat) (a_p0_lanes : Nat) (a_p0_sizes : Nat) (a_p0_cells : Nat) (i_p0_seats : Int) (i_p0_stirs : Int) (i_p0_dSeats : Int) (i_p0_dStirs : Int) (i_p0_told : Int) (i_p0_highest : Int) (i_p0_taped : Int) (i_p0_pos : Int) (i_p0_from : Int) (i_p0_sort : Int) (i_p0_value : Int) (i_p0_fault : Int) (i_p0_wrongAt : Int) (i_p0_torn : Int) (v_p0_st : (Int → Int)) (x1 : Int) (r : Int) (o_v_p0_st : (Int → Int)) (hf : f_X12_forget v_p0_st x1 = some (r, o_v_p0_st)) : Met l yX12_forget wsX12_forget rm_X12_forget (pcG D G [.ref a_p0, .int (Int32.ofInt x1)] sz [(a_p0, .inr (12, [.ref a_p0_st, .ref a_p0_isKept, .int (Int32.ofInt i_p0_seats), .int (Int32.ofInt i_p0_stirs), .ref a_p0_brings, .ref a_p0_need, .ref a_p0_draft, .int (Int32.ofInt i_p0_dSeats), .int (Int32.ofInt i_p0_dStirs), .ref a_p0_dStir, .ref a_p0_dNeed, .int (Int32.ofInt i_p0_told), .int (Int32.ofInt i_p0_highest), .ref a_p0_tape, .int (Int32.ofInt i_p0_taped), .int (Int32.ofInt i_p0_pos), .int (Int32.ofInt i_p0_from), .int (Int32.ofInt i_p0_sort), .int (Int32.ofInt i_p0_value), .int (Int32.ofInt i_p0_fault), .int (Int32.ofInt i_p0_wrongAt), .ref a_p0_places, .ref a_p0_stirred, .ref a_p0_ways, .ref a_p0_waysThen, .ref a_p0_stays, .ref a_p0_fewest, .ref a_p0_bowls, .ref a_p0_has, .ref a_p0_goesOn, .ref a_p0_isThere, .ref a_p0_isThereThen, .ref a_p0_bestRow, .ref a_p0_lanes, .ref a_p0_sizes, .ref a_p0_cells, .int (Int32.ofInt i_p0_torn)])), (a_p0_st, .inl (G 1, 152, .inl (zA v_p0_st)))]) (qcI D G (Int32.ofInt r) [(a_p0, .inr (12, [.ref a_p0_st, .ref a_p0_isKept, .int (Int32.ofInt i_p0_seats), .int (Int32.ofInt i_p0_stirs), .ref a_p0_brings, .ref a_p0_need, .ref a_p0_draft, .int (Int32.ofInt i_p0_dSeats), .int (Int32.ofInt i_p0_dStirs), .ref a_p0_dStir, .ref a_p0_dNeed, .int (Int32.ofInt i_p0_told), .int (Int32.ofInt i_p0_highest), .ref a_p0_tape, .int (Int32.ofInt i_p0_taped), .int (Int32.ofInt i_p0_pos), .int (Int32.ofInt i_p0_from), .int (Int32.ofInt i_p0_sort), .int (Int32.ofInt i_p0_value), .int (Int32.ofInt i_p0_fault), .int (Int32.ofInt i_p0_wrongAt), .ref a_p0_places, .ref a_p0_stirred, .ref a_p0_ways, .ref a_p0_waysThen, .ref a_p0_stays, .ref a_p0_fewest, .ref a_p0_bowls, .ref a_p0_has, .ref a_p0_goesOn, .ref a_p0_isThere, .ref a_p0_isThereThen, .ref a_p0_bestRow, .ref a_p0_lanes, .ref a_p0_sizes, .ref a_p0_cells, .int (Int32.ofInt i_p0_torn)])), (a_p0_st, .inl (G 1, 152, .inl (zA o_v_p0_st)))] (va_A [(a_p0, .inr (12, [.ref a_p0_st, .ref a_p0_isKept, .int (Int32.ofInt i_p0_seats), .int (Int32.ofInt i_p0_stirs), .ref a_p0_brings, .ref a_p0_need, .ref a_p0_draft, .int (Int32.ofInt i_p0_dSeats), .int (Int32.ofInt i_p0_dStirs), .ref a_p0_dStir, .ref a_p0_dNeed, .int (Int32.ofInt i_p0_told), .int (Int32.ofInt i_p0_highest), .ref a_p0_tape, .int (Int32.ofInt i_p0_taped), .int (Int32.ofInt i_p0_pos), .int (Int32.ofInt i_p0_from), .int (Int32.ofInt i_p0_sort), .int (Int32.ofInt i_p0_value), .int (Int32.ofInt i_p0_fault), .int (Int32.ofInt i_p0_wrongAt), .ref a_p0_places, .ref a_p0_stirred, .ref a_p0_ways, .ref a_p0_waysThen, .ref a_p0_stays, .ref a_p0_fewest, .ref a_p0_bowls, .ref a_p0_has, .ref a_p0_goesOn, .ref a_p0_isThere, .ref a_p0_isThereThen, .ref a_p0_bestRow, .ref a_p0_lanes, .ref a_p0_sizes, .ref a_p0_cells, .int (Int32.ofInt i_p0_torn)])), (a_p0_st, .inl (G 1, 152, .inl (zA v_p0_st)))] sz)) 0 0 (va_A [(a_p0, .inr (12, [.ref a_p0_st, .ref a_p0_isKept, .int (Int32.ofInt i_p0_seats), .int (Int32.ofInt i_p0_stirs), .ref a_p0_brings, .ref a_p0_need, .ref a_p0_draft, .int (Int32.ofInt i_p0_dSeats), .int (Int32.ofInt i_p0_dStirs), .ref a_p0_dStir, .ref a_p0_dNeed, .int (Int32.ofInt i_p0_told), .int (Int32.ofInt i_p0_highest), .ref a_p0_tape, .int (Int32.ofInt i_p0_taped), .int (Int32.ofInt i_p0_pos), .int (Int32.ofInt i_p0_from), .int (Int32.ofInt i_p0_sort), .int (Int32.ofInt i_p0_value), .int (Int32.ofInt i_p0_fault), .int (Int32.ofInt i_p0_wrongAt), .ref a_p0_places, .ref a_p0_stirred, .ref a_p0_ways, .ref a_p0_waysThen, .ref a_p0_stays, .ref a_p0_fewest, .ref a_p0_bowls, .ref a_p0_has, .ref a_p0_goesOn, .ref a_p0_isThere, .ref a_p0_isThereThen, .ref a_p0_bestRow, .ref a_p0_lanes, .ref a_p0_sizes, .ref a_p0_cells, .int (Int32.ofInt i_p0_torn)])), (a_p0_st, .inl (G 1, 152, .inl (zA v_p0_st)))] sz) := by
  refine Met.ofW (cc := cX12_forget) (maxL := 3) (ret := (some .int)) (by decide) rfl ?_
  intro p e s m args below meth c s₁ B hml hv
  obtain ⟨rfl, hsz, hP, hK, hD0⟩ := hv
  have hx := B.exec
  have hb := B.bytes
  have hr := B.returns
  have hts := atoms_spec (ws := wsX12_forget) B.pre
  have hown : s.vm.findClass RX12 = some m.cls := findClass_of_methodNamed B.named
  have hlocks := B.notSynchronized
  subst hsz
  have hD := hD0.self (sz := s.heap.size)
  generalize hAe : va_A [(a_p0, .inr (12, [.ref a_p0_st, .ref a_p0_isKept, .int (Int32.ofInt i_p0_seats), .int (Int32.ofInt i_p0_stirs), .ref a_p0_brings, .ref a_p0_need, .ref a_p0_draft, .int (Int32.ofInt i_p0_dSeats), .int (Int32.ofInt i_p0_dStirs), .ref a_p0_dStir, .ref a_p0_dNeed, .int (Int32.ofInt i_p0_told), .int (Int32.ofInt i_p0_highest), .ref a_p0_tape, .int (Int32.ofInt i_p0_taped), .int (Int32.ofInt i_p0_pos), .int (Int32.ofInt i_p0_from), .int (Int32.ofInt i_p0_sort), .int (Int32.ofInt i_p0_value), .int (Int32.ofInt i_p0_fault), .int (Int32.ofInt i_p0_wrongAt), .ref a_p0_places, .ref a_p0_stirred, .ref a_p0_ways, .ref a_p0_waysThen, .ref a_p0_stays, .ref a_p0_fewest, .ref a_p0_bowls, .ref a_p0_has, .ref a_p0_goesOn, .ref a_p0_isThere, .ref a_p0_isThereThen, .ref a_p0_bestRow, .ref a_p0_lanes, .ref a_p0_sizes, .ref a_p0_cells, .int (Int32.ofInt i_p0_torn)])), (a_p0_st, .inl (G 1, 152, .inl (zA v_p0_st)))] s.heap.size = A at hD ⊢
  have hA : ∀ q : Nat, s.heap.size ≤ q → A q := fun q h => by rw [← hAe]; exact Or.inr h
  clear hAe hD0
  have hS : va_S A s.heap s.heap [] := va_S.rf
  have hl := lv_entry ([.ref a_p0, .int (Int32.ofInt x1)]) (n := 3) (Nat.le_of_ble_eq_true rfl)
  rw [lg_entry_eq]
  generalize (lg_sl ([.ref a_p0, .int (Int32.ofInt x1)]) ++ List.replicate (3 - (lg_sl ([.ref a_p0, .int (Int32.ofInt x1)])).length) Slot.unset).toArray = ls at hl ⊢
  have hl : lv_has ls 3 [(0, .ref a_p0), (1, .int (Int32.ofInt x1))] := hl
  refine W_nameQ (fun Q hQ => ?_)
  obtain ⟨H, hH⟩ : ∃ H, H = s.heap := ⟨_, rfl⟩
  replace hS : va_S A s.heap H [] := by rw [hH]; exact hS
  replace hP : va_P D vwCl [(a_p0, .inr (12, [.ref a_p0_st, .ref a_p0_isKept, .int (Int32.ofInt i_p0_seats), .int (Int32.ofInt i_p0_stirs), .ref a_p0_brings, .ref a_p0_need, .ref a_p0_draft, .int (Int32.ofInt i_p0_dSeats), .int (Int32.ofInt i_p0_dStirs), .ref a_p0_dStir, .ref a_p0_dNeed, .int (Int32.ofInt i_p0_told), .int (Int32.ofInt i_p0_highest), .ref a_p0_tape, .int (Int32.ofInt i_p0_taped), .int (Int32.ofInt i_p0_pos), .int (Int32.ofInt i_p0_from), .int (Int32.ofInt i_p0_sort), .int (Int32.ofInt i_p0_value), .int (Int32.ofInt i_p0_fault), .int (Int32.ofInt i_p0_wrongAt), .ref a_p0_places, .ref a_p0_stirred, .ref a_p0_ways, .ref a_p0_waysThen, .ref a_p0_stays, .ref a_p0_fewest, .ref a_p0_bowls, .ref a_p0_has, .ref a_p0_goesOn, .ref a_p0_isThere, .ref a_p0_isThereThen, .ref a_p0_bestRow, .ref a_p0_lanes, .ref a_p0_sizes, .ref a_p0_cells, .int (Int32.ofInt i_p0_torn)])), (a_p0_st, .inl (G 1, 152, .inl (zA v_p0_st)))] H := by rw [hH]; exact hP
  rw [← hH]
  clear hH
  unfold f_X12_forget at hf
  refine lv_iload_n hx hb dX12_forget_0 rfl (lv_at hl 1 rfl) ?_
  have hr0 := ck_c hf
  replace hf := ck_r hf
  refine lv_i2l (v := Int64.ofInt x1) hx hb dX12_forget_1 (z_i2l hr0) ?_
  refine lv_lconst (v := Int64.ofInt (0 : Int)) hx hb dX12_forget_2 (by decide) ?_
  refine lv_aload_n hx hb dX12_forget_3 rfl (lv_at hl 0 rfl) ?_
  refine va_get (D := D) (ci := 12) (v := .ref a_p0_st) (C := RX12) (T := TX12) (N := 37) hx hb hts inX12_forget_X12 hown hK hP 0 rfl rfl 0 (by decide) (hts _ mwX12_forget_1) (fun _ h9 => h9) rfl dX12_forget_4 ?_
  refine lv_bipush (v := Int32.ofInt (31 : Int)) hx hb dX12_forget_7 (by decide) ?_
  have hc := ck_c hf
  replace hf := ck_r hf
  refine va_iald hx hb hK hP 1 1 rfl rfl (z_ix_in hc) dX12_forget_9 (z_ci (z_ald v_p0_st hc) ?_)
  clear hc
  have hr1 := ck_c hf
  replace hf := ck_r hf
  refine lv_i2l (v := Int64.ofInt (v_p0_st (31 : Int))) hx hb dX12_forget_10 (z_i2l hr1) ?_
  have hq := bd1_s hf
  clear hf
  obtain ⟨z3, hcall, hf⟩ := hq
  refine gnI (va_runS (As := [.long (Int64.ofInt x1), .long (Int64.ofInt (0 : Int)), .long (Int64.ofInt (v_p0_st (31 : Int)))]) (rest := []) ⟨hx, hb, hml, hown, hts⟩ (c_X12_in (l := l) (D := D) (G := G) (sz := H.size) (x0 := x1) (x2 := (0 : Int)) (x4 := (v_p0_st (31 : Int))) (r := z3) (hf := hcall)) (va_cwS 3 hts gX12_forget_X12_in rfl rfl rfl (by decide +kernel) ⟨Nat.le_of_ble_eq_true rfl, Nat.le_of_ble_eq_true rfl⟩) (preG_S (hP.sub [] rfl) (hD.sub [] rfl rfl) hK) rfl rfl hl.1 rfl (lv_room (Nat.le_of_ble_eq_true rfl)) dX12_forget_11 ⟨Nat.le_of_ble_eq_true rfl, Nat.le_of_ble_eq_true rfl⟩) hP hD hS hA [] rfl (fun H locs hP hD hS => ?_)
  clear hcall
  have hr3 := ck_c hf
  replace hf := ck_r hf
  refine lv_if_ne (tgt := 19) hx hb dX12_forget_14 (by decide) (fun cc => ?_) (fun cc => ?_)
  ·
    replace hf := ite_f (fun h9 => cc ((z_eq0 hr3).mpr h9)) hf
    clear cc
    refine lv_aload_n hx hb dX12_forget_19 rfl (lv_at hl 0 rfl) ?_
    refine va_get (D := D) (ci := 12) (v := .ref a_p0_st) (C := RX12) (T := TX12) (N := 37) hx hb hts inX12_forget_X12 hown hK hP 0 rfl rfl 0 (by decide) (hts _ mwX12_forget_1) (fun _ h9 => h9) rfl dX12_forget_20 ?_
    refine lv_bipush (v := Int32.ofInt (31 : Int)) hx hb dX12_forget_23 (by decide) ?_
    have hc := ck_c hf
    replace hf := ck_r hf
    refine va_iald hx hb hK hP 1 1 rfl rfl (z_ix_in hc) dX12_forget_25 (z_ci (z_ald v_p0_st hc) ?_)
    clear hc
    refine z_topi (fun z5 ez => ?_)
    replace hf := bnd_s hf ez
    clear ez
    refine lv_istore_n (lv' := [(2, .int (Int32.ofInt z5)), (0, .ref a_p0), (1, .int (Int32.ofInt x1))]) hx hb dX12_forget_26 rfl hl (by decide) rfl (fun ls hl => ?_)
    refine lv_aload_n hx hb dX12_forget_27 rfl (lv_at hl 1 rfl) ?_
    refine va_get (D := D) (ci := 12) (v := .ref a_p0_st) (C := RX12) (T := TX12) (N := 37) hx hb hts inX12_forget_X12 hown hK hP 0 rfl rfl 0 (by decide) (hts _ mwX12_forget_1) (fun _ h9 => h9) rfl dX12_forget_28 ?_
    refine lv_bipush (v := Int32.ofInt (31 : Int)) hx hb dX12_forget_31 (by decide) ?_
    refine lv_iload_n hx hb dX12_forget_33 rfl (lv_at hl 2 rfl) ?_
    have hc := ck_c hf
    replace hf := ck_r hf
    refine zs_iast (wf := fun w6 => [(a_p0, .inr (12, [.ref a_p0_st, .ref a_p0_isKept, .int (Int32.ofInt i_p0_seats), .int (Int32.ofInt i_p0_stirs), .ref a_p0_brings, .ref a_p0_need, .ref a_p0_draft, .int (Int32.ofInt i_p0_dSeats), .int (Int32.ofInt i_p0_dStirs), .ref a_p0_dStir, .ref a_p0_dNeed, .int (Int32.ofInt i_p0_told), .int (Int32.ofInt i_p0_highest), .ref a_p0_tape, .int (Int32.ofInt i_p0_taped), .int (Int32.ofInt i_p0_pos), .int (Int32.ofInt i_p0_from), .int (Int32.ofInt i_p0_sort), .int (Int32.ofInt i_p0_value), .int (Int32.ofInt i_p0_fault), .int (Int32.ofInt i_p0_wrongAt), .ref a_p0_places, .ref a_p0_stirred, .ref a_p0_ways, .ref a_p0_waysThen, .ref a_p0_stays, .ref a_p0_fewest, .ref a_p0_bowls, .ref a_p0_has, .ref a_p0_goesOn, .ref a_p0_isThere, .ref a_p0_isThereThen, .ref a_p0_bestRow, .ref a_p0_lanes, .ref a_p0_sizes, .ref a_p0_cells, .int (Int32.ofInt i_p0_torn)])), (a_p0_st, .inl (G 1, 152, .inl (zA w6)))]) hx hb hK hP hD hS 1 1 rfl rfl hc dX12_forget_34 (fun _ => rfl) (fun w6 ez H locs hP hD hS => ?_)
    replace hf := bnd_s hf ez
    clear ez hc
    refine lv_iload_n hx hb dX12_forget_35 rfl (lv_at hl 0 rfl) ?_
    obtain ⟨rfl, rfl⟩ := ou2 hf
    rw [hQ]
    exact W.iret hx hb hr (fun t ht hW => ⟨⟨_, (), rfl, rfl, by rw [ht]; exact hP, va_K.moved hW.alike hK, hD⟩, hS.F ht⟩) hS.2.2 dX12_forget_36
  ·
    replace hf := ite_t ((z_eq0 hr3).mp cc) hf
    clear cc
    refine lv_iconst (v := Int32.ofInt (-1 : Int)) hx hb dX12_forget_17 (by decide) ?_
    obtain ⟨rfl, rfl⟩ := ou2 hf
    rw [hQ]
    exact W.iret hx hb hr (fun t ht hW => ⟨⟨_, (), rfl, rfl, by rw [ht]; exact hP, va_K.moved hW.alike hK, hD⟩, hS.F ht⟩) hS.2.2 dX12_forget_18

noncomputable def B_X12_findHistories_65 (i_p0_stirs : Int) (z12 : Int) (again44 : Int → (Int → Int) → (Int → Int) → Option ((Int → Int) × (Int → Int))) (i_p0_seats : Int) (v_p0_st : (Int → Int)) (v_p0_brings : (Int → Int)) (z6 : Int) (again65 : Int → (Int → Int) → (Int → Int) → Option ((Int → Int) × (Int → Int))) (z20 : Int) (w21 : (Int → Int)) (w22 : (Int → Int)) : Option ((Int → Int) × (Int → Int)) := (ck (z_r32 z20) (ck (z_r32 i_p0_stirs) (if i_p0_stirs ≤ z20 then (bnd (z12 + (1 : Int)) (fun (z26 : Int) => (again44 z26 w21 w22))) else (ck (z_dv z12 (7 : Int)) (ck (z_r32 (z12 % (7 : Int))) (ck (z_r32 i_p0_seats) (if i_p0_seats ≤ (z12 % (7 : Int)) then (bnd (z12 + (1 : Int)) (fun (z29 : Int) => (again44 z29 w21 w22))) else (ck (z_dv z12 (7 : Int)) (ck (z_r32 (z12 / (7 : Int))) (if i_p0_seats ≤ (z12 / (7 : Int)) then (bnd (z12 + (1 : Int)) (fun (z31 : Int) => (again44 z31 w21 w22))) else (bd2 (f_X12_then i_p0_seats v_p0_st v_p0_brings w21 z12 z20) (fun (z32 : Int) (w33 : (Int → Int)) => (bnd z32 (fun (z34 : Int) => (ck (z_ix (((49 : Int) * z6) + z12) 343) (ck (z_dv z34 (7 : Int)) (ck (z_ix ((32 : Int) + z6) 152) (ck (z_r32 (z34 % (7 : Int))) (ck (z_r32 (v_p0_st ((32 : Int) + z6))) (if (z34 % (7 : Int)) = (v_p0_st ((32 : Int) + z6)) then (ck (z_ix ((((49 : Int) * z6) + (49 : Int)) + z34) 343) (ck (z_ix (((49 : Int) * z6) + z12) 343) (bnd (z_up w22 (((49 : Int) * z6) + z12) ((w22 (((49 : Int) * z6) + z12)) + (w22 ((((49 : Int) * z6) + (49 : Int)) + z34)))) (fun (w39 : (Int → Int)) => (bnd (z20 + (1 : Int)) (fun (z40 : Int) => (again65 z40 w33 w39))))))) else (ck (z_ix (((49 : Int) * z6) + z12) 343) (bnd (z_up w22 (((49 : Int) * z6) + z12) ((w22 (((49 : Int) * z6) + z12)) + (0 : Int))) (fun (w37 : (Int → Int)) => (bnd (z20 + (1 : Int)) (fun (z38 : Int) => (again65 z38 w33 w37))))))))))))))))))))))))))
noncomputable def B_X12_findHistories_44 (z6 : Int) (again38 : Int → (Int → Int) → (Int → Int) → Option ((Int → Int) × (Int → Int))) (i_p0_stirs : Int) (i_p0_seats : Int) (v_p0_st : (Int → Int)) (v_p0_brings : (Int → Int)) (again44 : Int → (Int → Int) → (Int → Int) → Option ((Int → Int) × (Int → Int))) (z12 : Int) (w13 : (Int → Int)) (w14 : (Int → Int)) : Option ((Int → Int) × (Int → Int)) := (ck (z_r32 z12) (if (49 : Int) ≤ z12 then (bnd (z6 + (-1 : Int)) (fun (z17 : Int) => (again38 z17 w13 w14))) else (ck (z_ix (((49 : Int) * z6) + z12) 343) (bnd (z_up w14 (((49 : Int) * z6) + z12) (0 : Int)) (fun (w18 : (Int → Int)) => (bnd (0 : Int) (fun (z19 : Int) => (lq3 (B_X12_findHistories_65 i_p0_stirs z12 again44 i_p0_seats v_p0_st v_p0_brings z6) 1000 z19 w13 w18))))))))
noncomputable def B_X12_findHistories_38 (i_p0_stirs : Int) (i_p0_seats : Int) (v_p0_st : (Int → Int)) (v_p0_brings : (Int → Int)) (again38 : Int → (Int → Int) → (Int → Int) → Option ((Int → Int) × (Int → Int))) (z6 : Int) (w7 : (Int → Int)) (w8 : (Int → Int)) : Option ((Int → Int) × (Int → Int)) := (ck (z_r32 z6) (if z6 < (0 : Int) then (some (w7, w8)) else (bnd (0 : Int) (fun (z11 : Int) => (lq3 (B_X12_findHistories_44 z6 again38 i_p0_stirs i_p0_seats v_p0_st v_p0_brings) 1000 z11 w7 w8)))))
noncomputable def B_X12_findHistories_10 (J4 : (Int → Int) → Option ((Int → Int) × (Int → Int))) (z1 : Int) (again10 : Int → (Int → Int) → Option ((Int → Int) × (Int → Int))) (z41 : Int) (w42 : (Int → Int)) : Option ((Int → Int) × (Int → Int)) := (ck (z_r32 z41) (if (49 : Int) ≤ z41 then (J4 w42) else (ck (z_ix (((49 : Int) * z1) + z41) 343) (bnd (z_up w42 (((49 : Int) * z1) + z41) (1 : Int)) (fun (w45 : (Int → Int)) => (bnd (z41 + (1 : Int)) (fun (z46 : Int) => (again10 z46 w45))))))))
noncomputable def f_X12_findHistories (i_p0_seats : Int) (i_p0_stirs : Int) (v_p0_st : (Int → Int)) (v_p0_brings : (Int → Int)) (v_p0_places : (Int → Int)) (v_p0_goesOn : (Int → Int)) : Option ((Int → Int) × (Int → Int)) := (ck (z_ix (31 : Int) 152) (bnd (v_p0_st (31 : Int)) (fun (z1 : Int) => (bnd (0 : Int) (fun (z2 : Int) => (jn (fun (w3 : (Int → Int)) => (bnd (z1 - (1 : Int)) (fun (z5 : Int) => (lq3 (B_X12_findHistories_38 i_p0_stirs i_p0_seats v_p0_st v_p0_brings) 1000 z5 v_p0_places w3)))) (fun (J4 : (Int → Int) → Option ((Int → Int) × (Int → Int))) => (lq2 (B_X12_findHistories_10 J4 z1) 1000 z2 v_p0_goesOn))))))))
abbrev rm_X12_findHistories : Room := { frames := 4, cells := 0, slots := 0, locals := 92 }
theorem inX12_findHistories_X12 : ∀ w ∈ wsX120, w ∈ wsX12_findHistories := by first | exact fun w h => List.mem_cons_of_mem _ (List.mem_append_right _ h) | decide +kernel
theorem mwX12_findHistories_1 : Cond.fieldLink RX12 7 "LadleKingsModel" "st" "[I" ∈ wsX12_findHistories := by first | exact List.mem_of_getElem? (i := 1) rfl | decide +kernel
theorem mwX12_findHistories_2 : Cond.fieldLink RX12 60 "LadleKingsModel" "goesOn" "[I" ∈ wsX12_findHistories := by first | exact List.mem_of_getElem? (i := 2) rfl | decide +kernel
theorem mwX12_findHistories_3 : Cond.fieldLink RX12 103 "LadleKingsModel" "stirs" "I" ∈ wsX12_findHistories := by first | exact List.mem_of_getElem? (i := 3) rfl | decide +kernel
theorem mwX12_findHistories_4 : Cond.fieldLink RX12 100 "LadleKingsModel" "seats" "I" ∈ wsX12_findHistories := by first | exact List.mem_of_getElem? (i := 4) rfl | decide +kernel
set_option maxHeartbeats 8000000 in
set_option maxRecDepth 100000 in
theorem c_X12_findHistories (l : Launch) (D : va_G) (G : Nat → ClassId) (sz : Nat) (a_p0 : Nat) (a_p0_st : Nat) (a_p0_isKept : Nat) (a_p0_brings : Nat) (a_p0_need : Nat) (a_p0_draft : Nat) (a_p0_dStir : Nat) (a_p0_dNeed : Nat) (a_p0_tape : Nat) (a_p0_places : Nat) (a_p0_stirred : Nat) (a_p0_ways : Nat) (a_p0_waysThen : Nat) (a_p0_stays : Nat) (a_p0_fewest : Nat) (a_p0_bowls : Nat) (a_p0_has : Nat) (a_p0_goesOn : Nat) (a_p0_isThere : Nat) (a_p0_isThereThen : Nat) (a_p0_bestRow : Nat) (a_p0_lanes : Nat) (a_p0_sizes : Nat) (a_p0_cells : Nat) (i_p0_seats : Int) (i_p0_stirs : Int) (i_p0_dSeats : Int) (i_p0_dStirs : Int) (i_p0_told : Int) (i_p0_highest : Int) (i_p0_taped : Int) (i_p0_pos : Int) (i_p0_from : Int) (i_p0_sort : Int) (i_p0_value : Int) (i_p0_fault : Int) (i_p0_wrongAt : Int) (i_p0_torn : Int) (v_p0_st : (Int → Int)) (v_p0_brings : (Int → Int)) (v_p0_places : (Int → Int)) (v_p0_goesOn : (Int → Int)) (o_v_p0_places : (Int → Int)) (o_v_p0_goesOn : (Int → Int)) (hf : f_X12_findHistories i_p0_seats i_p0_stirs v_p0_st v_p0_brings v_p0_places v_p0_goesOn = some (o_v_p0_places, o_v_p0_goesOn)) : Met l yX12_findHistories wsX12_findHistories rm_X12_findHistories (pcG D G [.ref a_p0] sz [(a_p0, .inr (12, [.ref a_p0_st, .ref a_p0_isKept, .int (Int32.ofInt i_p0_seats), .int (Int32.ofInt i_p0_stirs), .ref a_p0_brings, .ref a_p0_need, .ref a_p0_draft, .int (Int32.ofInt i_p0_dSeats), .int (Int32.ofInt i_p0_dStirs), .ref a_p0_dStir, .ref a_p0_dNeed, .int (Int32.ofInt i_p0_told), .int (Int32.ofInt i_p0_highest), .ref a_p0_tape, .int (Int32.ofInt i_p0_taped), .int (Int32.ofInt i_p0_pos), .int (Int32.ofInt i_p0_from), .int (Int32.ofInt i_p0_sort), .int (Int32.ofInt i_p0_value), .int (Int32.ofInt i_p0_fault), .int (Int32.ofInt i_p0_wrongAt), .ref a_p0_places, .ref a_p0_stirred, .ref a_p0_ways, .ref a_p0_waysThen, .ref a_p0_stays, .ref a_p0_fewest, .ref a_p0_bowls, .ref a_p0_has, .ref a_p0_goesOn, .ref a_p0_isThere, .ref a_p0_isThereThen, .ref a_p0_bestRow, .ref a_p0_lanes, .ref a_p0_sizes, .ref a_p0_cells, .int (Int32.ofInt i_p0_torn)])), (a_p0_st, .inl (G 1, 152, .inl (zA v_p0_st))), (a_p0_brings, .inl (G 1, 35, .inl (zA v_p0_brings))), (a_p0_places, .inl (G 1, 7, .inl (zA v_p0_places))), (a_p0_goesOn, .inl (G 1, 343, .inl (zA v_p0_goesOn)))]) (qcV D G [(a_p0, .inr (12, [.ref a_p0_st, .ref a_p0_isKept, .int (Int32.ofInt i_p0_seats), .int (Int32.ofInt i_p0_stirs), .ref a_p0_brings, .ref a_p0_need, .ref a_p0_draft, .int (Int32.ofInt i_p0_dSeats), .int (Int32.ofInt i_p0_dStirs), .ref a_p0_dStir, .ref a_p0_dNeed, .int (Int32.ofInt i_p0_told), .int (Int32.ofInt i_p0_highest), .ref a_p0_tape, .int (Int32.ofInt i_p0_taped), .int (Int32.ofInt i_p0_pos), .int (Int32.ofInt i_p0_from), .int (Int32.ofInt i_p0_sort), .int (Int32.ofInt i_p0_value), .int (Int32.ofInt i_p0_fault), .int (Int32.ofInt i_p0_wrongAt), .ref a_p0_places, .ref a_p0_stirred, .ref a_p0_ways, .ref a_p0_waysThen, .ref a_p0_stays, .ref a_p0_fewest, .ref a_p0_bowls, .ref a_p0_has, .ref a_p0_goesOn, .ref a_p0_isThere, .ref a_p0_isThereThen, .ref a_p0_bestRow, .ref a_p0_lanes, .ref a_p0_sizes, .ref a_p0_cells, .int (Int32.ofInt i_p0_torn)])), (a_p0_st, .inl (G 1, 152, .inl (zA v_p0_st))), (a_p0_brings, .inl (G 1, 35, .inl (zA v_p0_brings))), (a_p0_places, .inl (G 1, 7, .inl (zA o_v_p0_places))), (a_p0_goesOn, .inl (G 1, 343, .inl (zA o_v_p0_goesOn)))] (va_A [(a_p0, .inr (12, [.ref a_p0_st, .ref a_p0_isKept, .int (Int32.ofInt i_p0_seats), .int (Int32.ofInt i_p0_stirs), .ref a_p0_brings, .ref a_p0_need, .ref a_p0_draft, .int (Int32.ofInt i_p0_dSeats), .int (Int32.ofInt i_p0_dStirs), .ref a_p0_dStir, .ref a_p0_dNeed, .int (Int32.ofInt i_p0_told), .int (Int32.ofInt i_p0_highest), .ref a_p0_tape, .int (Int32.ofInt i_p0_taped), .int (Int32.ofInt i_p0_pos), .int (Int32.ofInt i_p0_from), .int (Int32.ofInt i_p0_sort), .int (Int32.ofInt i_p0_value), .int (Int32.ofInt i_p0_fault), .int (Int32.ofInt i_p0_wrongAt), .ref a_p0_places, .ref a_p0_stirred, .ref a_p0_ways, .ref a_p0_waysThen, .ref a_p0_stays, .ref a_p0_fewest, .ref a_p0_bowls, .ref a_p0_has, .ref a_p0_goesOn, .ref a_p0_isThere, .ref a_p0_isThereThen, .ref a_p0_bestRow, .ref a_p0_lanes, .ref a_p0_sizes, .ref a_p0_cells, .int (Int32.ofInt i_p0_torn)])), (a_p0_st, .inl (G 1, 152, .inl (zA v_p0_st))), (a_p0_brings, .inl (G 1, 35, .inl (zA v_p0_brings))), (a_p0_places, .inl (G 1, 7, .inl (zA v_p0_places))), (a_p0_goesOn, .inl (G 1, 343, .inl (zA v_p0_goesOn)))] sz)) 0 0 (va_A [(a_p0, .inr (12, [.ref a_p0_st, .ref a_p0_isKept, .int (Int32.ofInt i_p0_seats), .int (Int32.ofInt i_p0_stirs), .ref a_p0_brings, .ref a_p0_need, .ref a_p0_draft, .int (Int32.ofInt i_p0_dSeats), .int (Int32.ofInt i_p0_dStirs), .ref a_p0_dStir, .ref a_p0_dNeed, .int (Int32.ofInt i_p0_told), .int (Int32.ofInt i_p0_highest), .ref a_p0_tape, .int (Int32.ofInt i_p0_taped), .int (Int32.ofInt i_p0_pos), .int (Int32.ofInt i_p0_from), .int (Int32.ofInt i_p0_sort), .int (Int32.ofInt i_p0_value), .int (Int32.ofInt i_p0_fault), .int (Int32.ofInt i_p0_wrongAt), .ref a_p0_places, .ref a_p0_stirred, .ref a_p0_ways, .ref a_p0_waysThen, .ref a_p0_stays, .ref a_p0_fewest, .ref a_p0_bowls, .ref a_p0_has, .ref a_p0_goesOn, .ref a_p0_isThere, .ref a_p0_isThereThen, .ref a_p0_bestRow, .ref a_p0_lanes, .ref a_p0_sizes, .ref a_p0_cells, .int (Int32.ofInt i_p0_torn)])), (a_p0_st, .inl (G 1, 152, .inl (zA v_p0_st))), (a_p0_brings, .inl (G 1, 35, .inl (zA v_p0_brings))), (a_p0_places, .inl (G 1, 7, .inl (zA v_p0_places))), (a_p0_goesOn, .inl (G 1, 343, .inl (zA v_p0_goesOn)))] sz) := by
  refine Met.ofW (cc := cX12_findHistories) (maxL := 6) (ret := none) (by decide) rfl ?_
  intro p e s m args below meth c s₁ B hml hv
  obtain ⟨rfl, hsz, hP, hK, hD0⟩ := hv
  have hx := B.exec
  have hb := B.bytes
  have hr := B.returns
  have hts := atoms_spec (ws := wsX12_findHistories) B.pre
  have hown : s.vm.findClass RX12 = some m.cls := findClass_of_methodNamed B.named
  have hlocks := B.notSynchronized
  subst hsz
  have hD := hD0.self (sz := s.heap.size)
  generalize hAe : va_A [(a_p0, .inr (12, [.ref a_p0_st, .ref a_p0_isKept, .int (Int32.ofInt i_p0_seats), .int (Int32.ofInt i_p0_stirs), .ref a_p0_brings, .ref a_p0_need, .ref a_p0_draft, .int (Int32.ofInt i_p0_dSeats), .int (Int32.ofInt i_p0_dStirs), .ref a_p0_dStir, .ref a_p0_dNeed, .int (Int32.ofInt i_p0_told), .int (Int32.ofInt i_p0_highest), .ref a_p0_tape, .int (Int32.ofInt i_p0_taped), .int (Int32.ofInt i_p0_pos), .int (Int32.ofInt i_p0_from), .int (Int32.ofInt i_p0_sort), .int (Int32.ofInt i_p0_value), .int (Int32.ofInt i_p0_fault), .int (Int32.ofInt i_p0_wrongAt), .ref a_p0_places, .ref a_p0_stirred, .ref a_p0_ways, .ref a_p0_waysThen, .ref a_p0_stays, .ref a_p0_fewest, .ref a_p0_bowls, .ref a_p0_has, .ref a_p0_goesOn, .ref a_p0_isThere, .ref a_p0_isThereThen, .ref a_p0_bestRow, .ref a_p0_lanes, .ref a_p0_sizes, .ref a_p0_cells, .int (Int32.ofInt i_p0_torn)])), (a_p0_st, .inl (G 1, 152, .inl (zA v_p0_st))), (a_p0_brings, .inl (G 1, 35, .inl (zA v_p0_brings))), (a_p0_places, .inl (G 1, 7, .inl (zA v_p0_places))), (a_p0_goesOn, .inl (G 1, 343, .inl (zA v_p0_goesOn)))] s.heap.size = A at hD ⊢
  have hA : ∀ q : Nat, s.heap.size ≤ q → A q := fun q h => by rw [← hAe]; exact Or.inr h
  clear hAe hD0
  have hS : va_S A s.heap s.heap [] := va_S.rf
  have hl := lv_entry ([.ref a_p0]) (n := 6) (Nat.le_of_ble_eq_true rfl)
  rw [lg_entry_eq]
  generalize (lg_sl ([.ref a_p0]) ++ List.replicate (6 - (lg_sl ([.ref a_p0])).length) Slot.unset).toArray = ls at hl ⊢
  have hl : lv_has ls 6 [(0, .ref a_p0)] := hl
  refine W_nameQ (fun Q hQ => ?_)
  obtain ⟨H, hH⟩ : ∃ H, H = s.heap := ⟨_, rfl⟩
  replace hS : va_S A s.heap H [] := by rw [hH]; exact hS
  replace hP : va_P D vwCl [(a_p0, .inr (12, [.ref a_p0_st, .ref a_p0_isKept, .int (Int32.ofInt i_p0_seats), .int (Int32.ofInt i_p0_stirs), .ref a_p0_brings, .ref a_p0_need, .ref a_p0_draft, .int (Int32.ofInt i_p0_dSeats), .int (Int32.ofInt i_p0_dStirs), .ref a_p0_dStir, .ref a_p0_dNeed, .int (Int32.ofInt i_p0_told), .int (Int32.ofInt i_p0_highest), .ref a_p0_tape, .int (Int32.ofInt i_p0_taped), .int (Int32.ofInt i_p0_pos), .int (Int32.ofInt i_p0_from), .int (Int32.ofInt i_p0_sort), .int (Int32.ofInt i_p0_value), .int (Int32.ofInt i_p0_fault), .int (Int32.ofInt i_p0_wrongAt), .ref a_p0_places, .ref a_p0_stirred, .ref a_p0_ways, .ref a_p0_waysThen, .ref a_p0_stays, .ref a_p0_fewest, .ref a_p0_bowls, .ref a_p0_has, .ref a_p0_goesOn, .ref a_p0_isThere, .ref a_p0_isThereThen, .ref a_p0_bestRow, .ref a_p0_lanes, .ref a_p0_sizes, .ref a_p0_cells, .int (Int32.ofInt i_p0_torn)])), (a_p0_st, .inl (G 1, 152, .inl (zA v_p0_st))), (a_p0_brings, .inl (G 1, 35, .inl (zA v_p0_brings))), (a_p0_places, .inl (G 1, 7, .inl (zA v_p0_places))), (a_p0_goesOn, .inl (G 1, 343, .inl (zA v_p0_goesOn)))] H := by rw [hH]; exact hP
  rw [← hH]
  clear hH
  unfold f_X12_findHistories at hf
  refine lv_aload_n hx hb dX12_findHistories_0 rfl (lv_at hl 0 rfl) ?_
  refine va_get (D := D) (ci := 12) (v := .ref a_p0_st) (C := RX12) (T := TX12) (N := 37) hx hb hts inX12_findHistories_X12 hown hK hP 0 rfl rfl 0 (by decide) (hts _ mwX12_findHistories_1) (fun _ h9 => h9) rfl dX12_findHistories_1 ?_
  refine lv_bipush (v := Int32.ofInt (31 : Int)) hx hb dX12_findHistories_4 (by decide) ?_
  have hc := ck_c hf
  replace hf := ck_r hf
  refine va_iald hx hb hK hP 1 1 rfl rfl (z_ix_in hc) dX12_findHistories_6 (z_ci (z_ald v_p0_st hc) ?_)
  clear hc
  refine z_topi (fun z1 ez => ?_)
  replace hf := bnd_s hf ez
  clear ez
  refine lv_istore_n (lv' := [(1, .int (Int32.ofInt z1)), (0, .ref a_p0)]) hx hb dX12_findHistories_7 rfl hl (by decide) rfl (fun ls hl => ?_)
  refine lv_iconst (v := Int32.ofInt (0 : Int)) hx hb dX12_findHistories_8 (by decide) ?_
  refine z_topi (fun z2 ez => ?_)
  replace hf := bnd_s hf ez
  clear ez
  refine lv_istore_n (lv' := [(2, .int (Int32.ofInt z2)), (1, .int (Int32.ofInt z1)), (0, .ref a_p0)]) hx hb dX12_findHistories_9 rfl hl (by decide) rfl (fun ls hl => ?_)
  have hq := jn_i hf
  clear hf
  obtain ⟨J4, eJ4, hf⟩ := hq
  have hJ4 : ∀ (w3 : (Int → Int)) (ls : Array Slot) (H : Heap) (locs : List Loc), lv_has ls 6 [(1, .int (Int32.ofInt z1)), (0, .ref a_p0)] → va_P D vwCl [(a_p0, .inr (12, [.ref a_p0_st, .ref a_p0_isKept, .int (Int32.ofInt i_p0_seats), .int (Int32.ofInt i_p0_stirs), .ref a_p0_brings, .ref a_p0_need, .ref a_p0_draft, .int (Int32.ofInt i_p0_dSeats), .int (Int32.ofInt i_p0_dStirs), .ref a_p0_dStir, .ref a_p0_dNeed, .int (Int32.ofInt i_p0_told), .int (Int32.ofInt i_p0_highest), .ref a_p0_tape, .int (Int32.ofInt i_p0_taped), .int (Int32.ofInt i_p0_pos), .int (Int32.ofInt i_p0_from), .int (Int32.ofInt i_p0_sort), .int (Int32.ofInt i_p0_value), .int (Int32.ofInt i_p0_fault), .int (Int32.ofInt i_p0_wrongAt), .ref a_p0_places, .ref a_p0_stirred, .ref a_p0_ways, .ref a_p0_waysThen, .ref a_p0_stays, .ref a_p0_fewest, .ref a_p0_bowls, .ref a_p0_has, .ref a_p0_goesOn, .ref a_p0_isThere, .ref a_p0_isThereThen, .ref a_p0_bestRow, .ref a_p0_lanes, .ref a_p0_sizes, .ref a_p0_cells, .int (Int32.ofInt i_p0_torn)])), (a_p0_st, .inl (G 1, 152, .inl (zA v_p0_st))), (a_p0_brings, .inl (G 1, 35, .inl (zA v_p0_brings))), (a_p0_places, .inl (G 1, 7, .inl (zA v_p0_places))), (a_p0_goesOn, .inl (G 1, 343, .inl (zA w3)))] H → va_D A [(a_p0, .inr (12, [.ref a_p0_st, .ref a_p0_isKept, .int (Int32.ofInt i_p0_seats), .int (Int32.ofInt i_p0_stirs), .ref a_p0_brings, .ref a_p0_need, .ref a_p0_draft, .int (Int32.ofInt i_p0_dSeats), .int (Int32.ofInt i_p0_dStirs), .ref a_p0_dStir, .ref a_p0_dNeed, .int (Int32.ofInt i_p0_told), .int (Int32.ofInt i_p0_highest), .ref a_p0_tape, .int (Int32.ofInt i_p0_taped), .int (Int32.ofInt i_p0_pos), .int (Int32.ofInt i_p0_from), .int (Int32.ofInt i_p0_sort), .int (Int32.ofInt i_p0_value), .int (Int32.ofInt i_p0_fault), .int (Int32.ofInt i_p0_wrongAt), .ref a_p0_places, .ref a_p0_stirred, .ref a_p0_ways, .ref a_p0_waysThen, .ref a_p0_stays, .ref a_p0_fewest, .ref a_p0_bowls, .ref a_p0_has, .ref a_p0_goesOn, .ref a_p0_isThere, .ref a_p0_isThereThen, .ref a_p0_bestRow, .ref a_p0_lanes, .ref a_p0_sizes, .ref a_p0_cells, .int (Int32.ofInt i_p0_torn)])), (a_p0_st, .inl (G 1, 152, .inl (zA v_p0_st))), (a_p0_brings, .inl (G 1, 35, .inl (zA v_p0_brings))), (a_p0_places, .inl (G 1, 7, .inl (zA v_p0_places))), (a_p0_goesOn, .inl (G 1, 343, .inl (zA w3)))] → va_S A s.heap H locs → J4 w3 = some (o_v_p0_places, o_v_p0_goesOn) → W p l e rm_X12_findHistories s m ([.ref a_p0] : List Value).toArray below meth c H locs 0 0 Q (F0 m 34 ls []) := by
    clear hf hl hP hD hS
    intro w3 ls H locs hl hP hD hS hf
    replace hf := jn1_s eJ4 hf
    refine lv_iload_n hx hb dX12_findHistories_34 rfl (lv_at hl 0 rfl) ?_
    refine lv_iconst (v := Int32.ofInt (1 : Int)) hx hb dX12_findHistories_35 (by decide) ?_
    refine lv_isub hx hb dX12_findHistories_36 (z_ci (Int32.ofInt_sub z1 (1 : Int)) ?_)
    refine z_topi (fun z5 ez => ?_)
    replace hf := bnd_s hf ez
    clear ez
    refine lv_istore_n (lv' := [(2, .int (Int32.ofInt z5)), (1, .int (Int32.ofInt z1)), (0, .ref a_p0)]) hx hb dX12_findHistories_37 rfl hl (by decide) rfl (fun ls hl => ?_)
    have hq := lq3_i hf
    clear hf
    obtain ⟨B9, eB9, NB9, hf⟩ := hq
    have hB9 : ∀ (n : Nat) (z6 : Int) (w7 : (Int → Int)) (w8 : (Int → Int)) (ls : Array Slot) (H : Heap) (locs : List Loc), lv_has ls 6 [(2, .int (Int32.ofInt z6)), (0, .ref a_p0)] → va_P D vwCl [(a_p0, .inr (12, [.ref a_p0_st, .ref a_p0_isKept, .int (Int32.ofInt i_p0_seats), .int (Int32.ofInt i_p0_stirs), .ref a_p0_brings, .ref a_p0_need, .ref a_p0_draft, .int (Int32.ofInt i_p0_dSeats), .int (Int32.ofInt i_p0_dStirs), .ref a_p0_dStir, .ref a_p0_dNeed, .int (Int32.ofInt i_p0_told), .int (Int32.ofInt i_p0_highest), .ref a_p0_tape, .int (Int32.ofInt i_p0_taped), .int (Int32.ofInt i_p0_pos), .int (Int32.ofInt i_p0_from), .int (Int32.ofInt i_p0_sort), .int (Int32.ofInt i_p0_value), .int (Int32.ofInt i_p0_fault), .int (Int32.ofInt i_p0_wrongAt), .ref a_p0_places, .ref a_p0_stirred, .ref a_p0_ways, .ref a_p0_waysThen, .ref a_p0_stays, .ref a_p0_fewest, .ref a_p0_bowls, .ref a_p0_has, .ref a_p0_goesOn, .ref a_p0_isThere, .ref a_p0_isThereThen, .ref a_p0_bestRow, .ref a_p0_lanes, .ref a_p0_sizes, .ref a_p0_cells, .int (Int32.ofInt i_p0_torn)])), (a_p0_st, .inl (G 1, 152, .inl (zA v_p0_st))), (a_p0_brings, .inl (G 1, 35, .inl (zA v_p0_brings))), (a_p0_places, .inl (G 1, 7, .inl (zA w7))), (a_p0_goesOn, .inl (G 1, 343, .inl (zA w8)))] H → va_D A [(a_p0, .inr (12, [.ref a_p0_st, .ref a_p0_isKept, .int (Int32.ofInt i_p0_seats), .int (Int32.ofInt i_p0_stirs), .ref a_p0_brings, .ref a_p0_need, .ref a_p0_draft, .int (Int32.ofInt i_p0_dSeats), .int (Int32.ofInt i_p0_dStirs), .ref a_p0_dStir, .ref a_p0_dNeed, .int (Int32.ofInt i_p0_told), .int (Int32.ofInt i_p0_highest), .ref a_p0_tape, .int (Int32.ofInt i_p0_taped), .int (Int32.ofInt i_p0_pos), .int (Int32.ofInt i_p0_from), .int (Int32.ofInt i_p0_sort), .int (Int32.ofInt i_p0_value), .int (Int32.ofInt i_p0_fault), .int (Int32.ofInt i_p0_wrongAt), .ref a_p0_places, .ref a_p0_stirred, .ref a_p0_ways, .ref a_p0_waysThen, .ref a_p0_stays, .ref a_p0_fewest, .ref a_p0_bowls, .ref a_p0_has, .ref a_p0_goesOn, .ref a_p0_isThere, .ref a_p0_isThereThen, .ref a_p0_bestRow, .ref a_p0_lanes, .ref a_p0_sizes, .ref a_p0_cells, .int (Int32.ofInt i_p0_torn)])), (a_p0_st, .inl (G 1, 152, .inl (zA v_p0_st))), (a_p0_brings, .inl (G 1, 35, .inl (zA v_p0_brings))), (a_p0_places, .inl (G 1, 7, .inl (zA w7))), (a_p0_goesOn, .inl (G 1, 343, .inl (zA w8)))] → va_S A s.heap H locs → lq3 B9 n z6 w7 w8 = some (o_v_p0_places, o_v_p0_goesOn) → W p l e rm_X12_findHistories s m ([.ref a_p0] : List Value).toArray below meth c H locs 0 0 Q (F0 m 38 ls []) := by
      clear hf hl hP hD hS
      intro n
      induction n with
      | zero =>
        intro z6 w7 w8 ls H locs hl hP hD hS hf
        exact (lq3_0 hf).elim
      | succ n ih38 =>
        intro z6 w7 w8 ls H locs hl hP hD hS hf
        replace hf := lq3_s eB9 hf
        unfold B_X12_findHistories_38 at hf
        refine lv_iload_n hx hb dX12_findHistories_38 rfl (lv_at hl 0 rfl) ?_
        have hr9 := ck_c hf
        replace hf := ck_r hf
        refine lv_if_lt (tgt := 173) hx hb dX12_findHistories_39 (by decide) (fun cc => ?_) (fun cc => ?_)
        ·
          replace hf := ite_t ((z_lt0 hr9).mp cc) hf
          clear cc
          obtain ⟨rfl, rfl⟩ := ou2 hf
          rw [hQ]
          exact W.vret hx hb hr (fun t ht hW => ⟨⟨(), rfl, trivial, by rw [ht]; exact hP, va_K.moved hW.alike hK, hD⟩, hS.F ht⟩) hS.2.2 dX12_findHistories_173
        ·
          replace hf := ite_f (fun h9 => cc ((z_lt0 hr9).mpr h9)) hf
          clear cc
          refine lv_iconst (v := Int32.ofInt (0 : Int)) hx hb dX12_findHistories_42 (by decide) ?_
          refine z_topi (fun z11 ez => ?_)
          replace hf := bnd_s hf ez
          clear ez
          refine lv_istore_n (lv' := [(3, .int (Int32.ofInt z11)), (2, .int (Int32.ofInt z6)), (0, .ref a_p0)]) hx hb dX12_findHistories_43 rfl hl (by decide) rfl (fun ls hl => ?_)
          have hq := lq3_i hf
          clear hf
          obtain ⟨B15, eB15, NB15, hf⟩ := hq
          have hB15 : ∀ (n : Nat) (z12 : Int) (w13 : (Int → Int)) (w14 : (Int → Int)) (ls : Array Slot) (H : Heap) (locs : List Loc), lv_has ls 6 [(3, .int (Int32.ofInt z12)), (2, .int (Int32.ofInt z6)), (0, .ref a_p0)] → va_P D vwCl [(a_p0, .inr (12, [.ref a_p0_st, .ref a_p0_isKept, .int (Int32.ofInt i_p0_seats), .int (Int32.ofInt i_p0_stirs), .ref a_p0_brings, .ref a_p0_need, .ref a_p0_draft, .int (Int32.ofInt i_p0_dSeats), .int (Int32.ofInt i_p0_dStirs), .ref a_p0_dStir, .ref a_p0_dNeed, .int (Int32.ofInt i_p0_told), .int (Int32.ofInt i_p0_highest), .ref a_p0_tape, .int (Int32.ofInt i_p0_taped), .int (Int32.ofInt i_p0_pos), .int (Int32.ofInt i_p0_from), .int (Int32.ofInt i_p0_sort), .int (Int32.ofInt i_p0_value), .int (Int32.ofInt i_p0_fault), .int (Int32.ofInt i_p0_wrongAt), .ref a_p0_places, .ref a_p0_stirred, .ref a_p0_ways, .ref a_p0_waysThen, .ref a_p0_stays, .ref a_p0_fewest, .ref a_p0_bowls, .ref a_p0_has, .ref a_p0_goesOn, .ref a_p0_isThere, .ref a_p0_isThereThen, .ref a_p0_bestRow, .ref a_p0_lanes, .ref a_p0_sizes, .ref a_p0_cells, .int (Int32.ofInt i_p0_torn)])), (a_p0_st, .inl (G 1, 152, .inl (zA v_p0_st))), (a_p0_brings, .inl (G 1, 35, .inl (zA v_p0_brings))), (a_p0_places, .inl (G 1, 7, .inl (zA w13))), (a_p0_goesOn, .inl (G 1, 343, .inl (zA w14)))] H → va_D A [(a_p0, .inr (12, [.ref a_p0_st, .ref a_p0_isKept, .int (Int32.ofInt i_p0_seats), .int (Int32.ofInt i_p0_stirs), .ref a_p0_brings, .ref a_p0_need, .ref a_p0_draft, .int (Int32.ofInt i_p0_dSeats), .int (Int32.ofInt i_p0_dStirs), .ref a_p0_dStir, .ref a_p0_dNeed, .int (Int32.ofInt i_p0_told), .int (Int32.ofInt i_p0_highest), .ref a_p0_tape, .int (Int32.ofInt i_p0_taped), .int (Int32.ofInt i_p0_pos), .int (Int32.ofInt i_p0_from), .int (Int32.ofInt i_p0_sort), .int (Int32.ofInt i_p0_value), .int (Int32.ofInt i_p0_fault), .int (Int32.ofInt i_p0_wrongAt), .ref a_p0_places, .ref a_p0_stirred, .ref a_p0_ways, .ref a_p0_waysThen, .ref a_p0_stays, .ref a_p0_fewest, .ref a_p0_bowls, .ref a_p0_has, .ref a_p0_goesOn, .ref a_p0_isThere, .ref a_p0_isThereThen, .ref a_p0_bestRow, .ref a_p0_lanes, .ref a_p0_sizes, .ref a_p0_cells, .int (Int32.ofInt i_p0_torn)])), (a_p0_st, .inl (G 1, 152, .inl (zA v_p0_st))), (a_p0_brings, .inl (G 1, 35, .inl (zA v_p0_brings))), (a_p0_places, .inl (G 1, 7, .inl (zA w13))), (a_p0_goesOn, .inl (G 1, 343, .inl (zA w14)))] → va_S A s.heap H locs → lq3 B15 n z12 w13 w14 = some (o_v_p0_places, o_v_p0_goesOn) → W p l e rm_X12_findHistories s m ([.ref a_p0] : List Value).toArray below meth c H locs 0 0 Q (F0 m 44 ls []) := by
            clear hf hl hP hD hS
            intro n
            induction n with
            | zero =>
              intro z12 w13 w14 ls H locs hl hP hD hS hf
              exact (lq3_0 hf).elim
            | succ n ih44 =>
              intro z12 w13 w14 ls H locs hl hP hD hS hf
              replace hf := lq3_s eB15 hf
              unfold B_X12_findHistories_44 at hf
              refine lv_iload_n hx hb dX12_findHistories_44 rfl (lv_at hl 0 rfl) ?_
              refine lv_bipush (v := Int32.ofInt (49 : Int)) hx hb dX12_findHistories_45 (by decide) ?_
              have hr15 := ck_c hf
              replace hf := ck_r hf
              refine lv_icmp_ge (tgt := 167) hx hb dX12_findHistories_47 (by decide) (fun cc => ?_) (fun cc => ?_)
              ·
                replace hf := ite_t ((z_le (by decide) hr15).mp cc) hf
                clear cc
                obtain ⟨z17, ez⟩ : ∃ y : Int, y = (z6 + (-1 : Int)) := ⟨_, rfl⟩
                replace hf := bnd_s hf ez
                refine lv_iinc (v := Int32.ofInt z17) (lv' := [(2, .int (Int32.ofInt z17)), (3, .int (Int32.ofInt z12)), (0, .ref a_p0)]) hx hb dX12_findHistories_167 hl (k := 1) rfl (by rw [ez]; exact (Int32.ofInt_add _ _).symm) (by decide) rfl (fun ls hl => ?_)
                clear ez
                refine lv_goto (tgt := 38) hx hb dX12_findHistories_170 (by decide) ?_
                exact ih38 _ _ _ _ _ _ (lv_sub hl [0, 2] rfl) hP hD hS hf
              ·
                replace hf := ite_f (fun h9 => cc ((z_le (by decide) hr15).mpr h9)) hf
                clear cc
                refine lv_aload_n hx hb dX12_findHistories_50 rfl (lv_at hl 2 rfl) ?_
                refine va_get (D := D) (ci := 12) (v := .ref a_p0_goesOn) (C := RX12) (T := TX12) (N := 37) hx hb hts inX12_findHistories_X12 hown hK hP 0 rfl rfl 29 (by decide) (hts _ mwX12_findHistories_2) (fun _ h9 => h9) rfl dX12_findHistories_51 ?_
                refine lv_bipush (v := Int32.ofInt (49 : Int)) hx hb dX12_findHistories_54 (by decide) ?_
                refine lv_iload_n hx hb dX12_findHistories_56 rfl (lv_at hl 1 rfl) ?_
                refine lv_imul hx hb dX12_findHistories_57 (z_ci (Int32.ofInt_mul (49 : Int) z6) ?_)
                refine lv_iload_n hx hb dX12_findHistories_58 rfl (lv_at hl 0 rfl) ?_
                refine lv_iadd hx hb dX12_findHistories_59 (z_ci (Int32.ofInt_add ((49 : Int) * z6) z12) ?_)
                refine lv_iconst (v := Int32.ofInt (0 : Int)) hx hb dX12_findHistories_60 (by decide) ?_
                have hc := ck_c hf
                replace hf := ck_r hf
                refine zs_iast (wf := fun w18 => [(a_p0, .inr (12, [.ref a_p0_st, .ref a_p0_isKept, .int (Int32.ofInt i_p0_seats), .int (Int32.ofInt i_p0_stirs), .ref a_p0_brings, .ref a_p0_need, .ref a_p0_draft, .int (Int32.ofInt i_p0_dSeats), .int (Int32.ofInt i_p0_dStirs), .ref a_p0_dStir, .ref a_p0_dNeed, .int (Int32.ofInt i_p0_told), .int (Int32.ofInt i_p0_highest), .ref a_p0_tape, .int (Int32.ofInt i_p0_taped), .int (Int32.ofInt i_p0_pos), .int (Int32.ofInt i_p0_from), .int (Int32.ofInt i_p0_sort), .int (Int32.ofInt i_p0_value), .int (Int32.ofInt i_p0_fault), .int (Int32.ofInt i_p0_wrongAt), .ref a_p0_places, .ref a_p0_stirred, .ref a_p0_ways, .ref a_p0_waysThen, .ref a_p0_stays, .ref a_p0_fewest, .ref a_p0_bowls, .ref a_p0_has, .ref a_p0_goesOn, .ref a_p0_isThere, .ref a_p0_isThereThen, .ref a_p0_bestRow, .ref a_p0_lanes, .ref a_p0_sizes, .ref a_p0_cells, .int (Int32.ofInt i_p0_torn)])), (a_p0_st, .inl (G 1, 152, .inl (zA v_p0_st))), (a_p0_brings, .inl (G 1, 35, .inl (zA v_p0_brings))), (a_p0_places, .inl (G 1, 7, .inl (zA w13))), (a_p0_goesOn, .inl (G 1, 343, .inl (zA w18)))]) hx hb hK hP hD hS 4 1 rfl rfl hc dX12_findHistories_61 (fun _ => rfl) (fun w18 ez H locs hP hD hS => ?_)
                replace hf := bnd_s hf ez
                clear ez hc
                refine lv_iconst (v := Int32.ofInt (0 : Int)) hx hb dX12_findHistories_62 (by decide) ?_
                refine z_topi (fun z19 ez => ?_)
                replace hf := bnd_s hf ez
                clear ez
                refine lv_istore (lv' := [(4, .int (Int32.ofInt z19)), (3, .int (Int32.ofInt z12)), (2, .int (Int32.ofInt z6)), (0, .ref a_p0)]) hx hb dX12_findHistories_63 hl (by decide) rfl (fun ls hl => ?_)
                have hq := lq3_i hf
                clear hf
                obtain ⟨B23, eB23, NB23, hf⟩ := hq
                have hB23 : ∀ (n : Nat) (z20 : Int) (w21 : (Int → Int)) (w22 : (Int → Int)) (ls : Array Slot) (H : Heap) (locs : List Loc), lv_has ls 6 [(4, .int (Int32.ofInt z20)), (3, .int (Int32.ofInt z12)), (2, .int (Int32.ofInt z6)), (0, .ref a_p0)] → va_P D vwCl [(a_p0, .inr (12, [.ref a_p0_st, .ref a_p0_isKept, .int (Int32.ofInt i_p0_seats), .int (Int32.ofInt i_p0_stirs), .ref a_p0_brings, .ref a_p0_need, .ref a_p0_draft, .int (Int32.ofInt i_p0_dSeats), .int (Int32.ofInt i_p0_dStirs), .ref a_p0_dStir, .ref a_p0_dNeed, .int (Int32.ofInt i_p0_told), .int (Int32.ofInt i_p0_highest), .ref a_p0_tape, .int (Int32.ofInt i_p0_taped), .int (Int32.ofInt i_p0_pos), .int (Int32.ofInt i_p0_from), .int (Int32.ofInt i_p0_sort), .int (Int32.ofInt i_p0_value), .int (Int32.ofInt i_p0_fault), .int (Int32.ofInt i_p0_wrongAt), .ref a_p0_places, .ref a_p0_stirred, .ref a_p0_ways, .ref a_p0_waysThen, .ref a_p0_stays, .ref a_p0_fewest, .ref a_p0_bowls, .ref a_p0_has, .ref a_p0_goesOn, .ref a_p0_isThere, .ref a_p0_isThereThen, .ref a_p0_bestRow, .ref a_p0_lanes, .ref a_p0_sizes, .ref a_p0_cells, .int (Int32.ofInt i_p0_torn)])), (a_p0_st, .inl (G 1, 152, .inl (zA v_p0_st))), (a_p0_brings, .inl (G 1, 35, .inl (zA v_p0_brings))), (a_p0_places, .inl (G 1, 7, .inl (zA w21))), (a_p0_goesOn, .inl (G 1, 343, .inl (zA w22)))] H → va_D A [(a_p0, .inr (12, [.ref a_p0_st, .ref a_p0_isKept, .int (Int32.ofInt i_p0_seats), .int (Int32.ofInt i_p0_stirs), .ref a_p0_brings, .ref a_p0_need, .ref a_p0_draft, .int (Int32.ofInt i_p0_dSeats), .int (Int32.ofInt i_p0_dStirs), .ref a_p0_dStir, .ref a_p0_dNeed, .int (Int32.ofInt i_p0_told), .int (Int32.ofInt i_p0_highest), .ref a_p0_tape, .int (Int32.ofInt i_p0_taped), .int (Int32.ofInt i_p0_pos), .int (Int32.ofInt i_p0_from), .int (Int32.ofInt i_p0_sort), .int (Int32.ofInt i_p0_value), .int (Int32.ofInt i_p0_fault), .int (Int32.ofInt i_p0_wrongAt), .ref a_p0_places, .ref a_p0_stirred, .ref a_p0_ways, .ref a_p0_waysThen, .ref a_p0_stays, .ref a_p0_fewest, .ref a_p0_bowls, .ref a_p0_has, .ref a_p0_goesOn, .ref a_p0_isThere, .ref a_p0_isThereThen, .ref a_p0_bestRow, .ref a_p0_lanes, .ref a_p0_sizes, .ref a_p0_cells, .int (Int32.ofInt i_p0_torn)])), (a_p0_st, .inl (G 1, 152, .inl (zA v_p0_st))), (a_p0_brings, .inl (G 1, 35, .inl (zA v_p0_brings))), (a_p0_places, .inl (G 1, 7, .inl (zA w21))), (a_p0_goesOn, .inl (G 1, 343, .inl (zA w22)))] → va_S A s.heap H locs → lq3 B23 n z20 w21 w22 = some (o_v_p0_places, o_v_p0_goesOn) → W p l e rm_X12_findHistories s m ([.ref a_p0] : List Value).toArray below meth c H locs 0 0 Q (F0 m 65 ls []) := by
                  clear hf hl hP hD hS
                  intro n
                  induction n with
                  | zero =>
                    intro z20 w21 w22 ls H locs hl hP hD hS hf
                    exact (lq3_0 hf).elim
                  | succ n ih65 =>
                    intro z20 w21 w22 ls H locs hl hP hD hS hf
                    replace hf := lq3_s eB23 hf
                    unfold B_X12_findHistories_65 at hf
                    refine lv_iload hx hb dX12_findHistories_65 (lv_at hl 0 rfl) ?_
                    refine lv_aload_n hx hb dX12_findHistories_67 rfl (lv_at hl 3 rfl) ?_
                    refine va_get (D := D) (ci := 12) (v := .int (Int32.ofInt i_p0_stirs)) (C := RX12) (T := TX12) (N := 37) hx hb hts inX12_findHistories_X12 hown hK hP 0 rfl rfl 3 (by decide) (hts _ mwX12_findHistories_3) (fun _ h9 => h9) rfl dX12_findHistories_68 ?_
                    have hr23 := ck_c hf
                    replace hf := ck_r hf
                    have hr24 := ck_c hf
                    replace hf := ck_r hf
                    refine lv_icmp_ge (tgt := 161) hx hb dX12_findHistories_71 (by decide) (fun cc => ?_) (fun cc => ?_)
                    ·
                      replace hf := ite_t ((z_le hr24 hr23).mp cc) hf
                      clear cc
                      obtain ⟨z26, ez⟩ : ∃ y : Int, y = (z12 + (1 : Int)) := ⟨_, rfl⟩
                      replace hf := bnd_s hf ez
                      refine lv_iinc (v := Int32.ofInt z26) (lv' := [(3, .int (Int32.ofInt z26)), (4, .int (Int32.ofInt z20)), (2, .int (Int32.ofInt z6)), (0, .ref a_p0)]) hx hb dX12_findHistories_161 hl (k := 1) rfl (by rw [ez]; exact (Int32.ofInt_add _ _).symm) (by decide) rfl (fun ls hl => ?_)
                      clear ez
                      refine lv_goto (tgt := 44) hx hb dX12_findHistories_164 (by decide) ?_
                      exact ih44 _ _ _ _ _ _ (lv_sub hl [0, 2, 3] rfl) hP hD hS hf
                    ·
                      replace hf := ite_f (fun h9 => cc ((z_le hr24 hr23).mpr h9)) hf
                      clear cc
                      refine lv_iload_n hx hb dX12_findHistories_74 rfl (lv_at hl 1 rfl) ?_
                      refine lv_bipush (v := Int32.ofInt (7 : Int)) hx hb dX12_findHistories_75 (by decide) ?_
                      have hc := ck_c hf
                      replace hf := ck_r hf
                      refine lv_irem hx hb dX12_findHistories_77 (z_nz hc) (z_ci (z_rem hc) ?_)
                      clear hc
                      refine lv_aload_n hx hb dX12_findHistories_78 rfl (lv_at hl 3 rfl) ?_
                      refine va_get (D := D) (ci := 12) (v := .int (Int32.ofInt i_p0_seats)) (C := RX12) (T := TX12) (N := 37) hx hb hts inX12_findHistories_X12 hown hK hP 0 rfl rfl 2 (by decide) (hts _ mwX12_findHistories_4) (fun _ h9 => h9) rfl dX12_findHistories_79 ?_
                      have hr26 := ck_c hf
                      replace hf := ck_r hf
                      have hr27 := ck_c hf
                      replace hf := ck_r hf
                      refine lv_icmp_ge (tgt := 161) hx hb dX12_findHistories_82 (by decide) (fun cc => ?_) (fun cc => ?_)
                      ·
                        replace hf := ite_t ((z_le hr27 hr26).mp cc) hf
                        clear cc
                        obtain ⟨z29, ez⟩ : ∃ y : Int, y = (z12 + (1 : Int)) := ⟨_, rfl⟩
                        replace hf := bnd_s hf ez
                        refine lv_iinc (v := Int32.ofInt z29) (lv' := [(3, .int (Int32.ofInt z29)), (4, .int (Int32.ofInt z20)), (2, .int (Int32.ofInt z6)), (0, .ref a_p0)]) hx hb dX12_findHistories_161 hl (k := 1) rfl (by rw [ez]; exact (Int32.ofInt_add _ _).symm) (by decide) rfl (fun ls hl => ?_)
                        clear ez
                        refine lv_goto (tgt := 44) hx hb dX12_findHistories_164 (by decide) ?_
                        exact ih44 _ _ _ _ _ _ (lv_sub hl [0, 2, 3] rfl) hP hD hS hf
                      ·
                        replace hf := ite_f (fun h9 => cc ((z_le hr27 hr26).mpr h9)) hf
                        clear cc
                        refine lv_iload_n hx hb dX12_findHistories_85 rfl (lv_at hl 1 rfl) ?_
                        refine lv_bipush (v := Int32.ofInt (7 : Int)) hx hb dX12_findHistories_86 (by decide) ?_
                        have hc := ck_c hf
                        replace hf := ck_r hf
                        refine lv_idiv hx hb dX12_findHistories_88 (z_nz hc) (z_ci (z_div hc) ?_)
                        clear hc
                        refine lv_aload_n hx hb dX12_findHistories_89 rfl (lv_at hl 3 rfl) ?_
                        refine va_get (D := D) (ci := 12) (v := .int (Int32.ofInt i_p0_seats)) (C := RX12) (T := TX12) (N := 37) hx hb hts inX12_findHistories_X12 hown hK hP 0 rfl rfl 2 (by decide) (hts _ mwX12_findHistories_4) (fun _ h9 => h9) rfl dX12_findHistories_90 ?_
                        have hr29 := ck_c hf
                        replace hf := ck_r hf
                        refine lv_icmp_ge (tgt := 161) hx hb dX12_findHistories_93 (by decide) (fun cc => ?_) (fun cc => ?_)
                        ·
                          replace hf := ite_t ((z_le hr27 hr29).mp cc) hf
                          clear cc
                          obtain ⟨z31, ez⟩ : ∃ y : Int, y = (z12 + (1 : Int)) := ⟨_, rfl⟩
                          replace hf := bnd_s hf ez
                          refine lv_iinc (v := Int32.ofInt z31) (lv' := [(3, .int (Int32.ofInt z31)), (4, .int (Int32.ofInt z20)), (2, .int (Int32.ofInt z6)), (0, .ref a_p0)]) hx hb dX12_findHistories_161 hl (k := 1) rfl (by rw [ez]; exact (Int32.ofInt_add _ _).symm) (by decide) rfl (fun ls hl => ?_)
                          clear ez
                          refine lv_goto (tgt := 44) hx hb dX12_findHistories_164 (by decide) ?_
                          exact ih44 _ _ _ _ _ _ (lv_sub hl [0, 2, 3] rfl) hP hD hS hf
                        ·
                          replace hf := ite_f (fun h9 => cc ((z_le hr27 hr29).mpr h9)) hf
                          clear cc
                          refine lv_aload_n hx hb dX12_findHistories_96 rfl (lv_at hl 3 rfl) ?_
                          refine lv_iload_n hx hb dX12_findHistories_97 rfl (lv_at hl 1 rfl) ?_
                          refine lv_iload hx hb dX12_findHistories_98 (lv_at hl 0 rfl) ?_
                          have hq := bd2_s hf
                          clear hf
                          obtain ⟨z32, w33, hcall, hf⟩ := hq
                          refine gsI (ws' := [(a_p0, .inr (12, [.ref a_p0_st, .ref a_p0_isKept, .int (Int32.ofInt i_p0_seats), .int (Int32.ofInt i_p0_stirs), .ref a_p0_brings, .ref a_p0_need, .ref a_p0_draft, .int (Int32.ofInt i_p0_dSeats), .int (Int32.ofInt i_p0_dStirs), .ref a_p0_dStir, .ref a_p0_dNeed, .int (Int32.ofInt i_p0_told), .int (Int32.ofInt i_p0_highest), .ref a_p0_tape, .int (Int32.ofInt i_p0_taped), .int (Int32.ofInt i_p0_pos), .int (Int32.ofInt i_p0_from), .int (Int32.ofInt i_p0_sort), .int (Int32.ofInt i_p0_value), .int (Int32.ofInt i_p0_fault), .int (Int32.ofInt i_p0_wrongAt), .ref a_p0_places, .ref a_p0_stirred, .ref a_p0_ways, .ref a_p0_waysThen, .ref a_p0_stays, .ref a_p0_fewest, .ref a_p0_bowls, .ref a_p0_has, .ref a_p0_goesOn, .ref a_p0_isThere, .ref a_p0_isThereThen, .ref a_p0_bestRow, .ref a_p0_lanes, .ref a_p0_sizes, .ref a_p0_cells, .int (Int32.ofInt i_p0_torn)])), (a_p0_st, .inl (G 1, 152, .inl (zA v_p0_st))), (a_p0_brings, .inl (G 1, 35, .inl (zA v_p0_brings))), (a_p0_places, .inl (G 1, 7, .inl (zA w33))), (a_p0_goesOn, .inl (G 1, 343, .inl (zA w22)))]) (va_runV (As := [.int (Int32.ofInt z12), .int (Int32.ofInt z20)]) (rest := []) ⟨hx, hb, hml, hown, hts⟩ (c_X12_then (l := l) (D := D) (G := G) (sz := H.size) (a_p0 := a_p0) (a_p0_st := a_p0_st) (a_p0_isKept := a_p0_isKept) (a_p0_brings := a_p0_brings) (a_p0_need := a_p0_need) (a_p0_draft := a_p0_draft) (a_p0_dStir := a_p0_dStir) (a_p0_dNeed := a_p0_dNeed) (a_p0_tape := a_p0_tape) (a_p0_places := a_p0_places) (a_p0_stirred := a_p0_stirred) (a_p0_ways := a_p0_ways) (a_p0_waysThen := a_p0_waysThen) (a_p0_stays := a_p0_stays) (a_p0_fewest := a_p0_fewest) (a_p0_bowls := a_p0_bowls) (a_p0_has := a_p0_has) (a_p0_goesOn := a_p0_goesOn) (a_p0_isThere := a_p0_isThere) (a_p0_isThereThen := a_p0_isThereThen) (a_p0_bestRow := a_p0_bestRow) (a_p0_lanes := a_p0_lanes) (a_p0_sizes := a_p0_sizes) (a_p0_cells := a_p0_cells) (i_p0_seats := i_p0_seats) (i_p0_stirs := i_p0_stirs) (i_p0_dSeats := i_p0_dSeats) (i_p0_dStirs := i_p0_dStirs) (i_p0_told := i_p0_told) (i_p0_highest := i_p0_highest) (i_p0_taped := i_p0_taped) (i_p0_pos := i_p0_pos) (i_p0_from := i_p0_from) (i_p0_sort := i_p0_sort) (i_p0_value := i_p0_value) (i_p0_fault := i_p0_fault) (i_p0_wrongAt := i_p0_wrongAt) (i_p0_torn := i_p0_torn) (v_p0_st := v_p0_st) (v_p0_brings := v_p0_brings) (v_p0_places := w21) (x1 := z12) (x2 := z20) (r := z32) (o_v_p0_places := w33) (hf := hcall)) (cwV 2 hts gX12_findHistories_X12_then rfl rfl rfl hdV_yX12_then_RX12 ⟨Nat.le_of_ble_eq_true rfl, Nat.le_of_ble_eq_true rfl⟩) (preG_V (ci := 12) (q := (RX12, TX12, 37)) (hP.sub [0, 1, 2, 3] rfl) (hD.sub [0, 1, 2, 3] rfl rfl) hK rfl rfl) rfl rfl hl.1 rfl (lv_room (Nat.le_of_ble_eq_true rfl)) dX12_findHistories_100 ⟨Nat.le_of_ble_eq_true rfl, Nat.le_of_ble_eq_true rfl⟩) hP hD hS hA [0, 1, 2, 3] rfl rfl rfl (fun H locs hP hD hS => ?_)
                          clear hcall
                          refine z_topi (fun z34 ez => ?_)
                          replace hf := bnd_s hf ez
                          clear ez
                          refine lv_istore (lv' := [(5, .int (Int32.ofInt z34)), (4, .int (Int32.ofInt z20)), (3, .int (Int32.ofInt z12)), (2, .int (Int32.ofInt z6)), (0, .ref a_p0)]) hx hb dX12_findHistories_103 hl (by decide) rfl (fun ls hl => ?_)
                          refine lv_aload_n hx hb dX12_findHistories_105 rfl (lv_at hl 4 rfl) ?_
                          refine va_get (D := D) (ci := 12) (v := .ref a_p0_goesOn) (C := RX12) (T := TX12) (N := 37) hx hb hts inX12_findHistories_X12 hown hK hP 0 rfl rfl 29 (by decide) (hts _ mwX12_findHistories_2) (fun _ h9 => h9) rfl dX12_findHistories_106 ?_
                          refine lv_bipush (v := Int32.ofInt (49 : Int)) hx hb dX12_findHistories_109 (by decide) ?_
                          refine lv_iload_n hx hb dX12_findHistories_111 rfl (lv_at hl 3 rfl) ?_
                          refine lv_imul hx hb dX12_findHistories_112 (z_ci (Int32.ofInt_mul (49 : Int) z6) ?_)
                          refine lv_iload_n hx hb dX12_findHistories_113 rfl (lv_at hl 2 rfl) ?_
                          refine lv_iadd hx hb dX12_findHistories_114 (z_ci (Int32.ofInt_add ((49 : Int) * z6) z12) ?_)
                          refine lv_dup2_11 hx hb dX12_findHistories_115 rfl rfl ?_
                          have hc := ck_c hf
                          replace hf := ck_r hf
                          refine va_iald hx hb hK hP 4 1 rfl rfl (z_ix_in hc) dX12_findHistories_116 (z_ci (z_ald w22 hc) ?_)
                          clear hc
                          refine lv_iload hx hb dX12_findHistories_117 (lv_at hl 0 rfl) ?_
                          refine lv_bipush (v := Int32.ofInt (7 : Int)) hx hb dX12_findHistories_119 (by decide) ?_
                          have hc := ck_c hf
                          replace hf := ck_r hf
                          refine lv_irem hx hb dX12_findHistories_121 (z_nz hc) (z_ci (z_rem hc) ?_)
                          clear hc
                          refine lv_aload_n hx hb dX12_findHistories_122 rfl (lv_at hl 4 rfl) ?_
                          refine va_get (D := D) (ci := 12) (v := .ref a_p0_st) (C := RX12) (T := TX12) (N := 37) hx hb hts inX12_findHistories_X12 hown hK hP 0 rfl rfl 0 (by decide) (hts _ mwX12_findHistories_1) (fun _ h9 => h9) rfl dX12_findHistories_123 ?_
                          refine lv_bipush (v := Int32.ofInt (32 : Int)) hx hb dX12_findHistories_126 (by decide) ?_
                          refine lv_iload_n hx hb dX12_findHistories_128 rfl (lv_at hl 3 rfl) ?_
                          refine lv_iadd hx hb dX12_findHistories_129 (z_ci (Int32.ofInt_add (32 : Int) z6) ?_)
                          have hc := ck_c hf
                          replace hf := ck_r hf
                          refine va_iald hx hb hK hP 1 1 rfl rfl (z_ix_in hc) dX12_findHistories_130 (z_ci (z_ald v_p0_st hc) ?_)
                          clear hc
                          have hr34 := ck_c hf
                          replace hf := ck_r hf
                          have hr35 := ck_c hf
                          replace hf := ck_r hf
                          refine lv_icmp_ne (tgt := 152) hx hb dX12_findHistories_131 (by decide) (fun cc => ?_) (fun cc => ?_)
                          ·
                            replace hf := ite_f (fun h9 => cc ((z_eq hr34 hr35).mpr h9)) hf
                            clear cc
                            refine lv_iconst (v := Int32.ofInt (0 : Int)) hx hb dX12_findHistories_152 (by decide) ?_
                            refine lv_iadd hx hb dX12_findHistories_153 (z_ci (Int32.ofInt_add (w22 (((49 : Int) * z6) + z12)) (0 : Int)) ?_)
                            have hc := ck_c hf
                            replace hf := ck_r hf
                            refine zs_iast (wf := fun w37 => [(a_p0, .inr (12, [.ref a_p0_st, .ref a_p0_isKept, .int (Int32.ofInt i_p0_seats), .int (Int32.ofInt i_p0_stirs), .ref a_p0_brings, .ref a_p0_need, .ref a_p0_draft, .int (Int32.ofInt i_p0_dSeats), .int (Int32.ofInt i_p0_dStirs), .ref a_p0_dStir, .ref a_p0_dNeed, .int (Int32.ofInt i_p0_told), .int (Int32.ofInt i_p0_highest), .ref a_p0_tape, .int (Int32.ofInt i_p0_taped), .int (Int32.ofInt i_p0_pos), .int (Int32.ofInt i_p0_from), .int (Int32.ofInt i_p0_sort), .int (Int32.ofInt i_p0_value), .int (Int32.ofInt i_p0_fault), .int (Int32.ofInt i_p0_wrongAt), .ref a_p0_places, .ref a_p0_stirred, .ref a_p0_ways, .ref a_p0_waysThen, .ref a_p0_stays, .ref a_p0_fewest, .ref a_p0_bowls, .ref a_p0_has, .ref a_p0_goesOn, .ref a_p0_isThere, .ref a_p0_isThereThen, .ref a_p0_bestRow, .ref a_p0_lanes, .ref a_p0_sizes, .ref a_p0_cells, .int (Int32.ofInt i_p0_torn)])), (a_p0_st, .inl (G 1, 152, .inl (zA v_p0_st))), (a_p0_brings, .inl (G 1, 35, .inl (zA v_p0_brings))), (a_p0_places, .inl (G 1, 7, .inl (zA w33))), (a_p0_goesOn, .inl (G 1, 343, .inl (zA w37)))]) hx hb hK hP hD hS 4 1 rfl rfl hc dX12_findHistories_154 (fun _ => rfl) (fun w37 ez H locs hP hD hS => ?_)
                            replace hf := bnd_s hf ez
                            clear ez hc
                            obtain ⟨z38, ez⟩ : ∃ y : Int, y = (z20 + (1 : Int)) := ⟨_, rfl⟩
                            replace hf := bnd_s hf ez
                            refine lv_iinc (v := Int32.ofInt z38) (lv' := [(4, .int (Int32.ofInt z38)), (5, .int (Int32.ofInt z34)), (3, .int (Int32.ofInt z12)), (2, .int (Int32.ofInt z6)), (0, .ref a_p0)]) hx hb dX12_findHistories_155 hl (k := 1) rfl (by rw [ez]; exact (Int32.ofInt_add _ _).symm) (by decide) rfl (fun ls hl => ?_)
                            clear ez
                            refine lv_goto (tgt := 65) hx hb dX12_findHistories_158 (by decide) ?_
                            exact ih65 _ _ _ _ _ _ (lv_sub hl [0, 2, 3, 4] rfl) hP hD hS hf
                          ·
                            replace hf := ite_t ((z_eq hr34 hr35).mp cc) hf
                            clear cc
                            refine lv_aload_n hx hb dX12_findHistories_134 rfl (lv_at hl 4 rfl) ?_
                            refine va_get (D := D) (ci := 12) (v := .ref a_p0_goesOn) (C := RX12) (T := TX12) (N := 37) hx hb hts inX12_findHistories_X12 hown hK hP 0 rfl rfl 29 (by decide) (hts _ mwX12_findHistories_2) (fun _ h9 => h9) rfl dX12_findHistories_135 ?_
                            refine lv_bipush (v := Int32.ofInt (49 : Int)) hx hb dX12_findHistories_138 (by decide) ?_
                            refine lv_iload_n hx hb dX12_findHistories_140 rfl (lv_at hl 3 rfl) ?_
                            refine lv_imul hx hb dX12_findHistories_141 (z_ci (Int32.ofInt_mul (49 : Int) z6) ?_)
                            refine lv_bipush (v := Int32.ofInt (49 : Int)) hx hb dX12_findHistories_142 (by decide) ?_
                            refine lv_iadd hx hb dX12_findHistories_144 (z_ci (Int32.ofInt_add ((49 : Int) * z6) (49 : Int)) ?_)
                            refine lv_iload hx hb dX12_findHistories_145 (lv_at hl 0 rfl) ?_
                            refine lv_iadd hx hb dX12_findHistories_147 (z_ci (Int32.ofInt_add (((49 : Int) * z6) + (49 : Int)) z34) ?_)
                            have hc := ck_c hf
                            replace hf := ck_r hf
                            refine va_iald hx hb hK hP 4 1 rfl rfl (z_ix_in hc) dX12_findHistories_148 (z_ci (z_ald w22 hc) ?_)
                            clear hc
                            refine lv_goto (tgt := 153) hx hb dX12_findHistories_149 (by decide) ?_
                            refine lv_iadd hx hb dX12_findHistories_153 (z_ci (Int32.ofInt_add (w22 (((49 : Int) * z6) + z12)) (w22 ((((49 : Int) * z6) + (49 : Int)) + z34))) ?_)
                            have hc := ck_c hf
                            replace hf := ck_r hf
                            refine zs_iast (wf := fun w39 => [(a_p0, .inr (12, [.ref a_p0_st, .ref a_p0_isKept, .int (Int32.ofInt i_p0_seats), .int (Int32.ofInt i_p0_stirs), .ref a_p0_brings, .ref a_p0_need, .ref a_p0_draft, .int (Int32.ofInt i_p0_dSeats), .int (Int32.ofInt i_p0_dStirs), .ref a_p0_dStir, .ref a_p0_dNeed, .int (Int32.ofInt i_p0_told), .int (Int32.ofInt i_p0_highest), .ref a_p0_tape, .int (Int32.ofInt i_p0_taped), .int (Int32.ofInt i_p0_pos), .int (Int32.ofInt i_p0_from), .int (Int32.ofInt i_p0_sort), .int (Int32.ofInt i_p0_value), .int (Int32.ofInt i_p0_fault), .int (Int32.ofInt i_p0_wrongAt), .ref a_p0_places, .ref a_p0_stirred, .ref a_p0_ways, .ref a_p0_waysThen, .ref a_p0_stays, .ref a_p0_fewest, .ref a_p0_bowls, .ref a_p0_has, .ref a_p0_goesOn, .ref a_p0_isThere, .ref a_p0_isThereThen, .ref a_p0_bestRow, .ref a_p0_lanes, .ref a_p0_sizes, .ref a_p0_cells, .int (Int32.ofInt i_p0_torn)])), (a_p0_st, .inl (G 1, 152, .inl (zA v_p0_st))), (a_p0_brings, .inl (G 1, 35, .inl (zA v_p0_brings))), (a_p0_places, .inl (G 1, 7, .inl (zA w33))), (a_p0_goesOn, .inl (G 1, 343, .inl (zA w39)))]) hx hb hK hP hD hS 4 1 rfl rfl hc dX12_findHistories_154 (fun _ => rfl) (fun w39 ez H locs hP hD hS => ?_)
                            replace hf := bnd_s hf ez
                            clear ez hc
                            obtain ⟨z40, ez⟩ : ∃ y : Int, y = (z20 + (1 : Int)) := ⟨_, rfl⟩
                            replace hf := bnd_s hf ez
                            refine lv_iinc (v := Int32.ofInt z40) (lv' := [(4, .int (Int32.ofInt z40)), (5, .int (Int32.ofInt z34)), (3, .int (Int32.ofInt z12)), (2, .int (Int32.ofInt z6)), (0, .ref a_p0)]) hx hb dX12_findHistories_155 hl (k := 1) rfl (by rw [ez]; exact (Int32.ofInt_add _ _).symm) (by decide) rfl (fun ls hl => ?_)
                            clear ez
                            refine lv_goto (tgt := 65) hx hb dX12_findHistories_158 (by decide) ?_
                            exact ih65 _ _ _ _ _ _ (lv_sub hl [0, 2, 3, 4] rfl) hP hD hS hf
                exact hB23 _ _ _ _ _ _ _ (lv_sub hl [0, 1, 2, 3] rfl) hP hD hS hf
          exact hB15 _ _ _ _ _ _ _ (lv_sub hl [0, 1, 2] rfl) hP hD hS hf
    exact hB9 _ _ _ _ _ _ _ (lv_sub hl [0, 2] rfl) hP hD hS hf
  have hq := lq2_i hf
  clear hf
  obtain ⟨B43, eB43, NB43, hf⟩ := hq
  have hB43 : ∀ (n : Nat) (z41 : Int) (w42 : (Int → Int)) (ls : Array Slot) (H : Heap) (locs : List Loc), lv_has ls 6 [(2, .int (Int32.ofInt z41)), (1, .int (Int32.ofInt z1)), (0, .ref a_p0)] → va_P D vwCl [(a_p0, .inr (12, [.ref a_p0_st, .ref a_p0_isKept, .int (Int32.ofInt i_p0_seats), .int (Int32.ofInt i_p0_stirs), .ref a_p0_brings, .ref a_p0_need, .ref a_p0_draft, .int (Int32.ofInt i_p0_dSeats), .int (Int32.ofInt i_p0_dStirs), .ref a_p0_dStir, .ref a_p0_dNeed, .int (Int32.ofInt i_p0_told), .int (Int32.ofInt i_p0_highest), .ref a_p0_tape, .int (Int32.ofInt i_p0_taped), .int (Int32.ofInt i_p0_pos), .int (Int32.ofInt i_p0_from), .int (Int32.ofInt i_p0_sort), .int (Int32.ofInt i_p0_value), .int (Int32.ofInt i_p0_fault), .int (Int32.ofInt i_p0_wrongAt), .ref a_p0_places, .ref a_p0_stirred, .ref a_p0_ways, .ref a_p0_waysThen, .ref a_p0_stays, .ref a_p0_fewest, .ref a_p0_bowls, .ref a_p0_has, .ref a_p0_goesOn, .ref a_p0_isThere, .ref a_p0_isThereThen, .ref a_p0_bestRow, .ref a_p0_lanes, .ref a_p0_sizes, .ref a_p0_cells, .int (Int32.ofInt i_p0_torn)])), (a_p0_st, .inl (G 1, 152, .inl (zA v_p0_st))), (a_p0_brings, .inl (G 1, 35, .inl (zA v_p0_brings))), (a_p0_places, .inl (G 1, 7, .inl (zA v_p0_places))), (a_p0_goesOn, .inl (G 1, 343, .inl (zA w42)))] H → va_D A [(a_p0, .inr (12, [.ref a_p0_st, .ref a_p0_isKept, .int (Int32.ofInt i_p0_seats), .int (Int32.ofInt i_p0_stirs), .ref a_p0_brings, .ref a_p0_need, .ref a_p0_draft, .int (Int32.ofInt i_p0_dSeats), .int (Int32.ofInt i_p0_dStirs), .ref a_p0_dStir, .ref a_p0_dNeed, .int (Int32.ofInt i_p0_told), .int (Int32.ofInt i_p0_highest), .ref a_p0_tape, .int (Int32.ofInt i_p0_taped), .int (Int32.ofInt i_p0_pos), .int (Int32.ofInt i_p0_from), .int (Int32.ofInt i_p0_sort), .int (Int32.ofInt i_p0_value), .int (Int32.ofInt i_p0_fault), .int (Int32.ofInt i_p0_wrongAt), .ref a_p0_places, .ref a_p0_stirred, .ref a_p0_ways, .ref a_p0_waysThen, .ref a_p0_stays, .ref a_p0_fewest, .ref a_p0_bowls, .ref a_p0_has, .ref a_p0_goesOn, .ref a_p0_isThere, .ref a_p0_isThereThen, .ref a_p0_bestRow, .ref a_p0_lanes, .ref a_p0_sizes, .ref a_p0_cells, .int (Int32.ofInt i_p0_torn)])), (a_p0_st, .inl (G 1, 152, .inl (zA v_p0_st))), (a_p0_brings, .inl (G 1, 35, .inl (zA v_p0_brings))), (a_p0_places, .inl (G 1, 7, .inl (zA v_p0_places))), (a_p0_goesOn, .inl (G 1, 343, .inl (zA w42)))] → va_S A s.heap H locs → lq2 B43 n z41 w42 = some (o_v_p0_places, o_v_p0_goesOn) → W p l e rm_X12_findHistories s m ([.ref a_p0] : List Value).toArray below meth c H locs 0 0 Q (F0 m 10 ls []) := by
    clear hf hl hP hD hS
    intro n
    induction n with
    | zero =>
      intro z41 w42 ls H locs hl hP hD hS hf
      exact (lq2_0 hf).elim
    | succ n ih10 =>
      intro z41 w42 ls H locs hl hP hD hS hf
      replace hf := lq2_s eB43 hf
      unfold B_X12_findHistories_10 at hf
      refine lv_iload_n hx hb dX12_findHistories_10 rfl (lv_at hl 0 rfl) ?_
      refine lv_bipush (v := Int32.ofInt (49 : Int)) hx hb dX12_findHistories_11 (by decide) ?_
      have hr43 := ck_c hf
      replace hf := ck_r hf
      refine lv_icmp_ge (tgt := 34) hx hb dX12_findHistories_13 (by decide) (fun cc => ?_) (fun cc => ?_)
      ·
        replace hf := ite_t ((z_le (by decide) hr43).mp cc) hf
        clear cc
        exact hJ4 _ _ _ _ (lv_sub hl [1, 2] rfl) hP hD hS hf
      ·
        replace hf := ite_f (fun h9 => cc ((z_le (by decide) hr43).mpr h9)) hf
        clear cc
        refine lv_aload_n hx hb dX12_findHistories_16 rfl (lv_at hl 2 rfl) ?_
        refine va_get (D := D) (ci := 12) (v := .ref a_p0_goesOn) (C := RX12) (T := TX12) (N := 37) hx hb hts inX12_findHistories_X12 hown hK hP 0 rfl rfl 29 (by decide) (hts _ mwX12_findHistories_2) (fun _ h9 => h9) rfl dX12_findHistories_17 ?_
        refine lv_bipush (v := Int32.ofInt (49 : Int)) hx hb dX12_findHistories_20 (by decide) ?_
        refine lv_iload_n hx hb dX12_findHistories_22 rfl (lv_at hl 1 rfl) ?_
        refine lv_imul hx hb dX12_findHistories_23 (z_ci (Int32.ofInt_mul (49 : Int) z1) ?_)
        refine lv_iload_n hx hb dX12_findHistories_24 rfl (lv_at hl 0 rfl) ?_
        refine lv_iadd hx hb dX12_findHistories_25 (z_ci (Int32.ofInt_add ((49 : Int) * z1) z41) ?_)
        refine lv_iconst (v := Int32.ofInt (1 : Int)) hx hb dX12_findHistories_26 (by decide) ?_
        have hc := ck_c hf
        replace hf := ck_r hf
        refine zs_iast (wf := fun w45 => [(a_p0, .inr (12, [.ref a_p0_st, .ref a_p0_isKept, .int (Int32.ofInt i_p0_seats), .int (Int32.ofInt i_p0_stirs), .ref a_p0_brings, .ref a_p0_need, .ref a_p0_draft, .int (Int32.ofInt i_p0_dSeats), .int (Int32.ofInt i_p0_dStirs), .ref a_p0_dStir, .ref a_p0_dNeed, .int (Int32.ofInt i_p0_told), .int (Int32.ofInt i_p0_highest), .ref a_p0_tape, .int (Int32.ofInt i_p0_taped), .int (Int32.ofInt i_p0_pos), .int (Int32.ofInt i_p0_from), .int (Int32.ofInt i_p0_sort), .int (Int32.ofInt i_p0_value), .int (Int32.ofInt i_p0_fault), .int (Int32.ofInt i_p0_wrongAt), .ref a_p0_places, .ref a_p0_stirred, .ref a_p0_ways, .ref a_p0_waysThen, .ref a_p0_stays, .ref a_p0_fewest, .ref a_p0_bowls, .ref a_p0_has, .ref a_p0_goesOn, .ref a_p0_isThere, .ref a_p0_isThereThen, .ref a_p0_bestRow, .ref a_p0_lanes, .ref a_p0_sizes, .ref a_p0_cells, .int (Int32.ofInt i_p0_torn)])), (a_p0_st, .inl (G 1, 152, .inl (zA v_p0_st))), (a_p0_brings, .inl (G 1, 35, .inl (zA v_p0_brings))), (a_p0_places, .inl (G 1, 7, .inl (zA v_p0_places))), (a_p0_goesOn, .inl (G 1, 343, .inl (zA w45)))]) hx hb hK hP hD hS 4 1 rfl rfl hc dX12_findHistories_27 (fun _ => rfl) (fun w45 ez H locs hP hD hS => ?_)
        replace hf := bnd_s hf ez
        clear ez hc
        obtain ⟨z46, ez⟩ : ∃ y : Int, y = (z41 + (1 : Int)) := ⟨_, rfl⟩
        replace hf := bnd_s hf ez
        refine lv_iinc (v := Int32.ofInt z46) (lv' := [(2, .int (Int32.ofInt z46)), (1, .int (Int32.ofInt z1)), (0, .ref a_p0)]) hx hb dX12_findHistories_28 hl (k := 0) rfl (by rw [ez]; exact (Int32.ofInt_add _ _).symm) (by decide) rfl (fun ls hl => ?_)
        clear ez
        refine lv_goto (tgt := 10) hx hb dX12_findHistories_31 (by decide) ?_
        exact ih10 _ _ _ _ _ (lv_sub hl [0, 1, 2] rfl) hP hD hS hf
  exact hB43 _ _ _ _ _ _ (lv_sub hl [0, 1, 2] rfl) hP hD hS hf

noncomputable def f_X12_canGo (i_p0_seats : Int) (v_p0_st : (Int → Int)) (v_p0_brings : (Int → Int)) (v_p0_places : (Int → Int)) (v_p0_goesOn : (Int → Int)) (x1 : Int) (x2 : Int) (x3 : Int) : Option (Int × (Int → Int)) := (bd2 (f_X12_then i_p0_seats v_p0_st v_p0_brings v_p0_places x2 x3) (fun (z1 : Int) (w2 : (Int → Int)) => (bnd z1 (fun (z3 : Int) => (ck (z_dv z3 (7 : Int)) (ck (z_ix ((32 : Int) + x1) 152) (ck (z_r32 (z3 % (7 : Int))) (ck (z_r32 (v_p0_st ((32 : Int) + x1))) (if (z3 % (7 : Int)) = (v_p0_st ((32 : Int) + x1)) then (ck (z_ix ((((49 : Int) * x1) + (49 : Int)) + z3) 343) (ck (z_r32 (v_p0_goesOn ((((49 : Int) * x1) + (49 : Int)) + z3))) (if (v_p0_goesOn ((((49 : Int) * x1) + (49 : Int)) + z3)) ≤ (0 : Int) then (some ((0 : Int), w2)) else (some ((1 : Int), w2))))) else (some ((0 : Int), w2)))))))))))
abbrev rm_X12_canGo : Room := { frames := 4, cells := 0, slots := 0, locals := 92 }
theorem inX12_canGo_X12 : ∀ w ∈ wsX120, w ∈ wsX12_canGo := by first | exact fun w h => List.mem_cons_of_mem _ (List.mem_append_right _ h) | decide +kernel
theorem mwX12_canGo_1 : Cond.fieldLink RX12 7 "LadleKingsModel" "st" "[I" ∈ wsX12_canGo := by first | exact List.mem_of_getElem? (i := 1) rfl | decide +kernel
theorem mwX12_canGo_2 : Cond.fieldLink RX12 60 "LadleKingsModel" "goesOn" "[I" ∈ wsX12_canGo := by first | exact List.mem_of_getElem? (i := 2) rfl | decide +kernel
set_option maxHeartbeats 8000000 in
set_option maxRecDepth 100000 in
theorem c_X12_canGo (l : Launch) (D : va_G) (G : Nat → ClassId) (sz : Nat) (a_p0 : Nat) (a_p0_st : Nat) (a_p0_isKept : Nat) (a_p0_brings : Nat) (a_p0_need : Nat) (a_p0_draft : Nat) (a_p0_dStir : Nat) (a_p0_dNeed : Nat) (a_p0_tape : Nat) (a_p0_places : Nat) (a_p0_stirred : Nat) (a_p0_ways : Nat) (a_p0_waysThen : Nat) (a_p0_stays : Nat) (a_p0_fewest : Nat) (a_p0_bowls : Nat) (a_p0_has : Nat) (a_p0_goesOn : Nat) (a_p0_isThere : Nat) (a_p0_isThereThen : Nat) (a_p0_bestRow : Nat) (a_p0_lanes : Nat) (a_p0_sizes : Nat) (a_p0_cells : Nat) (i_p0_seats : Int) (i_p0_stirs : Int) (i_p0_dSeats : Int) (i_p0_dStirs : Int) (i_p0_told : Int) (i_p0_highest : Int) (i_p0_taped : Int) (i_p0_pos : Int) (i_p0_from : Int) (i_p0_sort : Int) (i_p0_value : Int) (i_p0_fault : Int) (i_p0_wrongAt : Int) (i_p0_torn : Int) (v_p0_st : (Int → Int)) (v_p0_brings : (Int → Int)) (v_p0_places : (Int → Int)) (v_p0_goesOn : (Int → Int)) (x1 : Int) (x2 : Int) (x3 : Int) (r : Int) (o_v_p0_places : (Int → Int)) (hf : f_X12_canGo i_p0_seats v_p0_st v_p0_brings v_p0_places v_p0_goesOn x1 x2 x3 = some (r, o_v_p0_places)) : Met l yX12_canGo wsX12_canGo rm_X12_canGo (pcG D G [.ref a_p0, .int (Int32.ofInt x1), .int (Int32.ofInt x2), .int (Int32.ofInt x3)] sz [(a_p0, .inr (12, [.ref a_p0_st, .ref a_p0_isKept, .int (Int32.ofInt i_p0_seats), .int (Int32.ofInt i_p0_stirs), .ref a_p0_brings, .ref a_p0_need, .ref a_p0_draft, .int (Int32.ofInt i_p0_dSeats), .int (Int32.ofInt i_p0_dStirs), .ref a_p0_dStir, .ref a_p0_dNeed, .int (Int32.ofInt i_p0_told), .int (Int32.ofInt i_p0_highest), .ref a_p0_tape, .int (Int32.ofInt i_p0_taped), .int (Int32.ofInt i_p0_pos), .int (Int32.ofInt i_p0_from), .int (Int32.ofInt i_p0_sort), .int (Int32.ofInt i_p0_value), .int (Int32.ofInt i_p0_fault), .int (Int32.ofInt i_p0_wrongAt), .ref a_p0_places, .ref a_p0_stirred, .ref a_p0_ways, .ref a_p0_waysThen, .ref a_p0_stays, .ref a_p0_fewest, .ref a_p0_bowls, .ref a_p0_has, .ref a_p0_goesOn, .ref a_p0_isThere, .ref a_p0_isThereThen, .ref a_p0_bestRow, .ref a_p0_lanes, .ref a_p0_sizes, .ref a_p0_cells, .int (Int32.ofInt i_p0_torn)])), (a_p0_st, .inl (G 1, 152, .inl (zA v_p0_st))), (a_p0_brings, .inl (G 1, 35, .inl (zA v_p0_brings))), (a_p0_places, .inl (G 1, 7, .inl (zA v_p0_places))), (a_p0_goesOn, .inl (G 1, 343, .inl (zA v_p0_goesOn)))]) (qcI D G (Int32.ofInt r) [(a_p0, .inr (12, [.ref a_p0_st, .ref a_p0_isKept, .int (Int32.ofInt i_p0_seats), .int (Int32.ofInt i_p0_stirs), .ref a_p0_brings, .ref a_p0_need, .ref a_p0_draft, .int (Int32.ofInt i_p0_dSeats), .int (Int32.ofInt i_p0_dStirs), .ref a_p0_dStir, .ref a_p0_dNeed, .int (Int32.ofInt i_p0_told), .int (Int32.ofInt i_p0_highest), .ref a_p0_tape, .int (Int32.ofInt i_p0_taped), .int (Int32.ofInt i_p0_pos), .int (Int32.ofInt i_p0_from), .int (Int32.ofInt i_p0_sort), .int (Int32.ofInt i_p0_value), .int (Int32.ofInt i_p0_fault), .int (Int32.ofInt i_p0_wrongAt), .ref a_p0_places, .ref a_p0_stirred, .ref a_p0_ways, .ref a_p0_waysThen, .ref a_p0_stays, .ref a_p0_fewest, .ref a_p0_bowls, .ref a_p0_has, .ref a_p0_goesOn, .ref a_p0_isThere, .ref a_p0_isThereThen, .ref a_p0_bestRow, .ref a_p0_lanes, .ref a_p0_sizes, .ref a_p0_cells, .int (Int32.ofInt i_p0_torn)])), (a_p0_st, .inl (G 1, 152, .inl (zA v_p0_st))), (a_p0_brings, .inl (G 1, 35, .inl (zA v_p0_brings))), (a_p0_places, .inl (G 1, 7, .inl (zA o_v_p0_places))), (a_p0_goesOn, .inl (G 1, 343, .inl (zA v_p0_goesOn)))] (va_A [(a_p0, .inr (12, [.ref a_p0_st, .ref a_p0_isKept, .int (Int32.ofInt i_p0_seats), .int (Int32.ofInt i_p0_stirs), .ref a_p0_brings, .ref a_p0_need, .ref a_p0_draft, .int (Int32.ofInt i_p0_dSeats), .int (Int32.ofInt i_p0_dStirs), .ref a_p0_dStir, .ref a_p0_dNeed, .int (Int32.ofInt i_p0_told), .int (Int32.ofInt i_p0_highest), .ref a_p0_tape, .int (Int32.ofInt i_p0_taped), .int (Int32.ofInt i_p0_pos), .int (Int32.ofInt i_p0_from), .int (Int32.ofInt i_p0_sort), .int (Int32.ofInt i_p0_value), .int (Int32.ofInt i_p0_fault), .int (Int32.ofInt i_p0_wrongAt), .ref a_p0_places, .ref a_p0_stirred, .ref a_p0_ways, .ref a_p0_waysThen, .ref a_p0_stays, .ref a_p0_fewest, .ref a_p0_bowls, .ref a_p0_has, .ref a_p0_goesOn, .ref a_p0_isThere, .ref a_p0_isThereThen, .ref a_p0_bestRow, .ref a_p0_lanes, .ref a_p0_sizes, .ref a_p0_cells, .int (Int32.ofInt i_p0_torn)])), (a_p0_st, .inl (G 1, 152, .inl (zA v_p0_st))), (a_p0_brings, .inl (G 1, 35, .inl (zA v_p0_brings))), (a_p0_places, .inl (G 1, 7, .inl (zA v_p0_places))), (a_p0_goesOn, .inl (G 1, 343, .inl (zA v_p0_goesOn)))] sz)) 0 0 (va_A [(a_p0, .inr (12, [.ref a_p0_st, .ref a_p0_isKept, .int (Int32.ofInt i_p0_seats), .int (Int32.ofInt i_p0_stirs), .ref a_p0_brings, .ref a_p0_need, .ref a_p0_draft, .int (Int32.ofInt i_p0_dSeats), .int (Int32.ofInt i_p0_dStirs), .ref a_p0_dStir, .ref a_p0_dNeed, .int (Int32.ofInt i_p0_told), .int (Int32.ofInt i_p0_highest), .ref a_p0_tape, .int (Int32.ofInt i_p0_taped), .int (Int32.ofInt i_p0_pos), .int (Int32.ofInt i_p0_from), .int (Int32.ofInt i_p0_sort), .int (Int32.ofInt i_p0_value), .int (Int32.ofInt i_p0_fault), .int (Int32.ofInt i_p0_wrongAt), .ref a_p0_places, .ref a_p0_stirred, .ref a_p0_ways, .ref a_p0_waysThen, .ref a_p0_stays, .ref a_p0_fewest, .ref a_p0_bowls, .ref a_p0_has, .ref a_p0_goesOn, .ref a_p0_isThere, .ref a_p0_isThereThen, .ref a_p0_bestRow, .ref a_p0_lanes, .ref a_p0_sizes, .ref a_p0_cells, .int (Int32.ofInt i_p0_torn)])), (a_p0_st, .inl (G 1, 152, .inl (zA v_p0_st))), (a_p0_brings, .inl (G 1, 35, .inl (zA v_p0_brings))), (a_p0_places, .inl (G 1, 7, .inl (zA v_p0_places))), (a_p0_goesOn, .inl (G 1, 343, .inl (zA v_p0_goesOn)))] sz) := by
  refine Met.ofW (cc := cX12_canGo) (maxL := 5) (ret := (some .boolean)) (by decide) rfl ?_
  intro p e s m args below meth c s₁ B hml hv
  obtain ⟨rfl, hsz, hP, hK, hD0⟩ := hv
  have hx := B.exec
  have hb := B.bytes
  have hr := B.returns
  have hts := atoms_spec (ws := wsX12_canGo) B.pre
  have hown : s.vm.findClass RX12 = some m.cls := findClass_of_methodNamed B.named
  have hlocks := B.notSynchronized
  subst hsz
  have hD := hD0.self (sz := s.heap.size)
  generalize hAe : va_A [(a_p0, .inr (12, [.ref a_p0_st, .ref a_p0_isKept, .int (Int32.ofInt i_p0_seats), .int (Int32.ofInt i_p0_stirs), .ref a_p0_brings, .ref a_p0_need, .ref a_p0_draft, .int (Int32.ofInt i_p0_dSeats), .int (Int32.ofInt i_p0_dStirs), .ref a_p0_dStir, .ref a_p0_dNeed, .int (Int32.ofInt i_p0_told), .int (Int32.ofInt i_p0_highest), .ref a_p0_tape, .int (Int32.ofInt i_p0_taped), .int (Int32.ofInt i_p0_pos), .int (Int32.ofInt i_p0_from), .int (Int32.ofInt i_p0_sort), .int (Int32.ofInt i_p0_value), .int (Int32.ofInt i_p0_fault), .int (Int32.ofInt i_p0_wrongAt), .ref a_p0_places, .ref a_p0_stirred, .ref a_p0_ways, .ref a_p0_waysThen, .ref a_p0_stays, .ref a_p0_fewest, .ref a_p0_bowls, .ref a_p0_has, .ref a_p0_goesOn, .ref a_p0_isThere, .ref a_p0_isThereThen, .ref a_p0_bestRow, .ref a_p0_lanes, .ref a_p0_sizes, .ref a_p0_cells, .int (Int32.ofInt i_p0_torn)])), (a_p0_st, .inl (G 1, 152, .inl (zA v_p0_st))), (a_p0_brings, .inl (G 1, 35, .inl (zA v_p0_brings))), (a_p0_places, .inl (G 1, 7, .inl (zA v_p0_places))), (a_p0_goesOn, .inl (G 1, 343, .inl (zA v_p0_goesOn)))] s.heap.size = A at hD ⊢
  have hA : ∀ q : Nat, s.heap.size ≤ q → A q := fun q h => by rw [← hAe]; exact Or.inr h
  clear hAe hD0
  have hS : va_S A s.heap s.heap [] := va_S.rf
  have hl := lv_entry ([.ref a_p0, .int (Int32.ofInt x1), .int (Int32.ofInt x2), .int (Int32.ofInt x3)]) (n := 5) (Nat.le_of_ble_eq_true rfl)
  rw [lg_entry_eq]
  generalize (lg_sl ([.ref a_p0, .int (Int32.ofInt x1), .int (Int32.ofInt x2), .int (Int32.ofInt x3)]) ++ List.replicate (5 - (lg_sl ([.ref a_p0, .int (Int32.ofInt x1), .int (Int32.ofInt x2), .int (Int32.ofInt x3)])).length) Slot.unset).toArray = ls at hl ⊢
  have hl : lv_has ls 5 [(0, .ref a_p0), (1, .int (Int32.ofInt x1)), (2, .int (Int32.ofInt x2)), (3, .int (Int32.ofInt x3))] := hl
  refine W_nameQ (fun Q hQ => ?_)
  obtain ⟨H, hH⟩ : ∃ H, H = s.heap := ⟨_, rfl⟩
  replace hS : va_S A s.heap H [] := by rw [hH]; exact hS
  replace hP : va_P D vwCl [(a_p0, .inr (12, [.ref a_p0_st, .ref a_p0_isKept, .int (Int32.ofInt i_p0_seats), .int (Int32.ofInt i_p0_stirs), .ref a_p0_brings, .ref a_p0_need, .ref a_p0_draft, .int (Int32.ofInt i_p0_dSeats), .int (Int32.ofInt i_p0_dStirs), .ref a_p0_dStir, .ref a_p0_dNeed, .int (Int32.ofInt i_p0_told), .int (Int32.ofInt i_p0_highest), .ref a_p0_tape, .int (Int32.ofInt i_p0_taped), .int (Int32.ofInt i_p0_pos), .int (Int32.ofInt i_p0_from), .int (Int32.ofInt i_p0_sort), .int (Int32.ofInt i_p0_value), .int (Int32.ofInt i_p0_fault), .int (Int32.ofInt i_p0_wrongAt), .ref a_p0_places, .ref a_p0_stirred, .ref a_p0_ways, .ref a_p0_waysThen, .ref a_p0_stays, .ref a_p0_fewest, .ref a_p0_bowls, .ref a_p0_has, .ref a_p0_goesOn, .ref a_p0_isThere, .ref a_p0_isThereThen, .ref a_p0_bestRow, .ref a_p0_lanes, .ref a_p0_sizes, .ref a_p0_cells, .int (Int32.ofInt i_p0_torn)])), (a_p0_st, .inl (G 1, 152, .inl (zA v_p0_st))), (a_p0_brings, .inl (G 1, 35, .inl (zA v_p0_brings))), (a_p0_places, .inl (G 1, 7, .inl (zA v_p0_places))), (a_p0_goesOn, .inl (G 1, 343, .inl (zA v_p0_goesOn)))] H := by rw [hH]; exact hP
  rw [← hH]
  clear hH
  unfold f_X12_canGo at hf
  refine lv_aload_n hx hb dX12_canGo_0 rfl (lv_at hl 0 rfl) ?_
  refine lv_iload_n hx hb dX12_canGo_1 rfl (lv_at hl 2 rfl) ?_
  refine lv_iload_n hx hb dX12_canGo_2 rfl (lv_at hl 3 rfl) ?_
  have hq := bd2_s hf
  clear hf
  obtain ⟨z1, w2, hcall, hf⟩ := hq
  refine gsI (ws' := [(a_p0, .inr (12, [.ref a_p0_st, .ref a_p0_isKept, .int (Int32.ofInt i_p0_seats), .int (Int32.ofInt i_p0_stirs), .ref a_p0_brings, .ref a_p0_need, .ref a_p0_draft, .int (Int32.ofInt i_p0_dSeats), .int (Int32.ofInt i_p0_dStirs), .ref a_p0_dStir, .ref a_p0_dNeed, .int (Int32.ofInt i_p0_told), .int (Int32.ofInt i_p0_highest), .ref a_p0_tape, .int (Int32.ofInt i_p0_taped), .int (Int32.ofInt i_p0_pos), .int (Int32.ofInt i_p0_from), .int (Int32.ofInt i_p0_sort), .int (Int32.ofInt i_p0_value), .int (Int32.ofInt i_p0_fault), .int (Int32.ofInt i_p0_wrongAt), .ref a_p0_places, .ref a_p0_stirred, .ref a_p0_ways, .ref a_p0_waysThen, .ref a_p0_stays, .ref a_p0_fewest, .ref a_p0_bowls, .ref a_p0_has, .ref a_p0_goesOn, .ref a_p0_isThere, .ref a_p0_isThereThen, .ref a_p0_bestRow, .ref a_p0_lanes, .ref a_p0_sizes, .ref a_p0_cells, .int (Int32.ofInt i_p0_torn)])), (a_p0_st, .inl (G 1, 152, .inl (zA v_p0_st))), (a_p0_brings, .inl (G 1, 35, .inl (zA v_p0_brings))), (a_p0_places, .inl (G 1, 7, .inl (zA w2))), (a_p0_goesOn, .inl (G 1, 343, .inl (zA v_p0_goesOn)))]) (va_runV (As := [.int (Int32.ofInt x2), .int (Int32.ofInt x3)]) (rest := []) ⟨hx, hb, hml, hown, hts⟩ (c_X12_then (l := l) (D := D) (G := G) (sz := H.size) (a_p0 := a_p0) (a_p0_st := a_p0_st) (a_p0_isKept := a_p0_isKept) (a_p0_brings := a_p0_brings) (a_p0_need := a_p0_need) (a_p0_draft := a_p0_draft) (a_p0_dStir := a_p0_dStir) (a_p0_dNeed := a_p0_dNeed) (a_p0_tape := a_p0_tape) (a_p0_places := a_p0_places) (a_p0_stirred := a_p0_stirred) (a_p0_ways := a_p0_ways) (a_p0_waysThen := a_p0_waysThen) (a_p0_stays := a_p0_stays) (a_p0_fewest := a_p0_fewest) (a_p0_bowls := a_p0_bowls) (a_p0_has := a_p0_has) (a_p0_goesOn := a_p0_goesOn) (a_p0_isThere := a_p0_isThere) (a_p0_isThereThen := a_p0_isThereThen) (a_p0_bestRow := a_p0_bestRow) (a_p0_lanes := a_p0_lanes) (a_p0_sizes := a_p0_sizes) (a_p0_cells := a_p0_cells) (i_p0_seats := i_p0_seats) (i_p0_stirs := i_p0_stirs) (i_p0_dSeats := i_p0_dSeats) (i_p0_dStirs := i_p0_dStirs) (i_p0_told := i_p0_told) (i_p0_highest := i_p0_highest) (i_p0_taped := i_p0_taped) (i_p0_pos := i_p0_pos) (i_p0_from := i_p0_from) (i_p0_sort := i_p0_sort) (i_p0_value := i_p0_value) (i_p0_fault := i_p0_fault) (i_p0_wrongAt := i_p0_wrongAt) (i_p0_torn := i_p0_torn) (v_p0_st := v_p0_st) (v_p0_brings := v_p0_brings) (v_p0_places := v_p0_places) (x1 := x2) (x2 := x3) (r := z1) (o_v_p0_places := w2) (hf := hcall)) (cwV 2 hts gX12_canGo_X12_then rfl rfl rfl hdV_yX12_then_RX12 ⟨Nat.le_of_ble_eq_true rfl, Nat.le_of_ble_eq_true rfl⟩) (preG_V (ci := 12) (q := (RX12, TX12, 37)) (hP.sub [0, 1, 2, 3] rfl) (hD.sub [0, 1, 2, 3] rfl rfl) hK rfl rfl) rfl rfl hl.1 rfl (lv_room (Nat.le_of_ble_eq_true rfl)) dX12_canGo_3 ⟨Nat.le_of_ble_eq_true rfl, Nat.le_of_ble_eq_true rfl⟩) hP hD hS hA [0, 1, 2, 3] rfl rfl rfl (fun H locs hP hD hS => ?_)
  clear hcall
  refine z_topi (fun z3 ez => ?_)
  replace hf := bnd_s hf ez
  clear ez
  refine lv_istore (lv' := [(4, .int (Int32.ofInt z3)), (0, .ref a_p0), (1, .int (Int32.ofInt x1)), (2, .int (Int32.ofInt x2)), (3, .int (Int32.ofInt x3))]) hx hb dX12_canGo_6 hl (by decide) rfl (fun ls hl => ?_)
  refine lv_iload hx hb dX12_canGo_8 (lv_at hl 0 rfl) ?_
  refine lv_bipush (v := Int32.ofInt (7 : Int)) hx hb dX12_canGo_10 (by decide) ?_
  have hc := ck_c hf
  replace hf := ck_r hf
  refine lv_irem hx hb dX12_canGo_12 (z_nz hc) (z_ci (z_rem hc) ?_)
  clear hc
  refine lv_aload_n hx hb dX12_canGo_13 rfl (lv_at hl 1 rfl) ?_
  refine va_get (D := D) (ci := 12) (v := .ref a_p0_st) (C := RX12) (T := TX12) (N := 37) hx hb hts inX12_canGo_X12 hown hK hP 0 rfl rfl 0 (by decide) (hts _ mwX12_canGo_1) (fun _ h9 => h9) rfl dX12_canGo_14 ?_
  refine lv_bipush (v := Int32.ofInt (32 : Int)) hx hb dX12_canGo_17 (by decide) ?_
  refine lv_iload_n hx hb dX12_canGo_19 rfl (lv_at hl 2 rfl) ?_
  refine lv_iadd hx hb dX12_canGo_20 (z_ci (Int32.ofInt_add (32 : Int) x1) ?_)
  have hc := ck_c hf
  replace hf := ck_r hf
  refine va_iald hx hb hK hP 1 1 rfl rfl (z_ix_in hc) dX12_canGo_21 (z_ci (z_ald v_p0_st hc) ?_)
  clear hc
  have hr3 := ck_c hf
  replace hf := ck_r hf
  have hr4 := ck_c hf
  replace hf := ck_r hf
  refine lv_icmp_ne (tgt := 47) hx hb dX12_canGo_22 (by decide) (fun cc => ?_) (fun cc => ?_)
  ·
    replace hf := ite_f (fun h9 => cc ((z_eq hr3 hr4).mpr h9)) hf
    clear cc
    refine lv_iconst (v := Int32.ofInt (0 : Int)) hx hb dX12_canGo_47 (by decide) ?_
    obtain ⟨rfl, rfl⟩ := ou2 hf
    rw [hQ]
    exact W.zret hx hb hr rfl (fun t ht hW => ⟨⟨_, (), rfl, rfl, by rw [ht]; exact hP, va_K.moved hW.alike hK, hD⟩, hS.F ht⟩) hS.2.2 dX12_canGo_48
  ·
    replace hf := ite_t ((z_eq hr3 hr4).mp cc) hf
    clear cc
    refine lv_aload_n hx hb dX12_canGo_25 rfl (lv_at hl 1 rfl) ?_
    refine va_get (D := D) (ci := 12) (v := .ref a_p0_goesOn) (C := RX12) (T := TX12) (N := 37) hx hb hts inX12_canGo_X12 hown hK hP 0 rfl rfl 29 (by decide) (hts _ mwX12_canGo_2) (fun _ h9 => h9) rfl dX12_canGo_26 ?_
    refine lv_bipush (v := Int32.ofInt (49 : Int)) hx hb dX12_canGo_29 (by decide) ?_
    refine lv_iload_n hx hb dX12_canGo_31 rfl (lv_at hl 2 rfl) ?_
    refine lv_imul hx hb dX12_canGo_32 (z_ci (Int32.ofInt_mul (49 : Int) x1) ?_)
    refine lv_bipush (v := Int32.ofInt (49 : Int)) hx hb dX12_canGo_33 (by decide) ?_
    refine lv_iadd hx hb dX12_canGo_35 (z_ci (Int32.ofInt_add ((49 : Int) * x1) (49 : Int)) ?_)
    refine lv_iload hx hb dX12_canGo_36 (lv_at hl 0 rfl) ?_
    refine lv_iadd hx hb dX12_canGo_38 (z_ci (Int32.ofInt_add (((49 : Int) * x1) + (49 : Int)) z3) ?_)
    have hc := ck_c hf
    replace hf := ck_r hf
    refine va_iald hx hb hK hP 4 1 rfl rfl (z_ix_in hc) dX12_canGo_39 (z_ci (z_ald v_p0_goesOn hc) ?_)
    clear hc
    have hr5 := ck_c hf
    replace hf := ck_r hf
    refine lv_if_le (tgt := 47) hx hb dX12_canGo_40 (by decide) (fun cc => ?_) (fun cc => ?_)
    ·
      replace hf := ite_t ((z_le0 hr5).mp cc) hf
      clear cc
      refine lv_iconst (v := Int32.ofInt (0 : Int)) hx hb dX12_canGo_47 (by decide) ?_
      obtain ⟨rfl, rfl⟩ := ou2 hf
      rw [hQ]
      exact W.zret hx hb hr rfl (fun t ht hW => ⟨⟨_, (), rfl, rfl, by rw [ht]; exact hP, va_K.moved hW.alike hK, hD⟩, hS.F ht⟩) hS.2.2 dX12_canGo_48
    ·
      replace hf := ite_f (fun h9 => cc ((z_le0 hr5).mpr h9)) hf
      clear cc
      refine lv_iconst (v := Int32.ofInt (1 : Int)) hx hb dX12_canGo_43 (by decide) ?_
      refine lv_goto (tgt := 48) hx hb dX12_canGo_44 (by decide) ?_
      obtain ⟨rfl, rfl⟩ := ou2 hf
      rw [hQ]
      exact W.zret hx hb hr rfl (fun t ht hW => ⟨⟨_, (), rfl, rfl, by rw [ht]; exact hP, va_K.moved hW.alike hK, hD⟩, hS.F ht⟩) hS.2.2 dX12_canGo_48

noncomputable def B_X12_histories_92 (J22 : Int → (Int → Int) → Option (Int × (Int → Int) × (Int → Int))) (i_p0_seats : Int) (v_p0_st : (Int → Int)) (v_p0_brings : (Int → Int)) (w4 : (Int → Int)) (z12 : Int) (z14 : Int) (again92 : Int → Int → (Int → Int) → Option (Int × (Int → Int) × (Int → Int))) (z27 : Int) (z28 : Int) (w29 : (Int → Int)) : Option (Int × (Int → Int) × (Int → Int)) := (ck (z_r32 z27) (if z27 < (0 : Int) then (J22 z28 w29) else (bd2 (f_X12_canGo i_p0_seats v_p0_st v_p0_brings w29 w4 z12 z14 z27) (fun (z32 : Int) (w33 : (Int → Int)) => (ck (z_r32 z32) (if z32 = (0 : Int) then (bnd z28 (fun (z35 : Int) => (bnd (z27 + (-1 : Int)) (fun (z36 : Int) => (again92 z36 z35 w33))))) else (bnd z27 (fun (z37 : Int) => (bnd (z27 + (-1 : Int)) (fun (z38 : Int) => (again92 z38 z37 w33)))))))))))
noncomputable def B_X12_histories_72 (x1 : Int) (w4 : (Int → Int)) (i_p0_stirs : Int) (i_p0_seats : Int) (v_p0_st : (Int → Int)) (v_p0_brings : (Int → Int)) (again72 : Int → Int → Int → (Int → Int) → Option (Int × (Int → Int) × (Int → Int))) (z12 : Int) (z13 : Int) (z14 : Int) (w15 : (Int → Int)) : Option (Int × (Int → Int) × (Int → Int)) := (ck (z_r32 z12) (if (x1 - (10 : Int)) < z12 then (some (z13, w15, w4)) else (bnd (-4 : Int) (fun (z18 : Int) => (bnd (i_p0_stirs - (1 : Int)) (fun (z19 : Int) => (jn (fun (z20 : Int) (w21 : (Int → Int)) => (bd2 (f_X12_then i_p0_seats v_p0_st v_p0_brings w21 z14 z20) (fun (z23 : Int) (w24 : (Int → Int)) => (bnd z23 (fun (z25 : Int) => (bnd (z12 + (1 : Int)) (fun (z26 : Int) => (again72 z26 z20 z25 w24)))))))) (fun (J22 : Int → (Int → Int) → Option (Int × (Int → Int) × (Int → Int))) => (lq3 (B_X12_histories_92 J22 i_p0_seats v_p0_st v_p0_brings w4 z12 z14) 1000 z19 z18 w15)))))))))
noncomputable def f_X12_histories (i_p0_seats : Int) (i_p0_stirs : Int) (v_p0_st : (Int → Int)) (v_p0_brings : (Int → Int)) (v_p0_places : (Int → Int)) (v_p0_goesOn : (Int → Int)) (x1 : Int) : Option (Int × (Int → Int) × (Int → Int)) := (ck (z_r32 x1) (jn (bd2 (f_X12_findHistories i_p0_seats i_p0_stirs v_p0_st v_p0_brings v_p0_places v_p0_goesOn) (fun (w3 : (Int → Int)) (w4 : (Int → Int)) => (bd1 (f_X12_stateNow v_p0_st) (fun (z5 : Int) => (bnd z5 (fun (z6 : Int) => (if x1 = (0 : Int) then (ck (z_ix z6 343) (some ((w4 z6), w3, w4))) else (ck (z_ix z6 343) (ck (z_r32 (w4 z6)) (if (w4 z6) = (0 : Int) then (some ((-4 : Int), w3, w4)) else (ck (z_ix (31 : Int) 152) (ck (z_r32 (x1 - (10 : Int))) (ck (z_r32 (v_p0_st (31 : Int))) (if (x1 - (10 : Int)) < (v_p0_st (31 : Int)) then (bnd (-4 : Int) (fun (z10 : Int) => (bnd (0 : Int) (fun (z11 : Int) => (lq4 (B_X12_histories_72 x1 w4 i_p0_stirs i_p0_seats v_p0_st v_p0_brings) 1000 z11 z10 z6 w3))))) else (some ((-4 : Int), w3, w4)))))))))))))))) (fun (J2 : Option (Int × (Int → Int) × (Int → Int))) => (if x1 = (0 : Int) then (J2) else (bd1 (f_X12_in x1 (10 : Int) (15 : Int)) (fun (z39 : Int) => (ck (z_r32 z39) (if z39 = (0 : Int) then (some ((-1 : Int), v_p0_places, v_p0_goesOn)) else (J2)))))))))
abbrev rm_X12_histories : Room := { frames := 5, cells := 0, slots := 0, locals := 117 }
theorem hdV_yX12_findHistories_RX12 : yX12_findHistories.cls = RX12 ∧ yX12_findHistories.cls ≠ "java/lang/invoke/MethodHandle" ∧ yX12_findHistories.cls ≠ "java/lang/invoke/VarHandle" ∧ (parseMethodDescriptor yX12_findHistories.desc).map (fun d => d.parameters.length) = some 0 := by decide +kernel
theorem inX12_histories_X12 : ∀ w ∈ wsX120, w ∈ wsX12_histories := by first | exact fun w h => List.mem_cons_of_mem _ (List.mem_append_right _ h) | decide +kernel
theorem mwX12_histories_2 : Cond.fieldLink RX12 60 "LadleKingsModel" "goesOn" "[I" ∈ wsX12_histories := by first | exact List.mem_of_getElem? (i := 3) rfl | decide +kernel
theorem mwX12_histories_3 : Cond.fieldLink RX12 7 "LadleKingsModel" "st" "[I" ∈ wsX12_histories := by first | exact List.mem_of_getElem? (i := 4) rfl | decide +kernel
theorem mwX12_histories_4 : Cond.fieldLink RX12 103 "LadleKingsModel" "stirs" "I" ∈ wsX12_histories := by first | exact List.mem_of_getElem? (i := 5) rfl | decide +kernel
theorem hdV_yX12_canGo_RX12 : yX12_canGo.cls = RX12 ∧ yX12_canGo.cls ≠ "java/lang/invoke/MethodHandle" ∧ yX12_canGo.cls ≠ "java/lang/invoke/VarHandle" ∧ (parseMethodDescriptor yX12_canGo.desc).map (fun d => d.parameters.length) = some 3 := by decide +kernel
theorem mwX12_histories_6 : Cond.constantLong RX12 236 (10) ∈ wsX12_histories := by first | exact List.mem_of_getElem? (i := 1) rfl | decide +kernel
theorem mwX12_histories_7 : Cond.constantLong RX12 288 (15) ∈ wsX12_histories := by first | exact List.mem_of_getElem? (i := 2) rfl | decide +kernel
set_option maxHeartbeats 8000000 in
set_option maxRecDepth 100000 in
theorem c_X12_histories (l : Launch) (D : va_G) (G : Nat → ClassId) (sz : Nat) (a_p0 : Nat) (a_p0_st : Nat) (a_p0_isKept : Nat) (a_p0_brings : Nat) (a_p0_need : Nat) (a_p0_draft : Nat) (a_p0_dStir : Nat) (a_p0_dNeed : Nat) (a_p0_tape : Nat) (a_p0_places : Nat) (a_p0_stirred : Nat) (a_p0_ways : Nat) (a_p0_waysThen : Nat) (a_p0_stays : Nat) (a_p0_fewest : Nat) (a_p0_bowls : Nat) (a_p0_has : Nat) (a_p0_goesOn : Nat) (a_p0_isThere : Nat) (a_p0_isThereThen : Nat) (a_p0_bestRow : Nat) (a_p0_lanes : Nat) (a_p0_sizes : Nat) (a_p0_cells : Nat) (i_p0_seats : Int) (i_p0_stirs : Int) (i_p0_dSeats : Int) (i_p0_dStirs : Int) (i_p0_told : Int) (i_p0_highest : Int) (i_p0_taped : Int) (i_p0_pos : Int) (i_p0_from : Int) (i_p0_sort : Int) (i_p0_value : Int) (i_p0_fault : Int) (i_p0_wrongAt : Int) (i_p0_torn : Int) (v_p0_st : (Int → Int)) (v_p0_brings : (Int → Int)) (v_p0_places : (Int → Int)) (v_p0_goesOn : (Int → Int)) (x1 : Int) (r : Int) (o_v_p0_places : (Int → Int)) (o_v_p0_goesOn : (Int → Int)) (hf : f_X12_histories i_p0_seats i_p0_stirs v_p0_st v_p0_brings v_p0_places v_p0_goesOn x1 = some (r, o_v_p0_places, o_v_p0_goesOn)) : Met l yX12_histories wsX12_histories rm_X12_histories (pcG D G [.ref a_p0, .int (Int32.ofInt x1)] sz [(a_p0, .inr (12, [.ref a_p0_st, .ref a_p0_isKept, .int (Int32.ofInt i_p0_seats), .int (Int32.ofInt i_p0_stirs), .ref a_p0_brings, .ref a_p0_need, .ref a_p0_draft, .int (Int32.ofInt i_p0_dSeats), .int (Int32.ofInt i_p0_dStirs), .ref a_p0_dStir, .ref a_p0_dNeed, .int (Int32.ofInt i_p0_told), .int (Int32.ofInt i_p0_highest), .ref a_p0_tape, .int (Int32.ofInt i_p0_taped), .int (Int32.ofInt i_p0_pos), .int (Int32.ofInt i_p0_from), .int (Int32.ofInt i_p0_sort), .int (Int32.ofInt i_p0_value), .int (Int32.ofInt i_p0_fault), .int (Int32.ofInt i_p0_wrongAt), .ref a_p0_places, .ref a_p0_stirred, .ref a_p0_ways, .ref a_p0_waysThen, .ref a_p0_stays, .ref a_p0_fewest, .ref a_p0_bowls, .ref a_p0_has, .ref a_p0_goesOn, .ref a_p0_isThere, .ref a_p0_isThereThen, .ref a_p0_bestRow, .ref a_p0_lanes, .ref a_p0_sizes, .ref a_p0_cells, .int (Int32.ofInt i_p0_torn)])), (a_p0_st, .inl (G 1, 152, .inl (zA v_p0_st))), (a_p0_brings, .inl (G 1, 35, .inl (zA v_p0_brings))), (a_p0_places, .inl (G 1, 7, .inl (zA v_p0_places))), (a_p0_goesOn, .inl (G 1, 343, .inl (zA v_p0_goesOn)))]) (qcI D G (Int32.ofInt r) [(a_p0, .inr (12, [.ref a_p0_st, .ref a_p0_isKept, .int (Int32.ofInt i_p0_seats), .int (Int32.ofInt i_p0_stirs), .ref a_p0_brings, .ref a_p0_need, .ref a_p0_draft, .int (Int32.ofInt i_p0_dSeats), .int (Int32.ofInt i_p0_dStirs), .ref a_p0_dStir, .ref a_p0_dNeed, .int (Int32.ofInt i_p0_told), .int (Int32.ofInt i_p0_highest), .ref a_p0_tape, .int (Int32.ofInt i_p0_taped), .int (Int32.ofInt i_p0_pos), .int (Int32.ofInt i_p0_from), .int (Int32.ofInt i_p0_sort), .int (Int32.ofInt i_p0_value), .int (Int32.ofInt i_p0_fault), .int (Int32.ofInt i_p0_wrongAt), .ref a_p0_places, .ref a_p0_stirred, .ref a_p0_ways, .ref a_p0_waysThen, .ref a_p0_stays, .ref a_p0_fewest, .ref a_p0_bowls, .ref a_p0_has, .ref a_p0_goesOn, .ref a_p0_isThere, .ref a_p0_isThereThen, .ref a_p0_bestRow, .ref a_p0_lanes, .ref a_p0_sizes, .ref a_p0_cells, .int (Int32.ofInt i_p0_torn)])), (a_p0_st, .inl (G 1, 152, .inl (zA v_p0_st))), (a_p0_brings, .inl (G 1, 35, .inl (zA v_p0_brings))), (a_p0_places, .inl (G 1, 7, .inl (zA o_v_p0_places))), (a_p0_goesOn, .inl (G 1, 343, .inl (zA o_v_p0_goesOn)))] (va_A [(a_p0, .inr (12, [.ref a_p0_st, .ref a_p0_isKept, .int (Int32.ofInt i_p0_seats), .int (Int32.ofInt i_p0_stirs), .ref a_p0_brings, .ref a_p0_need, .ref a_p0_draft, .int (Int32.ofInt i_p0_dSeats), .int (Int32.ofInt i_p0_dStirs), .ref a_p0_dStir, .ref a_p0_dNeed, .int (Int32.ofInt i_p0_told), .int (Int32.ofInt i_p0_highest), .ref a_p0_tape, .int (Int32.ofInt i_p0_taped), .int (Int32.ofInt i_p0_pos), .int (Int32.ofInt i_p0_from), .int (Int32.ofInt i_p0_sort), .int (Int32.ofInt i_p0_value), .int (Int32.ofInt i_p0_fault), .int (Int32.ofInt i_p0_wrongAt), .ref a_p0_places, .ref a_p0_stirred, .ref a_p0_ways, .ref a_p0_waysThen, .ref a_p0_stays, .ref a_p0_fewest, .ref a_p0_bowls, .ref a_p0_has, .ref a_p0_goesOn, .ref a_p0_isThere, .ref a_p0_isThereThen, .ref a_p0_bestRow, .ref a_p0_lanes, .ref a_p0_sizes, .ref a_p0_cells, .int (Int32.ofInt i_p0_torn)])), (a_p0_st, .inl (G 1, 152, .inl (zA v_p0_st))), (a_p0_brings, .inl (G 1, 35, .inl (zA v_p0_brings))), (a_p0_places, .inl (G 1, 7, .inl (zA v_p0_places))), (a_p0_goesOn, .inl (G 1, 343, .inl (zA v_p0_goesOn)))] sz)) 0 0 (va_A [(a_p0, .inr (12, [.ref a_p0_st, .ref a_p0_isKept, .int (Int32.ofInt i_p0_seats), .int (Int32.ofInt i_p0_stirs), .ref a_p0_brings, .ref a_p0_need, .ref a_p0_draft, .int (Int32.ofInt i_p0_dSeats), .int (Int32.ofInt i_p0_dStirs), .ref a_p0_dStir, .ref a_p0_dNeed, .int (Int32.ofInt i_p0_told), .int (Int32.ofInt i_p0_highest), .ref a_p0_tape, .int (Int32.ofInt i_p0_taped), .int (Int32.ofInt i_p0_pos), .int (Int32.ofInt i_p0_from), .int (Int32.ofInt i_p0_sort), .int (Int32.ofInt i_p0_value), .int (Int32.ofInt i_p0_fault), .int (Int32.ofInt i_p0_wrongAt), .ref a_p0_places, .ref a_p0_stirred, .ref a_p0_ways, .ref a_p0_waysThen, .ref a_p0_stays, .ref a_p0_fewest, .ref a_p0_bowls, .ref a_p0_has, .ref a_p0_goesOn, .ref a_p0_isThere, .ref a_p0_isThereThen, .ref a_p0_bestRow, .ref a_p0_lanes, .ref a_p0_sizes, .ref a_p0_cells, .int (Int32.ofInt i_p0_torn)])), (a_p0_st, .inl (G 1, 152, .inl (zA v_p0_st))), (a_p0_brings, .inl (G 1, 35, .inl (zA v_p0_brings))), (a_p0_places, .inl (G 1, 7, .inl (zA v_p0_places))), (a_p0_goesOn, .inl (G 1, 343, .inl (zA v_p0_goesOn)))] sz) := by
  refine Met.ofW (cc := cX12_histories) (maxL := 6) (ret := (some .int)) (by decide) rfl ?_
  intro p e s m args below meth c s₁ B hml hv
  obtain ⟨rfl, hsz, hP, hK, hD0⟩ := hv
  have hx := B.exec
  have hb := B.bytes
  have hr := B.returns
  have hts := atoms_spec (ws := wsX12_histories) B.pre
  have hown : s.vm.findClass RX12 = some m.cls := findClass_of_methodNamed B.named
  have hlocks := B.notSynchronized
  subst hsz
  have hD := hD0.self (sz := s.heap.size)
  generalize hAe : va_A [(a_p0, .inr (12, [.ref a_p0_st, .ref a_p0_isKept, .int (Int32.ofInt i_p0_seats), .int (Int32.ofInt i_p0_stirs), .ref a_p0_brings, .ref a_p0_need, .ref a_p0_draft, .int (Int32.ofInt i_p0_dSeats), .int (Int32.ofInt i_p0_dStirs), .ref a_p0_dStir, .ref a_p0_dNeed, .int (Int32.ofInt i_p0_told), .int (Int32.ofInt i_p0_highest), .ref a_p0_tape, .int (Int32.ofInt i_p0_taped), .int (Int32.ofInt i_p0_pos), .int (Int32.ofInt i_p0_from), .int (Int32.ofInt i_p0_sort), .int (Int32.ofInt i_p0_value), .int (Int32.ofInt i_p0_fault), .int (Int32.ofInt i_p0_wrongAt), .ref a_p0_places, .ref a_p0_stirred, .ref a_p0_ways, .ref a_p0_waysThen, .ref a_p0_stays, .ref a_p0_fewest, .ref a_p0_bowls, .ref a_p0_has, .ref a_p0_goesOn, .ref a_p0_isThere, .ref a_p0_isThereThen, .ref a_p0_bestRow, .ref a_p0_lanes, .ref a_p0_sizes, .ref a_p0_cells, .int (Int32.ofInt i_p0_torn)])), (a_p0_st, .inl (G 1, 152, .inl (zA v_p0_st))), (a_p0_brings, .inl (G 1, 35, .inl (zA v_p0_brings))), (a_p0_places, .inl (G 1, 7, .inl (zA v_p0_places))), (a_p0_goesOn, .inl (G 1, 343, .inl (zA v_p0_goesOn)))] s.heap.size = A at hD ⊢
  have hA : ∀ q : Nat, s.heap.size ≤ q → A q := fun q h => by rw [← hAe]; exact Or.inr h
  clear hAe hD0
  have hS : va_S A s.heap s.heap [] := va_S.rf
  have hl := lv_entry ([.ref a_p0, .int (Int32.ofInt x1)]) (n := 6) (Nat.le_of_ble_eq_true rfl)
  rw [lg_entry_eq]
  generalize (lg_sl ([.ref a_p0, .int (Int32.ofInt x1)]) ++ List.replicate (6 - (lg_sl ([.ref a_p0, .int (Int32.ofInt x1)])).length) Slot.unset).toArray = ls at hl ⊢
  have hl : lv_has ls 6 [(0, .ref a_p0), (1, .int (Int32.ofInt x1))] := hl
  refine W_nameQ (fun Q hQ => ?_)
  obtain ⟨H, hH⟩ : ∃ H, H = s.heap := ⟨_, rfl⟩
  replace hS : va_S A s.heap H [] := by rw [hH]; exact hS
  replace hP : va_P D vwCl [(a_p0, .inr (12, [.ref a_p0_st, .ref a_p0_isKept, .int (Int32.ofInt i_p0_seats), .int (Int32.ofInt i_p0_stirs), .ref a_p0_brings, .ref a_p0_need, .ref a_p0_draft, .int (Int32.ofInt i_p0_dSeats), .int (Int32.ofInt i_p0_dStirs), .ref a_p0_dStir, .ref a_p0_dNeed, .int (Int32.ofInt i_p0_told), .int (Int32.ofInt i_p0_highest), .ref a_p0_tape, .int (Int32.ofInt i_p0_taped), .int (Int32.ofInt i_p0_pos), .int (Int32.ofInt i_p0_from), .int (Int32.ofInt i_p0_sort), .int (Int32.ofInt i_p0_value), .int (Int32.ofInt i_p0_fault), .int (Int32.ofInt i_p0_wrongAt), .ref a_p0_places, .ref a_p0_stirred, .ref a_p0_ways, .ref a_p0_waysThen, .ref a_p0_stays, .ref a_p0_fewest, .ref a_p0_bowls, .ref a_p0_has, .ref a_p0_goesOn, .ref a_p0_isThere, .ref a_p0_isThereThen, .ref a_p0_bestRow, .ref a_p0_lanes, .ref a_p0_sizes, .ref a_p0_cells, .int (Int32.ofInt i_p0_torn)])), (a_p0_st, .inl (G 1, 152, .inl (zA v_p0_st))), (a_p0_brings, .inl (G 1, 35, .inl (zA v_p0_brings))), (a_p0_places, .inl (G 1, 7, .inl (zA v_p0_places))), (a_p0_goesOn, .inl (G 1, 343, .inl (zA v_p0_goesOn)))] H := by rw [hH]; exact hP
  rw [← hH]
  clear hH
  unfold f_X12_histories at hf
  refine lv_iload_n hx hb dX12_histories_0 rfl (lv_at hl 1 rfl) ?_
  have hr0 := ck_c hf
  replace hf := ck_r hf
  have hq := jn_i hf
  clear hf
  obtain ⟨J2, eJ2, hf⟩ := hq
  have hJ2 : ∀  (ls : Array Slot) (H : Heap) (locs : List Loc), lv_has ls 6 [(0, .ref a_p0), (1, .int (Int32.ofInt x1))] → va_P D vwCl [(a_p0, .inr (12, [.ref a_p0_st, .ref a_p0_isKept, .int (Int32.ofInt i_p0_seats), .int (Int32.ofInt i_p0_stirs), .ref a_p0_brings, .ref a_p0_need, .ref a_p0_draft, .int (Int32.ofInt i_p0_dSeats), .int (Int32.ofInt i_p0_dStirs), .ref a_p0_dStir, .ref a_p0_dNeed, .int (Int32.ofInt i_p0_told), .int (Int32.ofInt i_p0_highest), .ref a_p0_tape, .int (Int32.ofInt i_p0_taped), .int (Int32.ofInt i_p0_pos), .int (Int32.ofInt i_p0_from), .int (Int32.ofInt i_p0_sort), .int (Int32.ofInt i_p0_value), .int (Int32.ofInt i_p0_fault), .int (Int32.ofInt i_p0_wrongAt), .ref a_p0_places, .ref a_p0_stirred, .ref a_p0_ways, .ref a_p0_waysThen, .ref a_p0_stays, .ref a_p0_fewest, .ref a_p0_bowls, .ref a_p0_has, .ref a_p0_goesOn, .ref a_p0_isThere, .ref a_p0_isThereThen, .ref a_p0_bestRow, .ref a_p0_lanes, .ref a_p0_sizes, .ref a_p0_cells, .int (Int32.ofInt i_p0_torn)])), (a_p0_st, .inl (G 1, 152, .inl (zA v_p0_st))), (a_p0_brings, .inl (G 1, 35, .inl (zA v_p0_brings))), (a_p0_places, .inl (G 1, 7, .inl (zA v_p0_places))), (a_p0_goesOn, .inl (G 1, 343, .inl (zA v_p0_goesOn)))] H → va_D A [(a_p0, .inr (12, [.ref a_p0_st, .ref a_p0_isKept, .int (Int32.ofInt i_p0_seats), .int (Int32.ofInt i_p0_stirs), .ref a_p0_brings, .ref a_p0_need, .ref a_p0_draft, .int (Int32.ofInt i_p0_dSeats), .int (Int32.ofInt i_p0_dStirs), .ref a_p0_dStir, .ref a_p0_dNeed, .int (Int32.ofInt i_p0_told), .int (Int32.ofInt i_p0_highest), .ref a_p0_tape, .int (Int32.ofInt i_p0_taped), .int (Int32.ofInt i_p0_pos), .int (Int32.ofInt i_p0_from), .int (Int32.ofInt i_p0_sort), .int (Int32.ofInt i_p0_value), .int (Int32.ofInt i_p0_fault), .int (Int32.ofInt i_p0_wrongAt), .ref a_p0_places, .ref a_p0_stirred, .ref a_p0_ways, .ref a_p0_waysThen, .ref a_p0_stays, .ref a_p0_fewest, .ref a_p0_bowls, .ref a_p0_has, .ref a_p0_goesOn, .ref a_p0_isThere, .ref a_p0_isThereThen, .ref a_p0_bestRow, .ref a_p0_lanes, .ref a_p0_sizes, .ref a_p0_cells, .int (Int32.ofInt i_p0_torn)])), (a_p0_st, .inl (G 1, 152, .inl (zA v_p0_st))), (a_p0_brings, .inl (G 1, 35, .inl (zA v_p0_brings))), (a_p0_places, .inl (G 1, 7, .inl (zA v_p0_places))), (a_p0_goesOn, .inl (G 1, 343, .inl (zA v_p0_goesOn)))] → va_S A s.heap H locs → J2  = some (r, o_v_p0_places, o_v_p0_goesOn) → W p l e rm_X12_histories s m ([.ref a_p0, .int (Int32.ofInt x1)] : List Value).toArray below meth c H locs 0 0 Q (F0 m 20 ls []) := by
    clear hf hl hP hD hS
    intro  ls H locs hl hP hD hS hf
    replace hf := jn0_s eJ2 hf
    refine lv_aload_n hx hb dX12_histories_20 rfl (lv_at hl 0 rfl) ?_
    have hq := bd2_s hf
    clear hf
    obtain ⟨w3, w4, hcall, hf⟩ := hq
    refine gsV (ws' := [(a_p0, .inr (12, [.ref a_p0_st, .ref a_p0_isKept, .int (Int32.ofInt i_p0_seats), .int (Int32.ofInt i_p0_stirs), .ref a_p0_brings, .ref a_p0_need, .ref a_p0_draft, .int (Int32.ofInt i_p0_dSeats), .int (Int32.ofInt i_p0_dStirs), .ref a_p0_dStir, .ref a_p0_dNeed, .int (Int32.ofInt i_p0_told), .int (Int32.ofInt i_p0_highest), .ref a_p0_tape, .int (Int32.ofInt i_p0_taped), .int (Int32.ofInt i_p0_pos), .int (Int32.ofInt i_p0_from), .int (Int32.ofInt i_p0_sort), .int (Int32.ofInt i_p0_value), .int (Int32.ofInt i_p0_fault), .int (Int32.ofInt i_p0_wrongAt), .ref a_p0_places, .ref a_p0_stirred, .ref a_p0_ways, .ref a_p0_waysThen, .ref a_p0_stays, .ref a_p0_fewest, .ref a_p0_bowls, .ref a_p0_has, .ref a_p0_goesOn, .ref a_p0_isThere, .ref a_p0_isThereThen, .ref a_p0_bestRow, .ref a_p0_lanes, .ref a_p0_sizes, .ref a_p0_cells, .int (Int32.ofInt i_p0_torn)])), (a_p0_st, .inl (G 1, 152, .inl (zA v_p0_st))), (a_p0_brings, .inl (G 1, 35, .inl (zA v_p0_brings))), (a_p0_places, .inl (G 1, 7, .inl (zA w3))), (a_p0_goesOn, .inl (G 1, 343, .inl (zA w4)))]) (va_runV (As := []) (rest := []) ⟨hx, hb, hml, hown, hts⟩ (c_X12_findHistories (l := l) (D := D) (G := G) (sz := H.size) (a_p0 := a_p0) (a_p0_st := a_p0_st) (a_p0_isKept := a_p0_isKept) (a_p0_brings := a_p0_brings) (a_p0_need := a_p0_need) (a_p0_draft := a_p0_draft) (a_p0_dStir := a_p0_dStir) (a_p0_dNeed := a_p0_dNeed) (a_p0_tape := a_p0_tape) (a_p0_places := a_p0_places) (a_p0_stirred := a_p0_stirred) (a_p0_ways := a_p0_ways) (a_p0_waysThen := a_p0_waysThen) (a_p0_stays := a_p0_stays) (a_p0_fewest := a_p0_fewest) (a_p0_bowls := a_p0_bowls) (a_p0_has := a_p0_has) (a_p0_goesOn := a_p0_goesOn) (a_p0_isThere := a_p0_isThere) (a_p0_isThereThen := a_p0_isThereThen) (a_p0_bestRow := a_p0_bestRow) (a_p0_lanes := a_p0_lanes) (a_p0_sizes := a_p0_sizes) (a_p0_cells := a_p0_cells) (i_p0_seats := i_p0_seats) (i_p0_stirs := i_p0_stirs) (i_p0_dSeats := i_p0_dSeats) (i_p0_dStirs := i_p0_dStirs) (i_p0_told := i_p0_told) (i_p0_highest := i_p0_highest) (i_p0_taped := i_p0_taped) (i_p0_pos := i_p0_pos) (i_p0_from := i_p0_from) (i_p0_sort := i_p0_sort) (i_p0_value := i_p0_value) (i_p0_fault := i_p0_fault) (i_p0_wrongAt := i_p0_wrongAt) (i_p0_torn := i_p0_torn) (v_p0_st := v_p0_st) (v_p0_brings := v_p0_brings) (v_p0_places := v_p0_places) (v_p0_goesOn := v_p0_goesOn) (o_v_p0_places := w3) (o_v_p0_goesOn := w4) (hf := hcall)) (cwV 0 hts gX12_histories_X12_findHistories rfl rfl rfl hdV_yX12_findHistories_RX12 ⟨Nat.le_of_ble_eq_true rfl, Nat.le_of_ble_eq_true rfl⟩) (preG_V (ci := 12) (q := (RX12, TX12, 37)) (hP.sub [0, 1, 2, 3, 4] rfl) (hD.sub [0, 1, 2, 3, 4] rfl rfl) hK rfl rfl) rfl rfl hl.1 rfl (lv_room (Nat.le_of_ble_eq_true rfl)) dX12_histories_21 ⟨Nat.le_of_ble_eq_true rfl, Nat.le_of_ble_eq_true rfl⟩) hP hD hS hA [0, 1, 2, 3, 4] rfl rfl rfl (fun H locs hP hD hS => ?_)
    clear hcall
    refine lv_aload_n hx hb dX12_histories_24 rfl (lv_at hl 0 rfl) ?_
    have hq := bd1_s hf
    clear hf
    obtain ⟨z5, hcall, hf⟩ := hq
    refine gnI (va_runV (As := []) (rest := []) ⟨hx, hb, hml, hown, hts⟩ (c_X12_stateNow (l := l) (D := D) (G := G) (sz := H.size) (a_p0 := a_p0) (a_p0_st := a_p0_st) (a_p0_isKept := a_p0_isKept) (a_p0_brings := a_p0_brings) (a_p0_need := a_p0_need) (a_p0_draft := a_p0_draft) (a_p0_dStir := a_p0_dStir) (a_p0_dNeed := a_p0_dNeed) (a_p0_tape := a_p0_tape) (a_p0_places := a_p0_places) (a_p0_stirred := a_p0_stirred) (a_p0_ways := a_p0_ways) (a_p0_waysThen := a_p0_waysThen) (a_p0_stays := a_p0_stays) (a_p0_fewest := a_p0_fewest) (a_p0_bowls := a_p0_bowls) (a_p0_has := a_p0_has) (a_p0_goesOn := a_p0_goesOn) (a_p0_isThere := a_p0_isThere) (a_p0_isThereThen := a_p0_isThereThen) (a_p0_bestRow := a_p0_bestRow) (a_p0_lanes := a_p0_lanes) (a_p0_sizes := a_p0_sizes) (a_p0_cells := a_p0_cells) (i_p0_seats := i_p0_seats) (i_p0_stirs := i_p0_stirs) (i_p0_dSeats := i_p0_dSeats) (i_p0_dStirs := i_p0_dStirs) (i_p0_told := i_p0_told) (i_p0_highest := i_p0_highest) (i_p0_taped := i_p0_taped) (i_p0_pos := i_p0_pos) (i_p0_from := i_p0_from) (i_p0_sort := i_p0_sort) (i_p0_value := i_p0_value) (i_p0_fault := i_p0_fault) (i_p0_wrongAt := i_p0_wrongAt) (i_p0_torn := i_p0_torn) (v_p0_st := v_p0_st) (r := z5) (hf := hcall)) (cwV 0 hts gX12_histories_X12_stateNow rfl rfl rfl hdV_yX12_stateNow_RX12 ⟨Nat.le_of_ble_eq_true rfl, Nat.le_of_ble_eq_true rfl⟩) (preG_V (ci := 12) (q := (RX12, TX12, 37)) (hP.sub [0, 1] rfl) (hD.sub [0, 1] rfl rfl) hK rfl rfl) rfl rfl hl.1 rfl (lv_room (Nat.le_of_ble_eq_true rfl)) dX12_histories_25 ⟨Nat.le_of_ble_eq_true rfl, Nat.le_of_ble_eq_true rfl⟩) hP hD hS hA [0, 1] rfl (fun H locs hP hD hS => ?_)
    clear hcall
    refine z_topi (fun z6 ez => ?_)
    replace hf := bnd_s hf ez
    clear ez
    refine lv_istore_n (lv' := [(2, .int (Int32.ofInt z6)), (0, .ref a_p0), (1, .int (Int32.ofInt x1))]) hx hb dX12_histories_28 rfl hl (by decide) rfl (fun ls hl => ?_)
    refine lv_iload_n hx hb dX12_histories_29 rfl (lv_at hl 2 rfl) ?_
    refine lv_if_ne (tgt := 40) hx hb dX12_histories_30 (by decide) (fun cc => ?_) (fun cc => ?_)
    ·
      replace hf := ite_f (fun h9 => cc ((z_eq0 hr0).mpr h9)) hf
      clear cc
      refine lv_aload_n hx hb dX12_histories_40 rfl (lv_at hl 1 rfl) ?_
      refine va_get (D := D) (ci := 12) (v := .ref a_p0_goesOn) (C := RX12) (T := TX12) (N := 37) hx hb hts inX12_histories_X12 hown hK hP 0 rfl rfl 29 (by decide) (hts _ mwX12_histories_2) (fun _ h9 => h9) rfl dX12_histories_41 ?_
      refine lv_iload_n hx hb dX12_histories_44 rfl (lv_at hl 0 rfl) ?_
      have hc := ck_c hf
      replace hf := ck_r hf
      refine va_iald hx hb hK hP 4 1 rfl rfl (z_ix_in hc) dX12_histories_45 (z_ci (z_ald w4 hc) ?_)
      clear hc
      have hr6 := ck_c hf
      replace hf := ck_r hf
      refine lv_if_eq (tgt := 63) hx hb dX12_histories_46 (by decide) (fun cc => ?_) (fun cc => ?_)
      ·
        replace hf := ite_t ((z_eq0 hr6).mp cc) hf
        clear cc
        refine lv_bipush (v := Int32.ofInt (-4 : Int)) hx hb dX12_histories_63 (by decide) ?_
        obtain ⟨rfl, rfl, rfl⟩ := ou3 hf
        rw [hQ]
        exact W.iret hx hb hr (fun t ht hW => ⟨⟨_, (), rfl, rfl, by rw [ht]; exact hP, va_K.moved hW.alike hK, hD⟩, hS.F ht⟩) hS.2.2 dX12_histories_65
      ·
        replace hf := ite_f (fun h9 => cc ((z_eq0 hr6).mpr h9)) hf
        clear cc
        refine lv_iload_n hx hb dX12_histories_49 rfl (lv_at hl 2 rfl) ?_
        refine lv_bipush (v := Int32.ofInt (10 : Int)) hx hb dX12_histories_50 (by decide) ?_
        refine lv_isub hx hb dX12_histories_52 (z_ci (Int32.ofInt_sub x1 (10 : Int)) ?_)
        refine lv_aload_n hx hb dX12_histories_53 rfl (lv_at hl 1 rfl) ?_
        refine va_get (D := D) (ci := 12) (v := .ref a_p0_st) (C := RX12) (T := TX12) (N := 37) hx hb hts inX12_histories_X12 hown hK hP 0 rfl rfl 0 (by decide) (hts _ mwX12_histories_3) (fun _ h9 => h9) rfl dX12_histories_54 ?_
        refine lv_bipush (v := Int32.ofInt (31 : Int)) hx hb dX12_histories_57 (by decide) ?_
        have hc := ck_c hf
        replace hf := ck_r hf
        refine va_iald hx hb hK hP 1 1 rfl rfl (z_ix_in hc) dX12_histories_59 (z_ci (z_ald v_p0_st hc) ?_)
        clear hc
        have hr7 := ck_c hf
        replace hf := ck_r hf
        have hr8 := ck_c hf
        replace hf := ck_r hf
        refine lv_icmp_lt (tgt := 66) hx hb dX12_histories_60 (by decide) (fun cc => ?_) (fun cc => ?_)
        ·
          replace hf := ite_t ((z_lt hr7 hr8).mp cc) hf
          clear cc
          refine lv_bipush (v := Int32.ofInt (-4 : Int)) hx hb dX12_histories_66 (by decide) ?_
          refine z_topi (fun z10 ez => ?_)
          replace hf := bnd_s hf ez
          clear ez
          refine lv_istore_n (lv' := [(3, .int (Int32.ofInt z10)), (2, .int (Int32.ofInt z6)), (0, .ref a_p0), (1, .int (Int32.ofInt x1))]) hx hb dX12_histories_68 rfl hl (by decide) rfl (fun ls hl => ?_)
          refine lv_iconst (v := Int32.ofInt (0 : Int)) hx hb dX12_histories_69 (by decide) ?_
          refine z_topi (fun z11 ez => ?_)
          replace hf := bnd_s hf ez
          clear ez
          refine lv_istore (lv' := [(4, .int (Int32.ofInt z11)), (3, .int (Int32.ofInt z10)), (2, .int (Int32.ofInt z6)), (0, .ref a_p0), (1, .int (Int32.ofInt x1))]) hx hb dX12_histories_70 hl (by decide) rfl (fun ls hl => ?_)
          have hq := lq4_i hf
          clear hf
          obtain ⟨B16, eB16, NB16, hf⟩ := hq
          have hB16 : ∀ (n : Nat) (z12 : Int) (z13 : Int) (z14 : Int) (w15 : (Int → Int)) (ls : Array Slot) (H : Heap) (locs : List Loc), lv_has ls 6 [(4, .int (Int32.ofInt z12)), (3, .int (Int32.ofInt z13)), (2, .int (Int32.ofInt z14)), (0, .ref a_p0), (1, .int (Int32.ofInt x1))] → va_P D vwCl [(a_p0, .inr (12, [.ref a_p0_st, .ref a_p0_isKept, .int (Int32.ofInt i_p0_seats), .int (Int32.ofInt i_p0_stirs), .ref a_p0_brings, .ref a_p0_need, .ref a_p0_draft, .int (Int32.ofInt i_p0_dSeats), .int (Int32.ofInt i_p0_dStirs), .ref a_p0_dStir, .ref a_p0_dNeed, .int (Int32.ofInt i_p0_told), .int (Int32.ofInt i_p0_highest), .ref a_p0_tape, .int (Int32.ofInt i_p0_taped), .int (Int32.ofInt i_p0_pos), .int (Int32.ofInt i_p0_from), .int (Int32.ofInt i_p0_sort), .int (Int32.ofInt i_p0_value), .int (Int32.ofInt i_p0_fault), .int (Int32.ofInt i_p0_wrongAt), .ref a_p0_places, .ref a_p0_stirred, .ref a_p0_ways, .ref a_p0_waysThen, .ref a_p0_stays, .ref a_p0_fewest, .ref a_p0_bowls, .ref a_p0_has, .ref a_p0_goesOn, .ref a_p0_isThere, .ref a_p0_isThereThen, .ref a_p0_bestRow, .ref a_p0_lanes, .ref a_p0_sizes, .ref a_p0_cells, .int (Int32.ofInt i_p0_torn)])), (a_p0_st, .inl (G 1, 152, .inl (zA v_p0_st))), (a_p0_brings, .inl (G 1, 35, .inl (zA v_p0_brings))), (a_p0_places, .inl (G 1, 7, .inl (zA w15))), (a_p0_goesOn, .inl (G 1, 343, .inl (zA w4)))] H → va_D A [(a_p0, .inr (12, [.ref a_p0_st, .ref a_p0_isKept, .int (Int32.ofInt i_p0_seats), .int (Int32.ofInt i_p0_stirs), .ref a_p0_brings, .ref a_p0_need, .ref a_p0_draft, .int (Int32.ofInt i_p0_dSeats), .int (Int32.ofInt i_p0_dStirs), .ref a_p0_dStir, .ref a_p0_dNeed, .int (Int32.ofInt i_p0_told), .int (Int32.ofInt i_p0_highest), .ref a_p0_tape, .int (Int32.ofInt i_p0_taped), .int (Int32.ofInt i_p0_pos), .int (Int32.ofInt i_p0_from), .int (Int32.ofInt i_p0_sort), .int (Int32.ofInt i_p0_value), .int (Int32.ofInt i_p0_fault), .int (Int32.ofInt i_p0_wrongAt), .ref a_p0_places, .ref a_p0_stirred, .ref a_p0_ways, .ref a_p0_waysThen, .ref a_p0_stays, .ref a_p0_fewest, .ref a_p0_bowls, .ref a_p0_has, .ref a_p0_goesOn, .ref a_p0_isThere, .ref a_p0_isThereThen, .ref a_p0_bestRow, .ref a_p0_lanes, .ref a_p0_sizes, .ref a_p0_cells, .int (Int32.ofInt i_p0_torn)])), (a_p0_st, .inl (G 1, 152, .inl (zA v_p0_st))), (a_p0_brings, .inl (G 1, 35, .inl (zA v_p0_brings))), (a_p0_places, .inl (G 1, 7, .inl (zA w15))), (a_p0_goesOn, .inl (G 1, 343, .inl (zA w4)))] → va_S A s.heap H locs → lq4 B16 n z12 z13 z14 w15 = some (r, o_v_p0_places, o_v_p0_goesOn) → W p l e rm_X12_histories s m ([.ref a_p0, .int (Int32.ofInt x1)] : List Value).toArray below meth c H locs 0 0 Q (F0 m 72 ls []) := by
            clear hf hl hP hD hS
            intro n
            induction n with
            | zero =>
              intro z12 z13 z14 w15 ls H locs hl hP hD hS hf
              exact (lq4_0 hf).elim
            | succ n ih72 =>
              intro z12 z13 z14 w15 ls H locs hl hP hD hS hf
              replace hf := lq4_s eB16 hf
              unfold B_X12_histories_72 at hf
              refine lv_iload hx hb dX12_histories_72 (lv_at hl 0 rfl) ?_
              refine lv_iload_n hx hb dX12_histories_74 rfl (lv_at hl 4 rfl) ?_
              refine lv_bipush (v := Int32.ofInt (10 : Int)) hx hb dX12_histories_75 (by decide) ?_
              refine lv_isub hx hb dX12_histories_77 (z_ci (Int32.ofInt_sub x1 (10 : Int)) ?_)
              have hr16 := ck_c hf
              replace hf := ck_r hf
              refine lv_icmp_gt (tgt := 135) hx hb dX12_histories_78 (by decide) (fun cc => ?_) (fun cc => ?_)
              ·
                replace hf := ite_t ((z_lt hr7 hr16).mp cc) hf
                clear cc
                refine lv_iload_n hx hb dX12_histories_135 rfl (lv_at hl 1 rfl) ?_
                obtain ⟨rfl, rfl, rfl⟩ := ou3 hf
                rw [hQ]
                exact W.iret hx hb hr (fun t ht hW => ⟨⟨_, (), rfl, rfl, by rw [ht]; exact hP, va_K.moved hW.alike hK, hD⟩, hS.F ht⟩) hS.2.2 dX12_histories_136
              ·
                replace hf := ite_f (fun h9 => cc ((z_lt hr7 hr16).mpr h9)) hf
                clear cc
                refine lv_bipush (v := Int32.ofInt (-4 : Int)) hx hb dX12_histories_81 (by decide) ?_
                refine z_topi (fun z18 ez => ?_)
                replace hf := bnd_s hf ez
                clear ez
                refine lv_istore_n (lv' := [(3, .int (Int32.ofInt z18)), (4, .int (Int32.ofInt z12)), (2, .int (Int32.ofInt z14)), (0, .ref a_p0), (1, .int (Int32.ofInt x1))]) hx hb dX12_histories_83 rfl hl (by decide) rfl (fun ls hl => ?_)
                refine lv_aload_n hx hb dX12_histories_84 rfl (lv_at hl 3 rfl) ?_
                refine va_get (D := D) (ci := 12) (v := .int (Int32.ofInt i_p0_stirs)) (C := RX12) (T := TX12) (N := 37) hx hb hts inX12_histories_X12 hown hK hP 0 rfl rfl 3 (by decide) (hts _ mwX12_histories_4) (fun _ h9 => h9) rfl dX12_histories_85 ?_
                refine lv_iconst (v := Int32.ofInt (1 : Int)) hx hb dX12_histories_88 (by decide) ?_
                refine lv_isub hx hb dX12_histories_89 (z_ci (Int32.ofInt_sub i_p0_stirs (1 : Int)) ?_)
                refine z_topi (fun z19 ez => ?_)
                replace hf := bnd_s hf ez
                clear ez
                refine lv_istore (lv' := [(5, .int (Int32.ofInt z19)), (3, .int (Int32.ofInt z18)), (4, .int (Int32.ofInt z12)), (2, .int (Int32.ofInt z14)), (0, .ref a_p0), (1, .int (Int32.ofInt x1))]) hx hb dX12_histories_90 hl (by decide) rfl (fun ls hl => ?_)
                have hq := jn_i hf
                clear hf
                obtain ⟨J22, eJ22, hf⟩ := hq
                have hJ22 : ∀ (z20 : Int) (w21 : (Int → Int)) (ls : Array Slot) (H : Heap) (locs : List Loc), lv_has ls 6 [(3, .int (Int32.ofInt z20)), (4, .int (Int32.ofInt z12)), (2, .int (Int32.ofInt z14)), (0, .ref a_p0), (1, .int (Int32.ofInt x1))] → va_P D vwCl [(a_p0, .inr (12, [.ref a_p0_st, .ref a_p0_isKept, .int (Int32.ofInt i_p0_seats), .int (Int32.ofInt i_p0_stirs), .ref a_p0_brings, .ref a_p0_need, .ref a_p0_draft, .int (Int32.ofInt i_p0_dSeats), .int (Int32.ofInt i_p0_dStirs), .ref a_p0_dStir, .ref a_p0_dNeed, .int (Int32.ofInt i_p0_told), .int (Int32.ofInt i_p0_highest), .ref a_p0_tape, .int (Int32.ofInt i_p0_taped), .int (Int32.ofInt i_p0_pos), .int (Int32.ofInt i_p0_from), .int (Int32.ofInt i_p0_sort), .int (Int32.ofInt i_p0_value), .int (Int32.ofInt i_p0_fault), .int (Int32.ofInt i_p0_wrongAt), .ref a_p0_places, .ref a_p0_stirred, .ref a_p0_ways, .ref a_p0_waysThen, .ref a_p0_stays, .ref a_p0_fewest, .ref a_p0_bowls, .ref a_p0_has, .ref a_p0_goesOn, .ref a_p0_isThere, .ref a_p0_isThereThen, .ref a_p0_bestRow, .ref a_p0_lanes, .ref a_p0_sizes, .ref a_p0_cells, .int (Int32.ofInt i_p0_torn)])), (a_p0_st, .inl (G 1, 152, .inl (zA v_p0_st))), (a_p0_brings, .inl (G 1, 35, .inl (zA v_p0_brings))), (a_p0_places, .inl (G 1, 7, .inl (zA w21))), (a_p0_goesOn, .inl (G 1, 343, .inl (zA w4)))] H → va_D A [(a_p0, .inr (12, [.ref a_p0_st, .ref a_p0_isKept, .int (Int32.ofInt i_p0_seats), .int (Int32.ofInt i_p0_stirs), .ref a_p0_brings, .ref a_p0_need, .ref a_p0_draft, .int (Int32.ofInt i_p0_dSeats), .int (Int32.ofInt i_p0_dStirs), .ref a_p0_dStir, .ref a_p0_dNeed, .int (Int32.ofInt i_p0_told), .int (Int32.ofInt i_p0_highest), .ref a_p0_tape, .int (Int32.ofInt i_p0_taped), .int (Int32.ofInt i_p0_pos), .int (Int32.ofInt i_p0_from), .int (Int32.ofInt i_p0_sort), .int (Int32.ofInt i_p0_value), .int (Int32.ofInt i_p0_fault), .int (Int32.ofInt i_p0_wrongAt), .ref a_p0_places, .ref a_p0_stirred, .ref a_p0_ways, .ref a_p0_waysThen, .ref a_p0_stays, .ref a_p0_fewest, .ref a_p0_bowls, .ref a_p0_has, .ref a_p0_goesOn, .ref a_p0_isThere, .ref a_p0_isThereThen, .ref a_p0_bestRow, .ref a_p0_lanes, .ref a_p0_sizes, .ref a_p0_cells, .int (Int32.ofInt i_p0_torn)])), (a_p0_st, .inl (G 1, 152, .inl (zA v_p0_st))), (a_p0_brings, .inl (G 1, 35, .inl (zA v_p0_brings))), (a_p0_places, .inl (G 1, 7, .inl (zA w21))), (a_p0_goesOn, .inl (G 1, 343, .inl (zA w4)))] → va_S A s.heap H locs → J22 z20 w21 = some (r, o_v_p0_places, o_v_p0_goesOn) → W p l e rm_X12_histories s m ([.ref a_p0, .int (Int32.ofInt x1)] : List Value).toArray below meth c H locs 0 0 Q (F0 m 122 ls []) := by
                  clear hf hl hP hD hS
                  intro z20 w21 ls H locs hl hP hD hS hf
                  replace hf := jn2_s eJ22 hf
                  refine lv_aload_n hx hb dX12_histories_122 rfl (lv_at hl 3 rfl) ?_
                  refine lv_iload_n hx hb dX12_histories_123 rfl (lv_at hl 2 rfl) ?_
                  refine lv_iload_n hx hb dX12_histories_124 rfl (lv_at hl 0 rfl) ?_
                  have hq := bd2_s hf
                  clear hf
                  obtain ⟨z23, w24, hcall, hf⟩ := hq
                  refine gsI (ws' := [(a_p0, .inr (12, [.ref a_p0_st, .ref a_p0_isKept, .int (Int32.ofInt i_p0_seats), .int (Int32.ofInt i_p0_stirs), .ref a_p0_brings, .ref a_p0_need, .ref a_p0_draft, .int (Int32.ofInt i_p0_dSeats), .int (Int32.ofInt i_p0_dStirs), .ref a_p0_dStir, .ref a_p0_dNeed, .int (Int32.ofInt i_p0_told), .int (Int32.ofInt i_p0_highest), .ref a_p0_tape, .int (Int32.ofInt i_p0_taped), .int (Int32.ofInt i_p0_pos), .int (Int32.ofInt i_p0_from), .int (Int32.ofInt i_p0_sort), .int (Int32.ofInt i_p0_value), .int (Int32.ofInt i_p0_fault), .int (Int32.ofInt i_p0_wrongAt), .ref a_p0_places, .ref a_p0_stirred, .ref a_p0_ways, .ref a_p0_waysThen, .ref a_p0_stays, .ref a_p0_fewest, .ref a_p0_bowls, .ref a_p0_has, .ref a_p0_goesOn, .ref a_p0_isThere, .ref a_p0_isThereThen, .ref a_p0_bestRow, .ref a_p0_lanes, .ref a_p0_sizes, .ref a_p0_cells, .int (Int32.ofInt i_p0_torn)])), (a_p0_st, .inl (G 1, 152, .inl (zA v_p0_st))), (a_p0_brings, .inl (G 1, 35, .inl (zA v_p0_brings))), (a_p0_places, .inl (G 1, 7, .inl (zA w24))), (a_p0_goesOn, .inl (G 1, 343, .inl (zA w4)))]) (va_runV (As := [.int (Int32.ofInt z14), .int (Int32.ofInt z20)]) (rest := []) ⟨hx, hb, hml, hown, hts⟩ (c_X12_then (l := l) (D := D) (G := G) (sz := H.size) (a_p0 := a_p0) (a_p0_st := a_p0_st) (a_p0_isKept := a_p0_isKept) (a_p0_brings := a_p0_brings) (a_p0_need := a_p0_need) (a_p0_draft := a_p0_draft) (a_p0_dStir := a_p0_dStir) (a_p0_dNeed := a_p0_dNeed) (a_p0_tape := a_p0_tape) (a_p0_places := a_p0_places) (a_p0_stirred := a_p0_stirred) (a_p0_ways := a_p0_ways) (a_p0_waysThen := a_p0_waysThen) (a_p0_stays := a_p0_stays) (a_p0_fewest := a_p0_fewest) (a_p0_bowls := a_p0_bowls) (a_p0_has := a_p0_has) (a_p0_goesOn := a_p0_goesOn) (a_p0_isThere := a_p0_isThere) (a_p0_isThereThen := a_p0_isThereThen) (a_p0_bestRow := a_p0_bestRow) (a_p0_lanes := a_p0_lanes) (a_p0_sizes := a_p0_sizes) (a_p0_cells := a_p0_cells) (i_p0_seats := i_p0_seats) (i_p0_stirs := i_p0_stirs) (i_p0_dSeats := i_p0_dSeats) (i_p0_dStirs := i_p0_dStirs) (i_p0_told := i_p0_told) (i_p0_highest := i_p0_highest) (i_p0_taped := i_p0_taped) (i_p0_pos := i_p0_pos) (i_p0_from := i_p0_from) (i_p0_sort := i_p0_sort) (i_p0_value := i_p0_value) (i_p0_fault := i_p0_fault) (i_p0_wrongAt := i_p0_wrongAt) (i_p0_torn := i_p0_torn) (v_p0_st := v_p0_st) (v_p0_brings := v_p0_brings) (v_p0_places := w21) (x1 := z14) (x2 := z20) (r := z23) (o_v_p0_places := w24) (hf := hcall)) (cwV 2 hts gX12_histories_X12_then rfl rfl rfl hdV_yX12_then_RX12 ⟨Nat.le_of_ble_eq_true rfl, Nat.le_of_ble_eq_true rfl⟩) (preG_V (ci := 12) (q := (RX12, TX12, 37)) (hP.sub [0, 1, 2, 3] rfl) (hD.sub [0, 1, 2, 3] rfl rfl) hK rfl rfl) rfl rfl hl.1 rfl (lv_room (Nat.le_of_ble_eq_true rfl)) dX12_histories_125 ⟨Nat.le_of_ble_eq_true rfl, Nat.le_of_ble_eq_true rfl⟩) hP hD hS hA [0, 1, 2, 3] rfl rfl rfl (fun H locs hP hD hS => ?_)
                  clear hcall
                  refine z_topi (fun z25 ez => ?_)
                  replace hf := bnd_s hf ez
                  clear ez
                  refine lv_istore_n (lv' := [(2, .int (Int32.ofInt z25)), (3, .int (Int32.ofInt z20)), (4, .int (Int32.ofInt z12)), (0, .ref a_p0), (1, .int (Int32.ofInt x1))]) hx hb dX12_histories_128 rfl hl (by decide) rfl (fun ls hl => ?_)
                  obtain ⟨z26, ez⟩ : ∃ y : Int, y = (z12 + (1 : Int)) := ⟨_, rfl⟩
                  replace hf := bnd_s hf ez
                  refine lv_iinc (v := Int32.ofInt z26) (lv' := [(4, .int (Int32.ofInt z26)), (2, .int (Int32.ofInt z25)), (3, .int (Int32.ofInt z20)), (0, .ref a_p0), (1, .int (Int32.ofInt x1))]) hx hb dX12_histories_129 hl (k := 2) rfl (by rw [ez]; exact (Int32.ofInt_add _ _).symm) (by decide) rfl (fun ls hl => ?_)
                  clear ez
                  refine lv_goto (tgt := 72) hx hb dX12_histories_132 (by decide) ?_
                  exact ih72 _ _ _ _ _ _ _ (lv_sub hl [0, 2, 1, 3, 4] rfl) hP hD hS hf
                have hq := lq3_i hf
                clear hf
                obtain ⟨B30, eB30, NB30, hf⟩ := hq
                have hB30 : ∀ (n : Nat) (z27 : Int) (z28 : Int) (w29 : (Int → Int)) (ls : Array Slot) (H : Heap) (locs : List Loc), lv_has ls 6 [(5, .int (Int32.ofInt z27)), (3, .int (Int32.ofInt z28)), (4, .int (Int32.ofInt z12)), (2, .int (Int32.ofInt z14)), (0, .ref a_p0), (1, .int (Int32.ofInt x1))] → va_P D vwCl [(a_p0, .inr (12, [.ref a_p0_st, .ref a_p0_isKept, .int (Int32.ofInt i_p0_seats), .int (Int32.ofInt i_p0_stirs), .ref a_p0_brings, .ref a_p0_need, .ref a_p0_draft, .int (Int32.ofInt i_p0_dSeats), .int (Int32.ofInt i_p0_dStirs), .ref a_p0_dStir, .ref a_p0_dNeed, .int (Int32.ofInt i_p0_told), .int (Int32.ofInt i_p0_highest), .ref a_p0_tape, .int (Int32.ofInt i_p0_taped), .int (Int32.ofInt i_p0_pos), .int (Int32.ofInt i_p0_from), .int (Int32.ofInt i_p0_sort), .int (Int32.ofInt i_p0_value), .int (Int32.ofInt i_p0_fault), .int (Int32.ofInt i_p0_wrongAt), .ref a_p0_places, .ref a_p0_stirred, .ref a_p0_ways, .ref a_p0_waysThen, .ref a_p0_stays, .ref a_p0_fewest, .ref a_p0_bowls, .ref a_p0_has, .ref a_p0_goesOn, .ref a_p0_isThere, .ref a_p0_isThereThen, .ref a_p0_bestRow, .ref a_p0_lanes, .ref a_p0_sizes, .ref a_p0_cells, .int (Int32.ofInt i_p0_torn)])), (a_p0_st, .inl (G 1, 152, .inl (zA v_p0_st))), (a_p0_brings, .inl (G 1, 35, .inl (zA v_p0_brings))), (a_p0_places, .inl (G 1, 7, .inl (zA w29))), (a_p0_goesOn, .inl (G 1, 343, .inl (zA w4)))] H → va_D A [(a_p0, .inr (12, [.ref a_p0_st, .ref a_p0_isKept, .int (Int32.ofInt i_p0_seats), .int (Int32.ofInt i_p0_stirs), .ref a_p0_brings, .ref a_p0_need, .ref a_p0_draft, .int (Int32.ofInt i_p0_dSeats), .int (Int32.ofInt i_p0_dStirs), .ref a_p0_dStir, .ref a_p0_dNeed, .int (Int32.ofInt i_p0_told), .int (Int32.ofInt i_p0_highest), .ref a_p0_tape, .int (Int32.ofInt i_p0_taped), .int (Int32.ofInt i_p0_pos), .int (Int32.ofInt i_p0_from), .int (Int32.ofInt i_p0_sort), .int (Int32.ofInt i_p0_value), .int (Int32.ofInt i_p0_fault), .int (Int32.ofInt i_p0_wrongAt), .ref a_p0_places, .ref a_p0_stirred, .ref a_p0_ways, .ref a_p0_waysThen, .ref a_p0_stays, .ref a_p0_fewest, .ref a_p0_bowls, .ref a_p0_has, .ref a_p0_goesOn, .ref a_p0_isThere, .ref a_p0_isThereThen, .ref a_p0_bestRow, .ref a_p0_lanes, .ref a_p0_sizes, .ref a_p0_cells, .int (Int32.ofInt i_p0_torn)])), (a_p0_st, .inl (G 1, 152, .inl (zA v_p0_st))), (a_p0_brings, .inl (G 1, 35, .inl (zA v_p0_brings))), (a_p0_places, .inl (G 1, 7, .inl (zA w29))), (a_p0_goesOn, .inl (G 1, 343, .inl (zA w4)))] → va_S A s.heap H locs → lq3 B30 n z27 z28 w29 = some (r, o_v_p0_places, o_v_p0_goesOn) → W p l e rm_X12_histories s m ([.ref a_p0, .int (Int32.ofInt x1)] : List Value).toArray below meth c H locs 0 0 Q (F0 m 92 ls []) := by
                  clear hf hl hP hD hS
                  intro n
                  induction n with
                  | zero =>
                    intro z27 z28 w29 ls H locs hl hP hD hS hf
                    exact (lq3_0 hf).elim
                  | succ n ih92 =>
                    intro z27 z28 w29 ls H locs hl hP hD hS hf
                    replace hf := lq3_s eB30 hf
                    unfold B_X12_histories_92 at hf
                    refine lv_iload hx hb dX12_histories_92 (lv_at hl 0 rfl) ?_
                    have hr30 := ck_c hf
                    replace hf := ck_r hf
                    refine lv_if_lt (tgt := 122) hx hb dX12_histories_94 (by decide) (fun cc => ?_) (fun cc => ?_)
                    ·
                      replace hf := ite_t ((z_lt0 hr30).mp cc) hf
                      clear cc
                      exact hJ22 _ _ _ _ _ (lv_sub hl [1, 2, 3, 4, 5] rfl) hP hD hS hf
                    ·
                      replace hf := ite_f (fun h9 => cc ((z_lt0 hr30).mpr h9)) hf
                      clear cc
                      refine lv_aload_n hx hb dX12_histories_97 rfl (lv_at hl 4 rfl) ?_
                      refine lv_iload hx hb dX12_histories_98 (lv_at hl 2 rfl) ?_
                      refine lv_iload_n hx hb dX12_histories_100 rfl (lv_at hl 3 rfl) ?_
                      refine lv_iload hx hb dX12_histories_101 (lv_at hl 0 rfl) ?_
                      have hq := bd2_s hf
                      clear hf
                      obtain ⟨z32, w33, hcall, hf⟩ := hq
                      refine gsI (ws' := [(a_p0, .inr (12, [.ref a_p0_st, .ref a_p0_isKept, .int (Int32.ofInt i_p0_seats), .int (Int32.ofInt i_p0_stirs), .ref a_p0_brings, .ref a_p0_need, .ref a_p0_draft, .int (Int32.ofInt i_p0_dSeats), .int (Int32.ofInt i_p0_dStirs), .ref a_p0_dStir, .ref a_p0_dNeed, .int (Int32.ofInt i_p0_told), .int (Int32.ofInt i_p0_highest), .ref a_p0_tape, .int (Int32.ofInt i_p0_taped), .int (Int32.ofInt i_p0_pos), .int (Int32.ofInt i_p0_from), .int (Int32.ofInt i_p0_sort), .int (Int32.ofInt i_p0_value), .int (Int32.ofInt i_p0_fault), .int (Int32.ofInt i_p0_wrongAt), .ref a_p0_places, .ref a_p0_stirred, .ref a_p0_ways, .ref a_p0_waysThen, .ref a_p0_stays, .ref a_p0_fewest, .ref a_p0_bowls, .ref a_p0_has, .ref a_p0_goesOn, .ref a_p0_isThere, .ref a_p0_isThereThen, .ref a_p0_bestRow, .ref a_p0_lanes, .ref a_p0_sizes, .ref a_p0_cells, .int (Int32.ofInt i_p0_torn)])), (a_p0_st, .inl (G 1, 152, .inl (zA v_p0_st))), (a_p0_brings, .inl (G 1, 35, .inl (zA v_p0_brings))), (a_p0_places, .inl (G 1, 7, .inl (zA w33))), (a_p0_goesOn, .inl (G 1, 343, .inl (zA w4)))]) (va_runV (As := [.int (Int32.ofInt z12), .int (Int32.ofInt z14), .int (Int32.ofInt z27)]) (rest := []) ⟨hx, hb, hml, hown, hts⟩ (c_X12_canGo (l := l) (D := D) (G := G) (sz := H.size) (a_p0 := a_p0) (a_p0_st := a_p0_st) (a_p0_isKept := a_p0_isKept) (a_p0_brings := a_p0_brings) (a_p0_need := a_p0_need) (a_p0_draft := a_p0_draft) (a_p0_dStir := a_p0_dStir) (a_p0_dNeed := a_p0_dNeed) (a_p0_tape := a_p0_tape) (a_p0_places := a_p0_places) (a_p0_stirred := a_p0_stirred) (a_p0_ways := a_p0_ways) (a_p0_waysThen := a_p0_waysThen) (a_p0_stays := a_p0_stays) (a_p0_fewest := a_p0_fewest) (a_p0_bowls := a_p0_bowls) (a_p0_has := a_p0_has) (a_p0_goesOn := a_p0_goesOn) (a_p0_isThere := a_p0_isThere) (a_p0_isThereThen := a_p0_isThereThen) (a_p0_bestRow := a_p0_bestRow) (a_p0_lanes := a_p0_lanes) (a_p0_sizes := a_p0_sizes) (a_p0_cells := a_p0_cells) (i_p0_seats := i_p0_seats) (i_p0_stirs := i_p0_stirs) (i_p0_dSeats := i_p0_dSeats) (i_p0_dStirs := i_p0_dStirs) (i_p0_told := i_p0_told) (i_p0_highest := i_p0_highest) (i_p0_taped := i_p0_taped) (i_p0_pos := i_p0_pos) (i_p0_from := i_p0_from) (i_p0_sort := i_p0_sort) (i_p0_value := i_p0_value) (i_p0_fault := i_p0_fault) (i_p0_wrongAt := i_p0_wrongAt) (i_p0_torn := i_p0_torn) (v_p0_st := v_p0_st) (v_p0_brings := v_p0_brings) (v_p0_places := w29) (v_p0_goesOn := w4) (x1 := z12) (x2 := z14) (x3 := z27) (r := z32) (o_v_p0_places := w33) (hf := hcall)) (cwV 3 hts gX12_histories_X12_canGo rfl rfl rfl hdV_yX12_canGo_RX12 ⟨Nat.le_of_ble_eq_true rfl, Nat.le_of_ble_eq_true rfl⟩) (preG_V (ci := 12) (q := (RX12, TX12, 37)) (hP.sub [0, 1, 2, 3, 4] rfl) (hD.sub [0, 1, 2, 3, 4] rfl rfl) hK rfl rfl) rfl rfl hl.1 rfl (lv_room (Nat.le_of_ble_eq_true rfl)) dX12_histories_103 ⟨Nat.le_of_ble_eq_true rfl, Nat.le_of_ble_eq_true rfl⟩) hP hD hS hA [0, 1, 2, 3, 4] rfl rfl rfl (fun H locs hP hD hS => ?_)
                      clear hcall
                      have hr33 := ck_c hf
                      replace hf := ck_r hf
                      refine lv_if_eq (tgt := 114) hx hb dX12_histories_106 (by decide) (fun cc => ?_) (fun cc => ?_)
                      ·
                        replace hf := ite_t ((z_eq0 hr33).mp cc) hf
                        clear cc
                        refine lv_iload_n hx hb dX12_histories_114 rfl (lv_at hl 1 rfl) ?_
                        refine z_topi (fun z35 ez => ?_)
                        replace hf := bnd_s hf ez
                        clear ez
                        refine lv_istore_n (lv' := [(3, .int (Int32.ofInt z35)), (5, .int (Int32.ofInt z27)), (4, .int (Int32.ofInt z12)), (2, .int (Int32.ofInt z14)), (0, .ref a_p0), (1, .int (Int32.ofInt x1))]) hx hb dX12_histories_115 rfl hl (by decide) rfl (fun ls hl => ?_)
                        obtain ⟨z36, ez⟩ : ∃ y : Int, y = (z27 + (-1 : Int)) := ⟨_, rfl⟩
                        replace hf := bnd_s hf ez
                        refine lv_iinc (v := Int32.ofInt z36) (lv' := [(5, .int (Int32.ofInt z36)), (3, .int (Int32.ofInt z35)), (4, .int (Int32.ofInt z12)), (2, .int (Int32.ofInt z14)), (0, .ref a_p0), (1, .int (Int32.ofInt x1))]) hx hb dX12_histories_116 hl (k := 1) rfl (by rw [ez]; exact (Int32.ofInt_add _ _).symm) (by decide) rfl (fun ls hl => ?_)
                        clear ez
                        refine lv_goto (tgt := 92) hx hb dX12_histories_119 (by decide) ?_
                        exact ih92 _ _ _ _ _ _ (lv_sub hl [0, 1, 2, 3, 4, 5] rfl) hP hD hS hf
                      ·
                        replace hf := ite_f (fun h9 => cc ((z_eq0 hr33).mpr h9)) hf
                        clear cc
                        refine lv_iload hx hb dX12_histories_109 (lv_at hl 0 rfl) ?_
                        refine lv_goto (tgt := 115) hx hb dX12_histories_111 (by decide) ?_
                        refine z_topi (fun z37 ez => ?_)
                        replace hf := bnd_s hf ez
                        clear ez
                        refine lv_istore_n (lv' := [(3, .int (Int32.ofInt z37)), (5, .int (Int32.ofInt z27)), (4, .int (Int32.ofInt z12)), (2, .int (Int32.ofInt z14)), (0, .ref a_p0), (1, .int (Int32.ofInt x1))]) hx hb dX12_histories_115 rfl hl (by decide) rfl (fun ls hl => ?_)
                        obtain ⟨z38, ez⟩ : ∃ y : Int, y = (z27 + (-1 : Int)) := ⟨_, rfl⟩
                        replace hf := bnd_s hf ez
                        refine lv_iinc (v := Int32.ofInt z38) (lv' := [(5, .int (Int32.ofInt z38)), (3, .int (Int32.ofInt z37)), (4, .int (Int32.ofInt z12)), (2, .int (Int32.ofInt z14)), (0, .ref a_p0), (1, .int (Int32.ofInt x1))]) hx hb dX12_histories_116 hl (k := 1) rfl (by rw [ez]; exact (Int32.ofInt_add _ _).symm) (by decide) rfl (fun ls hl => ?_)
                        clear ez
                        refine lv_goto (tgt := 92) hx hb dX12_histories_119 (by decide) ?_
                        exact ih92 _ _ _ _ _ _ (lv_sub hl [0, 1, 2, 3, 4, 5] rfl) hP hD hS hf
                exact hB30 _ _ _ _ _ _ _ (lv_sub hl [0, 1, 2, 3, 4, 5] rfl) hP hD hS hf
          exact hB16 _ _ _ _ _ _ _ _ (lv_sub hl [0, 1, 2, 3, 4] rfl) hP hD hS hf
        ·
          replace hf := ite_f (fun h9 => cc ((z_lt hr7 hr8).mpr h9)) hf
          clear cc
          refine lv_bipush (v := Int32.ofInt (-4 : Int)) hx hb dX12_histories_63 (by decide) ?_
          obtain ⟨rfl, rfl, rfl⟩ := ou3 hf
          rw [hQ]
          exact W.iret hx hb hr (fun t ht hW => ⟨⟨_, (), rfl, rfl, by rw [ht]; exact hP, va_K.moved hW.alike hK, hD⟩, hS.F ht⟩) hS.2.2 dX12_histories_65
    ·
      replace hf := ite_t ((z_eq0 hr0).mp cc) hf
      clear cc
      refine lv_aload_n hx hb dX12_histories_33 rfl (lv_at hl 1 rfl) ?_
      refine va_get (D := D) (ci := 12) (v := .ref a_p0_goesOn) (C := RX12) (T := TX12) (N := 37) hx hb hts inX12_histories_X12 hown hK hP 0 rfl rfl 29 (by decide) (hts _ mwX12_histories_2) (fun _ h9 => h9) rfl dX12_histories_34 ?_
      refine lv_iload_n hx hb dX12_histories_37 rfl (lv_at hl 0 rfl) ?_
      have hc := ck_c hf
      replace hf := ck_r hf
      refine va_iald hx hb hK hP 4 1 rfl rfl (z_ix_in hc) dX12_histories_38 (z_ci (z_ald w4 hc) ?_)
      clear hc
      obtain ⟨rfl, rfl, rfl⟩ := ou3 hf
      rw [hQ]
      exact W.iret hx hb hr (fun t ht hW => ⟨⟨_, (), rfl, rfl, by rw [ht]; exact hP, va_K.moved hW.alike hK, hD⟩, hS.F ht⟩) hS.2.2 dX12_histories_39
  refine lv_if_eq (tgt := 20) hx hb dX12_histories_1 (by decide) (fun cc => ?_) (fun cc => ?_)
  ·
    replace hf := ite_t ((z_eq0 hr0).mp cc) hf
    clear cc
    exact hJ2  _ _ _ (lv_sub hl [0, 1] rfl) hP hD hS hf
  ·
    replace hf := ite_f (fun h9 => cc ((z_eq0 hr0).mpr h9)) hf
    clear cc
    refine lv_iload_n hx hb dX12_histories_4 rfl (lv_at hl 1 rfl) ?_
    refine lv_i2l (v := Int64.ofInt x1) hx hb dX12_histories_5 (z_i2l hr0) ?_
    refine lv_ldc2 (v := (10 : Int64)) hx hb hown (hts _ mwX12_histories_6) dX12_histories_6 (z_cl (show Int64.ofInt (10 : Int) = _ from by decide) ?_)
    refine lv_ldc2 (v := (15 : Int64)) hx hb hown (hts _ mwX12_histories_7) dX12_histories_9 (z_cl (show Int64.ofInt (15 : Int) = _ from by decide) ?_)
    have hq := bd1_s hf
    clear hf
    obtain ⟨z39, hcall, hf⟩ := hq
    refine gnI (va_runS (As := [.long (Int64.ofInt x1), .long (Int64.ofInt (10 : Int)), .long (Int64.ofInt (15 : Int))]) (rest := []) ⟨hx, hb, hml, hown, hts⟩ (c_X12_in (l := l) (D := D) (G := G) (sz := H.size) (x0 := x1) (x2 := (10 : Int)) (x4 := (15 : Int)) (r := z39) (hf := hcall)) (va_cwS 3 hts gX12_histories_X12_in rfl rfl rfl (by decide +kernel) ⟨Nat.le_of_ble_eq_true rfl, Nat.le_of_ble_eq_true rfl⟩) (preG_S (hP.sub [] rfl) (hD.sub [] rfl rfl) hK) rfl rfl hl.1 rfl (lv_room (Nat.le_of_ble_eq_true rfl)) dX12_histories_12 ⟨Nat.le_of_ble_eq_true rfl, Nat.le_of_ble_eq_true rfl⟩) hP hD hS hA [] rfl (fun H locs hP hD hS => ?_)
    clear hcall
    have hr39 := ck_c hf
    replace hf := ck_r hf
    refine lv_if_ne (tgt := 20) hx hb dX12_histories_15 (by decide) (fun cc => ?_) (fun cc => ?_)
    ·
      replace hf := ite_f (fun h9 => cc ((z_eq0 hr39).mpr h9)) hf
      clear cc
      exact hJ2  _ _ _ (lv_sub hl [0, 1] rfl) hP hD hS hf
    ·
      replace hf := ite_t ((z_eq0 hr39).mp cc) hf
      clear cc
      refine lv_iconst (v := Int32.ofInt (-1 : Int)) hx hb dX12_histories_18 (by decide) ?_
      obtain ⟨rfl, rfl, rfl⟩ := ou3 hf
      rw [hQ]
      exact W.iret hx hb hr (fun t ht hW => ⟨⟨_, (), rfl, rfl, by rw [ht]; exact hP, va_K.moved hW.alike hK, hD⟩, hS.F ht⟩) hS.2.2 dX12_histories_19

noncomputable def B_X12_could_173 (z12 : Int) (again62 : Int → Int → (Int → Int) → (Int → Int) → (Int → Int) → Option (Int × (Int → Int) × (Int → Int) × (Int → Int) × (Int → Int))) (z24 : Int) (w25 : (Int → Int)) (w26 : (Int → Int)) (again173 : Int → (Int → Int) → Option (Int × (Int → Int) × (Int → Int) × (Int → Int) × (Int → Int))) (z29 : Int) (w30 : (Int → Int)) : Option (Int × (Int → Int) × (Int → Int) × (Int → Int) × (Int → Int)) := (ck (z_r32 z29) (if (49 : Int) ≤ z29 then (bnd (z12 + (1 : Int)) (fun (z33 : Int) => (again62 z33 z24 w25 w30 w26))) else (ck (z_ix z29 49) (ck (z_ix z29 49) (ck (z_bB (w26 z29)) (bnd (z_up w30 z29 (w26 z29)) (fun (w34 : (Int → Int)) => (bnd (z29 + (1 : Int)) (fun (z35 : Int) => (again173 z35 w34))))))))))
noncomputable def B_X12_could_106 (i_p0_stirs : Int) (z36 : Int) (again96 : Int → Int → (Int → Int) → (Int → Int) → Option (Int × (Int → Int) × (Int → Int) × (Int → Int) × (Int → Int))) (w15 : (Int → Int)) (i_p0_seats : Int) (v_p0_st : (Int → Int)) (v_p0_brings : (Int → Int)) (w6 : (Int → Int)) (z12 : Int) (again106 : Int → Int → (Int → Int) → (Int → Int) → Option (Int × (Int → Int) × (Int → Int) × (Int → Int) × (Int → Int))) (z43 : Int) (z44 : Int) (w45 : (Int → Int)) (w46 : (Int → Int)) : Option (Int × (Int → Int) × (Int → Int) × (Int → Int) × (Int → Int)) := (ck (z_r32 z43) (ck (z_r32 i_p0_stirs) (if i_p0_stirs ≤ z43 then (bnd (z36 + (1 : Int)) (fun (z50 : Int) => (again96 z50 z44 w45 w46))) else (ck (z_ix z36 49) (ck (z_r32 (w15 z36)) (if (w15 z36) = (0 : Int) then (bnd (z36 + (1 : Int)) (fun (z52 : Int) => (again96 z52 z44 w45 w46))) else (bd2 (f_X12_canGo i_p0_seats v_p0_st v_p0_brings w45 w6 z12 z36 z43) (fun (z53 : Int) (w54 : (Int → Int)) => (ck (z_r32 z53) (if z53 = (0 : Int) then (bnd (z43 + (1 : Int)) (fun (z56 : Int) => (again106 z56 z44 w54 w46))) else (bnd (z_or z44 (z_shl (1 : Int) z43)) (fun (z57 : Int) => (bd2 (f_X12_then i_p0_seats v_p0_st v_p0_brings w54 z36 z43) (fun (z58 : Int) (w59 : (Int → Int)) => (ck (z_ix z58 49) (ck (z_bB (1 : Int)) (bnd (z_up w46 z58 (1 : Int)) (fun (w60 : (Int → Int)) => (bnd (z43 + (1 : Int)) (fun (z61 : Int) => (again106 z61 z57 w59 w60)))))))))))))))))))))
noncomputable def B_X12_could_96 (J27 : Int → (Int → Int) → (Int → Int) → Option (Int × (Int → Int) × (Int → Int) × (Int → Int) × (Int → Int))) (i_p0_stirs : Int) (w15 : (Int → Int)) (i_p0_seats : Int) (v_p0_st : (Int → Int)) (v_p0_brings : (Int → Int)) (w6 : (Int → Int)) (z12 : Int) (again96 : Int → Int → (Int → Int) → (Int → Int) → Option (Int × (Int → Int) × (Int → Int) × (Int → Int) × (Int → Int))) (z36 : Int) (z37 : Int) (w38 : (Int → Int)) (w39 : (Int → Int)) : Option (Int × (Int → Int) × (Int → Int) × (Int → Int) × (Int → Int)) := (ck (z_r32 z36) (if (49 : Int) ≤ z36 then (J27 z37 w38 w39) else (bnd (0 : Int) (fun (z42 : Int) => (lq4 (B_X12_could_106 i_p0_stirs z36 again96 w15 i_p0_seats v_p0_st v_p0_brings w6 z12) 1000 z42 z37 w38 w39)))))
noncomputable def B_X12_could_72 (J22 : (Int → Int) → Option (Int × (Int → Int) × (Int → Int) × (Int → Int) × (Int → Int))) (again72 : Int → (Int → Int) → Option (Int × (Int → Int) × (Int → Int) × (Int → Int) × (Int → Int))) (z62 : Int) (w63 : (Int → Int)) : Option (Int × (Int → Int) × (Int → Int) × (Int → Int) × (Int → Int)) := (ck (z_r32 z62) (if (49 : Int) ≤ z62 then (J22 w63) else (ck (z_ix z62 49) (ck (z_bB (0 : Int)) (bnd (z_up w63 z62 (0 : Int)) (fun (w66 : (Int → Int)) => (bnd (z62 + (1 : Int)) (fun (z67 : Int) => (again72 z67 w66)))))))))
noncomputable def B_X12_could_62 (x1 : Int) (w6 : (Int → Int)) (i_p0_stirs : Int) (i_p0_seats : Int) (v_p0_st : (Int → Int)) (v_p0_brings : (Int → Int)) (again62 : Int → Int → (Int → Int) → (Int → Int) → (Int → Int) → Option (Int × (Int → Int) × (Int → Int) × (Int → Int) × (Int → Int))) (z12 : Int) (z13 : Int) (w14 : (Int → Int)) (w15 : (Int → Int)) (w16 : (Int → Int)) : Option (Int × (Int → Int) × (Int → Int) × (Int → Int) × (Int → Int)) := (ck (z_r32 z12) (if x1 < z12 then (some (z13, w14, w6, w15, w16)) else (bnd (0 : Int) (fun (z19 : Int) => (bnd (0 : Int) (fun (z20 : Int) => (jn (fun (w21 : (Int → Int)) => (bnd (0 : Int) (fun (z23 : Int) => (jn (fun (z24 : Int) (w25 : (Int → Int)) (w26 : (Int → Int)) => (bnd (0 : Int) (fun (z28 : Int) => (lq2 (B_X12_could_173 z12 again62 z24 w25 w26) 1000 z28 w15)))) (fun (J27 : Int → (Int → Int) → (Int → Int) → Option (Int × (Int → Int) × (Int → Int) × (Int → Int) × (Int → Int))) => (lq4 (B_X12_could_96 J27 i_p0_stirs w15 i_p0_seats v_p0_st v_p0_brings w6 z12) 1000 z23 z19 w14 w21)))))) (fun (J22 : (Int → Int) → Option (Int × (Int → Int) × (Int → Int) × (Int → Int) × (Int → Int))) => (lq2 (B_X12_could_72 J22) 1000 z20 w16)))))))))
noncomputable def B_X12_could_29 (J10 : (Int → Int) → Option (Int × (Int → Int) × (Int → Int) × (Int → Int) × (Int → Int))) (v_p0_st : (Int → Int)) (again29 : Int → (Int → Int) → Option (Int × (Int → Int) × (Int → Int) × (Int → Int) × (Int → Int))) (z68 : Int) (w69 : (Int → Int)) : Option (Int × (Int → Int) × (Int → Int) × (Int → Int) × (Int → Int)) := (ck (z_r32 z68) (if (49 : Int) ≤ z68 then (J10 w69) else (bd1 (f_X12_stateNow v_p0_st) (fun (z72 : Int) => (ck (z_r32 z72) (if z68 = z72 then (ck (z_ix z68 49) (ck (z_bB (1 : Int)) (bnd (z_up w69 z68 (1 : Int)) (fun (w76 : (Int → Int)) => (bnd (z68 + (1 : Int)) (fun (z77 : Int) => (again29 z77 w76))))))) else (ck (z_ix z68 49) (ck (z_bB (0 : Int)) (bnd (z_up w69 z68 (0 : Int)) (fun (w74 : (Int → Int)) => (bnd (z68 + (1 : Int)) (fun (z75 : Int) => (again29 z75 w74)))))))))))))
noncomputable def f_X12_could (i_p0_seats : Int) (i_p0_stirs : Int) (v_p0_st : (Int → Int)) (v_p0_brings : (Int → Int)) (v_p0_places : (Int → Int)) (v_p0_goesOn : (Int → Int)) (v_p0_isThere : (Int → Int)) (v_p0_isThereThen : (Int → Int)) (x1 : Int) : Option (Int × (Int → Int) × (Int → Int) × (Int → Int) × (Int → Int)) := (ck (z_r32 x1) (ck (z_ix (31 : Int) 152) (ck (z_r32 ((v_p0_st (31 : Int)) - (1 : Int))) (bd1 (f_X12_in x1 (0 : Int) ((v_p0_st (31 : Int)) - (1 : Int))) (fun (z3 : Int) => (ck (z_r32 z3) (if z3 = (0 : Int) then (some ((-1 : Int), v_p0_places, v_p0_goesOn, v_p0_isThere, v_p0_isThereThen)) else (bd2 (f_X12_findHistories i_p0_seats i_p0_stirs v_p0_st v_p0_brings v_p0_places v_p0_goesOn) (fun (w5 : (Int → Int)) (w6 : (Int → Int)) => (bnd (0 : Int) (fun (z7 : Int) => (bnd (0 : Int) (fun (z8 : Int) => (jn (fun (w9 : (Int → Int)) => (bnd (0 : Int) (fun (z11 : Int) => (lq5 (B_X12_could_62 x1 w6 i_p0_stirs i_p0_seats v_p0_st v_p0_brings) 1000 z11 z7 w5 w9 v_p0_isThereThen)))) (fun (J10 : (Int → Int) → Option (Int × (Int → Int) × (Int → Int) × (Int → Int) × (Int → Int))) => (lq2 (B_X12_could_29 J10 v_p0_st) 1000 z8 v_p0_isThere))))))))))))))))
abbrev rm_X12_could : Room := { frames := 5, cells := 0, slots := 0, locals := 117 }
theorem inX12_could_X12 : ∀ w ∈ wsX120, w ∈ wsX12_could := by first | exact fun w h => List.mem_cons_of_mem _ (List.mem_append_right _ h) | decide +kernel
theorem mwX12_could_1 : Cond.fieldLink RX12 7 "LadleKingsModel" "st" "[I" ∈ wsX12_could := by first | exact List.mem_of_getElem? (i := 1) rfl | decide +kernel
theorem mwX12_could_2 : Cond.fieldLink RX12 63 "LadleKingsModel" "isThere" "[Z" ∈ wsX12_could := by first | exact List.mem_of_getElem? (i := 2) rfl | decide +kernel
theorem mwX12_could_3 : Cond.fieldLink RX12 66 "LadleKingsModel" "isThereThen" "[Z" ∈ wsX12_could := by first | exact List.mem_of_getElem? (i := 3) rfl | decide +kernel
theorem mwX12_could_4 : Cond.fieldLink RX12 103 "LadleKingsModel" "stirs" "I" ∈ wsX12_could := by first | exact List.mem_of_getElem? (i := 4) rfl | decide +kernel
set_option maxHeartbeats 8000000 in
set_option maxRecDepth 100000 in
theorem c_X12_could (l : Launch) (D : va_G) (G : Nat → ClassId) (sz : Nat) (a_p0 : Nat) (a_p0_st : Nat) (a_p0_isKept : Nat) (a_p0_brings : Nat) (a_p0_need : Nat) (a_p0_draft : Nat) (a_p0_dStir : Nat) (a_p0_dNeed : Nat) (a_p0_tape : Nat) (a_p0_places : Nat) (a_p0_stirred : Nat) (a_p0_ways : Nat) (a_p0_waysThen : Nat) (a_p0_stays : Nat) (a_p0_fewest : Nat) (a_p0_bowls : Nat) (a_p0_has : Nat) (a_p0_goesOn : Nat) (a_p0_isThere : Nat) (a_p0_isThereThen : Nat) (a_p0_bestRow : Nat) (a_p0_lanes : Nat) (a_p0_sizes : Nat) (a_p0_cells : Nat) (i_p0_seats : Int) (i_p0_stirs : Int) (i_p0_dSeats : Int) (i_p0_dStirs : Int) (i_p0_told : Int) (i_p0_highest : Int) (i_p0_taped : Int) (i_p0_pos : Int) (i_p0_from : Int) (i_p0_sort : Int) (i_p0_value : Int) (i_p0_fault : Int) (i_p0_wrongAt : Int) (i_p0_torn : Int) (v_p0_st : (Int → Int)) (v_p0_brings : (Int → Int)) (v_p0_places : (Int → Int)) (v_p0_goesOn : (Int → Int)) (v_p0_isThere : (Int → Int)) (v_p0_isThereThen : (Int → Int)) (x1 : Int) (r : Int) (o_v_p0_places : (Int → Int)) (o_v_p0_goesOn : (Int → Int)) (o_v_p0_isThere : (Int → Int)) (o_v_p0_isThereThen : (Int → Int)) (hf : f_X12_could i_p0_seats i_p0_stirs v_p0_st v_p0_brings v_p0_places v_p0_goesOn v_p0_isThere v_p0_isThereThen x1 = some (r, o_v_p0_places, o_v_p0_goesOn, o_v_p0_isThere, o_v_p0_isThereThen)) : Met l yX12_could wsX12_could rm_X12_could (pcG D G [.ref a_p0, .int (Int32.ofInt x1)] sz [(a_p0, .inr (12, [.ref a_p0_st, .ref a_p0_isKept, .int (Int32.ofInt i_p0_seats), .int (Int32.ofInt i_p0_stirs), .ref a_p0_brings, .ref a_p0_need, .ref a_p0_draft, .int (Int32.ofInt i_p0_dSeats), .int (Int32.ofInt i_p0_dStirs), .ref a_p0_dStir, .ref a_p0_dNeed, .int (Int32.ofInt i_p0_told), .int (Int32.ofInt i_p0_highest), .ref a_p0_tape, .int (Int32.ofInt i_p0_taped), .int (Int32.ofInt i_p0_pos), .int (Int32.ofInt i_p0_from), .int (Int32.ofInt i_p0_sort), .int (Int32.ofInt i_p0_value), .int (Int32.ofInt i_p0_fault), .int (Int32.ofInt i_p0_wrongAt), .ref a_p0_places, .ref a_p0_stirred, .ref a_p0_ways, .ref a_p0_waysThen, .ref a_p0_stays, .ref a_p0_fewest, .ref a_p0_bowls, .ref a_p0_has, .ref a_p0_goesOn, .ref a_p0_isThere, .ref a_p0_isThereThen, .ref a_p0_bestRow, .ref a_p0_lanes, .ref a_p0_sizes, .ref a_p0_cells, .int (Int32.ofInt i_p0_torn)])), (a_p0_st, .inl (G 1, 152, .inl (zA v_p0_st))), (a_p0_brings, .inl (G 1, 35, .inl (zA v_p0_brings))), (a_p0_places, .inl (G 1, 7, .inl (zA v_p0_places))), (a_p0_goesOn, .inl (G 1, 343, .inl (zA v_p0_goesOn))), (a_p0_isThere, .inl (G 3, 49, .inl (zA v_p0_isThere))), (a_p0_isThereThen, .inl (G 3, 49, .inl (zA v_p0_isThereThen)))]) (qcI D G (Int32.ofInt r) [(a_p0, .inr (12, [.ref a_p0_st, .ref a_p0_isKept, .int (Int32.ofInt i_p0_seats), .int (Int32.ofInt i_p0_stirs), .ref a_p0_brings, .ref a_p0_need, .ref a_p0_draft, .int (Int32.ofInt i_p0_dSeats), .int (Int32.ofInt i_p0_dStirs), .ref a_p0_dStir, .ref a_p0_dNeed, .int (Int32.ofInt i_p0_told), .int (Int32.ofInt i_p0_highest), .ref a_p0_tape, .int (Int32.ofInt i_p0_taped), .int (Int32.ofInt i_p0_pos), .int (Int32.ofInt i_p0_from), .int (Int32.ofInt i_p0_sort), .int (Int32.ofInt i_p0_value), .int (Int32.ofInt i_p0_fault), .int (Int32.ofInt i_p0_wrongAt), .ref a_p0_places, .ref a_p0_stirred, .ref a_p0_ways, .ref a_p0_waysThen, .ref a_p0_stays, .ref a_p0_fewest, .ref a_p0_bowls, .ref a_p0_has, .ref a_p0_goesOn, .ref a_p0_isThere, .ref a_p0_isThereThen, .ref a_p0_bestRow, .ref a_p0_lanes, .ref a_p0_sizes, .ref a_p0_cells, .int (Int32.ofInt i_p0_torn)])), (a_p0_st, .inl (G 1, 152, .inl (zA v_p0_st))), (a_p0_brings, .inl (G 1, 35, .inl (zA v_p0_brings))), (a_p0_places, .inl (G 1, 7, .inl (zA o_v_p0_places))), (a_p0_goesOn, .inl (G 1, 343, .inl (zA o_v_p0_goesOn))), (a_p0_isThere, .inl (G 3, 49, .inl (zA o_v_p0_isThere))), (a_p0_isThereThen, .inl (G 3, 49, .inl (zA o_v_p0_isThereThen)))] (va_A [(a_p0, .inr (12, [.ref a_p0_st, .ref a_p0_isKept, .int (Int32.ofInt i_p0_seats), .int (Int32.ofInt i_p0_stirs), .ref a_p0_brings, .ref a_p0_need, .ref a_p0_draft, .int (Int32.ofInt i_p0_dSeats), .int (Int32.ofInt i_p0_dStirs), .ref a_p0_dStir, .ref a_p0_dNeed, .int (Int32.ofInt i_p0_told), .int (Int32.ofInt i_p0_highest), .ref a_p0_tape, .int (Int32.ofInt i_p0_taped), .int (Int32.ofInt i_p0_pos), .int (Int32.ofInt i_p0_from), .int (Int32.ofInt i_p0_sort), .int (Int32.ofInt i_p0_value), .int (Int32.ofInt i_p0_fault), .int (Int32.ofInt i_p0_wrongAt), .ref a_p0_places, .ref a_p0_stirred, .ref a_p0_ways, .ref a_p0_waysThen, .ref a_p0_stays, .ref a_p0_fewest, .ref a_p0_bowls, .ref a_p0_has, .ref a_p0_goesOn, .ref a_p0_isThere, .ref a_p0_isThereThen, .ref a_p0_bestRow, .ref a_p0_lanes, .ref a_p0_sizes, .ref a_p0_cells, .int (Int32.ofInt i_p0_torn)])), (a_p0_st, .inl (G 1, 152, .inl (zA v_p0_st))), (a_p0_brings, .inl (G 1, 35, .inl (zA v_p0_brings))), (a_p0_places, .inl (G 1, 7, .inl (zA v_p0_places))), (a_p0_goesOn, .inl (G 1, 343, .inl (zA v_p0_goesOn))), (a_p0_isThere, .inl (G 3, 49, .inl (zA v_p0_isThere))), (a_p0_isThereThen, .inl (G 3, 49, .inl (zA v_p0_isThereThen)))] sz)) 0 0 (va_A [(a_p0, .inr (12, [.ref a_p0_st, .ref a_p0_isKept, .int (Int32.ofInt i_p0_seats), .int (Int32.ofInt i_p0_stirs), .ref a_p0_brings, .ref a_p0_need, .ref a_p0_draft, .int (Int32.ofInt i_p0_dSeats), .int (Int32.ofInt i_p0_dStirs), .ref a_p0_dStir, .ref a_p0_dNeed, .int (Int32.ofInt i_p0_told), .int (Int32.ofInt i_p0_highest), .ref a_p0_tape, .int (Int32.ofInt i_p0_taped), .int (Int32.ofInt i_p0_pos), .int (Int32.ofInt i_p0_from), .int (Int32.ofInt i_p0_sort), .int (Int32.ofInt i_p0_value), .int (Int32.ofInt i_p0_fault), .int (Int32.ofInt i_p0_wrongAt), .ref a_p0_places, .ref a_p0_stirred, .ref a_p0_ways, .ref a_p0_waysThen, .ref a_p0_stays, .ref a_p0_fewest, .ref a_p0_bowls, .ref a_p0_has, .ref a_p0_goesOn, .ref a_p0_isThere, .ref a_p0_isThereThen, .ref a_p0_bestRow, .ref a_p0_lanes, .ref a_p0_sizes, .ref a_p0_cells, .int (Int32.ofInt i_p0_torn)])), (a_p0_st, .inl (G 1, 152, .inl (zA v_p0_st))), (a_p0_brings, .inl (G 1, 35, .inl (zA v_p0_brings))), (a_p0_places, .inl (G 1, 7, .inl (zA v_p0_places))), (a_p0_goesOn, .inl (G 1, 343, .inl (zA v_p0_goesOn))), (a_p0_isThere, .inl (G 3, 49, .inl (zA v_p0_isThere))), (a_p0_isThereThen, .inl (G 3, 49, .inl (zA v_p0_isThereThen)))] sz) := by
  refine Met.ofW (cc := cX12_could) (maxL := 6) (ret := (some .int)) (by decide) rfl ?_
  intro p e s m args below meth c s₁ B hml hv
  obtain ⟨rfl, hsz, hP, hK, hD0⟩ := hv
  have hx := B.exec
  have hb := B.bytes
  have hr := B.returns
  have hts := atoms_spec (ws := wsX12_could) B.pre
  have hown : s.vm.findClass RX12 = some m.cls := findClass_of_methodNamed B.named
  have hlocks := B.notSynchronized
  subst hsz
  have hD := hD0.self (sz := s.heap.size)
  generalize hAe : va_A [(a_p0, .inr (12, [.ref a_p0_st, .ref a_p0_isKept, .int (Int32.ofInt i_p0_seats), .int (Int32.ofInt i_p0_stirs), .ref a_p0_brings, .ref a_p0_need, .ref a_p0_draft, .int (Int32.ofInt i_p0_dSeats), .int (Int32.ofInt i_p0_dStirs), .ref a_p0_dStir, .ref a_p0_dNeed, .int (Int32.ofInt i_p0_told), .int (Int32.ofInt i_p0_highest), .ref a_p0_tape, .int (Int32.ofInt i_p0_taped), .int (Int32.ofInt i_p0_pos), .int (Int32.ofInt i_p0_from), .int (Int32.ofInt i_p0_sort), .int (Int32.ofInt i_p0_value), .int (Int32.ofInt i_p0_fault), .int (Int32.ofInt i_p0_wrongAt), .ref a_p0_places, .ref a_p0_stirred, .ref a_p0_ways, .ref a_p0_waysThen, .ref a_p0_stays, .ref a_p0_fewest, .ref a_p0_bowls, .ref a_p0_has, .ref a_p0_goesOn, .ref a_p0_isThere, .ref a_p0_isThereThen, .ref a_p0_bestRow, .ref a_p0_lanes, .ref a_p0_sizes, .ref a_p0_cells, .int (Int32.ofInt i_p0_torn)])), (a_p0_st, .inl (G 1, 152, .inl (zA v_p0_st))), (a_p0_brings, .inl (G 1, 35, .inl (zA v_p0_brings))), (a_p0_places, .inl (G 1, 7, .inl (zA v_p0_places))), (a_p0_goesOn, .inl (G 1, 343, .inl (zA v_p0_goesOn))), (a_p0_isThere, .inl (G 3, 49, .inl (zA v_p0_isThere))), (a_p0_isThereThen, .inl (G 3, 49, .inl (zA v_p0_isThereThen)))] s.heap.size = A at hD ⊢
  have hA : ∀ q : Nat, s.heap.size ≤ q → A q := fun q h => by rw [← hAe]; exact Or.inr h
  clear hAe hD0
  have hS : va_S A s.heap s.heap [] := va_S.rf
  have hl := lv_entry ([.ref a_p0, .int (Int32.ofInt x1)]) (n := 6) (Nat.le_of_ble_eq_true rfl)
  rw [lg_entry_eq]
  generalize (lg_sl ([.ref a_p0, .int (Int32.ofInt x1)]) ++ List.replicate (6 - (lg_sl ([.ref a_p0, .int (Int32.ofInt x1)])).length) Slot.unset).toArray = ls at hl ⊢
  have hl : lv_has ls 6 [(0, .ref a_p0), (1, .int (Int32.ofInt x1))] := hl
  refine W_nameQ (fun Q hQ => ?_)
  obtain ⟨H, hH⟩ : ∃ H, H = s.heap := ⟨_, rfl⟩
  replace hS : va_S A s.heap H [] := by rw [hH]; exact hS
  replace hP : va_P D vwCl [(a_p0, .inr (12, [.ref a_p0_st, .ref a_p0_isKept, .int (Int32.ofInt i_p0_seats), .int (Int32.ofInt i_p0_stirs), .ref a_p0_brings, .ref a_p0_need, .ref a_p0_draft, .int (Int32.ofInt i_p0_dSeats), .int (Int32.ofInt i_p0_dStirs), .ref a_p0_dStir, .ref a_p0_dNeed, .int (Int32.ofInt i_p0_told), .int (Int32.ofInt i_p0_highest), .ref a_p0_tape, .int (Int32.ofInt i_p0_taped), .int (Int32.ofInt i_p0_pos), .int (Int32.ofInt i_p0_from), .int (Int32.ofInt i_p0_sort), .int (Int32.ofInt i_p0_value), .int (Int32.ofInt i_p0_fault), .int (Int32.ofInt i_p0_wrongAt), .ref a_p0_places, .ref a_p0_stirred, .ref a_p0_ways, .ref a_p0_waysThen, .ref a_p0_stays, .ref a_p0_fewest, .ref a_p0_bowls, .ref a_p0_has, .ref a_p0_goesOn, .ref a_p0_isThere, .ref a_p0_isThereThen, .ref a_p0_bestRow, .ref a_p0_lanes, .ref a_p0_sizes, .ref a_p0_cells, .int (Int32.ofInt i_p0_torn)])), (a_p0_st, .inl (G 1, 152, .inl (zA v_p0_st))), (a_p0_brings, .inl (G 1, 35, .inl (zA v_p0_brings))), (a_p0_places, .inl (G 1, 7, .inl (zA v_p0_places))), (a_p0_goesOn, .inl (G 1, 343, .inl (zA v_p0_goesOn))), (a_p0_isThere, .inl (G 3, 49, .inl (zA v_p0_isThere))), (a_p0_isThereThen, .inl (G 3, 49, .inl (zA v_p0_isThereThen)))] H := by rw [hH]; exact hP
  rw [← hH]
  clear hH
  unfold f_X12_could at hf
  refine lv_iload_n hx hb dX12_could_0 rfl (lv_at hl 1 rfl) ?_
  have hr0 := ck_c hf
  replace hf := ck_r hf
  refine lv_i2l (v := Int64.ofInt x1) hx hb dX12_could_1 (z_i2l hr0) ?_
  refine lv_lconst (v := Int64.ofInt (0 : Int)) hx hb dX12_could_2 (by decide) ?_
  refine lv_aload_n hx hb dX12_could_3 rfl (lv_at hl 0 rfl) ?_
  refine va_get (D := D) (ci := 12) (v := .ref a_p0_st) (C := RX12) (T := TX12) (N := 37) hx hb hts inX12_could_X12 hown hK hP 0 rfl rfl 0 (by decide) (hts _ mwX12_could_1) (fun _ h9 => h9) rfl dX12_could_4 ?_
  refine lv_bipush (v := Int32.ofInt (31 : Int)) hx hb dX12_could_7 (by decide) ?_
  have hc := ck_c hf
  replace hf := ck_r hf
  refine va_iald hx hb hK hP 1 1 rfl rfl (z_ix_in hc) dX12_could_9 (z_ci (z_ald v_p0_st hc) ?_)
  clear hc
  refine lv_iconst (v := Int32.ofInt (1 : Int)) hx hb dX12_could_10 (by decide) ?_
  refine lv_isub hx hb dX12_could_11 (z_ci (Int32.ofInt_sub (v_p0_st (31 : Int)) (1 : Int)) ?_)
  have hr1 := ck_c hf
  replace hf := ck_r hf
  refine lv_i2l (v := Int64.ofInt ((v_p0_st (31 : Int)) - (1 : Int))) hx hb dX12_could_12 (z_i2l hr1) ?_
  have hq := bd1_s hf
  clear hf
  obtain ⟨z3, hcall, hf⟩ := hq
  refine gnI (va_runS (As := [.long (Int64.ofInt x1), .long (Int64.ofInt (0 : Int)), .long (Int64.ofInt ((v_p0_st (31 : Int)) - (1 : Int)))]) (rest := []) ⟨hx, hb, hml, hown, hts⟩ (c_X12_in (l := l) (D := D) (G := G) (sz := H.size) (x0 := x1) (x2 := (0 : Int)) (x4 := ((v_p0_st (31 : Int)) - (1 : Int))) (r := z3) (hf := hcall)) (va_cwS 3 hts gX12_could_X12_in rfl rfl rfl (by decide +kernel) ⟨Nat.le_of_ble_eq_true rfl, Nat.le_of_ble_eq_true rfl⟩) (preG_S (hP.sub [] rfl) (hD.sub [] rfl rfl) hK) rfl rfl hl.1 rfl (lv_room (Nat.le_of_ble_eq_true rfl)) dX12_could_13 ⟨Nat.le_of_ble_eq_true rfl, Nat.le_of_ble_eq_true rfl⟩) hP hD hS hA [] rfl (fun H locs hP hD hS => ?_)
  clear hcall
  have hr3 := ck_c hf
  replace hf := ck_r hf
  refine lv_if_ne (tgt := 21) hx hb dX12_could_16 (by decide) (fun cc => ?_) (fun cc => ?_)
  ·
    replace hf := ite_f (fun h9 => cc ((z_eq0 hr3).mpr h9)) hf
    clear cc
    refine lv_aload_n hx hb dX12_could_21 rfl (lv_at hl 0 rfl) ?_
    have hq := bd2_s hf
    clear hf
    obtain ⟨w5, w6, hcall, hf⟩ := hq
    refine gsV (ws' := [(a_p0, .inr (12, [.ref a_p0_st, .ref a_p0_isKept, .int (Int32.ofInt i_p0_seats), .int (Int32.ofInt i_p0_stirs), .ref a_p0_brings, .ref a_p0_need, .ref a_p0_draft, .int (Int32.ofInt i_p0_dSeats), .int (Int32.ofInt i_p0_dStirs), .ref a_p0_dStir, .ref a_p0_dNeed, .int (Int32.ofInt i_p0_told), .int (Int32.ofInt i_p0_highest), .ref a_p0_tape, .int (Int32.ofInt i_p0_taped), .int (Int32.ofInt i_p0_pos), .int (Int32.ofInt i_p0_from), .int (Int32.ofInt i_p0_sort), .int (Int32.ofInt i_p0_value), .int (Int32.ofInt i_p0_fault), .int (Int32.ofInt i_p0_wrongAt), .ref a_p0_places, .ref a_p0_stirred, .ref a_p0_ways, .ref a_p0_waysThen, .ref a_p0_stays, .ref a_p0_fewest, .ref a_p0_bowls, .ref a_p0_has, .ref a_p0_goesOn, .ref a_p0_isThere, .ref a_p0_isThereThen, .ref a_p0_bestRow, .ref a_p0_lanes, .ref a_p0_sizes, .ref a_p0_cells, .int (Int32.ofInt i_p0_torn)])), (a_p0_st, .inl (G 1, 152, .inl (zA v_p0_st))), (a_p0_brings, .inl (G 1, 35, .inl (zA v_p0_brings))), (a_p0_places, .inl (G 1, 7, .inl (zA w5))), (a_p0_goesOn, .inl (G 1, 343, .inl (zA w6))), (a_p0_isThere, .inl (G 3, 49, .inl (zA v_p0_isThere))), (a_p0_isThereThen, .inl (G 3, 49, .inl (zA v_p0_isThereThen)))]) (va_runV (As := []) (rest := []) ⟨hx, hb, hml, hown, hts⟩ (c_X12_findHistories (l := l) (D := D) (G := G) (sz := H.size) (a_p0 := a_p0) (a_p0_st := a_p0_st) (a_p0_isKept := a_p0_isKept) (a_p0_brings := a_p0_brings) (a_p0_need := a_p0_need) (a_p0_draft := a_p0_draft) (a_p0_dStir := a_p0_dStir) (a_p0_dNeed := a_p0_dNeed) (a_p0_tape := a_p0_tape) (a_p0_places := a_p0_places) (a_p0_stirred := a_p0_stirred) (a_p0_ways := a_p0_ways) (a_p0_waysThen := a_p0_waysThen) (a_p0_stays := a_p0_stays) (a_p0_fewest := a_p0_fewest) (a_p0_bowls := a_p0_bowls) (a_p0_has := a_p0_has) (a_p0_goesOn := a_p0_goesOn) (a_p0_isThere := a_p0_isThere) (a_p0_isThereThen := a_p0_isThereThen) (a_p0_bestRow := a_p0_bestRow) (a_p0_lanes := a_p0_lanes) (a_p0_sizes := a_p0_sizes) (a_p0_cells := a_p0_cells) (i_p0_seats := i_p0_seats) (i_p0_stirs := i_p0_stirs) (i_p0_dSeats := i_p0_dSeats) (i_p0_dStirs := i_p0_dStirs) (i_p0_told := i_p0_told) (i_p0_highest := i_p0_highest) (i_p0_taped := i_p0_taped) (i_p0_pos := i_p0_pos) (i_p0_from := i_p0_from) (i_p0_sort := i_p0_sort) (i_p0_value := i_p0_value) (i_p0_fault := i_p0_fault) (i_p0_wrongAt := i_p0_wrongAt) (i_p0_torn := i_p0_torn) (v_p0_st := v_p0_st) (v_p0_brings := v_p0_brings) (v_p0_places := v_p0_places) (v_p0_goesOn := v_p0_goesOn) (o_v_p0_places := w5) (o_v_p0_goesOn := w6) (hf := hcall)) (cwV 0 hts gX12_could_X12_findHistories rfl rfl rfl hdV_yX12_findHistories_RX12 ⟨Nat.le_of_ble_eq_true rfl, Nat.le_of_ble_eq_true rfl⟩) (preG_V (ci := 12) (q := (RX12, TX12, 37)) (hP.sub [0, 1, 2, 3, 4] rfl) (hD.sub [0, 1, 2, 3, 4] rfl rfl) hK rfl rfl) rfl rfl hl.1 rfl (lv_room (Nat.le_of_ble_eq_true rfl)) dX12_could_22 ⟨Nat.le_of_ble_eq_true rfl, Nat.le_of_ble_eq_true rfl⟩) hP hD hS hA [0, 1, 2, 3, 4] rfl rfl rfl (fun H locs hP hD hS => ?_)
    clear hcall
    refine lv_iconst (v := Int32.ofInt (0 : Int)) hx hb dX12_could_25 (by decide) ?_
    refine z_topi (fun z7 ez => ?_)
    replace hf := bnd_s hf ez
    clear ez
    refine lv_istore_n (lv' := [(2, .int (Int32.ofInt z7)), (0, .ref a_p0), (1, .int (Int32.ofInt x1))]) hx hb dX12_could_26 rfl hl (by decide) rfl (fun ls hl => ?_)
    refine lv_iconst (v := Int32.ofInt (0 : Int)) hx hb dX12_could_27 (by decide) ?_
    refine z_topi (fun z8 ez => ?_)
    replace hf := bnd_s hf ez
    clear ez
    refine lv_istore_n (lv' := [(3, .int (Int32.ofInt z8)), (2, .int (Int32.ofInt z7)), (0, .ref a_p0), (1, .int (Int32.ofInt x1))]) hx hb dX12_could_28 rfl hl (by decide) rfl (fun ls hl => ?_)
    have hq := jn_i hf
    clear hf
    obtain ⟨J10, eJ10, hf⟩ := hq
    have hJ10 : ∀ (w9 : (Int → Int)) (ls : Array Slot) (H : Heap) (locs : List Loc), lv_has ls 6 [(2, .int (Int32.ofInt z7)), (0, .ref a_p0), (1, .int (Int32.ofInt x1))] → va_P D vwCl [(a_p0, .inr (12, [.ref a_p0_st, .ref a_p0_isKept, .int (Int32.ofInt i_p0_seats), .int (Int32.ofInt i_p0_stirs), .ref a_p0_brings, .ref a_p0_need, .ref a_p0_draft, .int (Int32.ofInt i_p0_dSeats), .int (Int32.ofInt i_p0_dStirs), .ref a_p0_dStir, .ref a_p0_dNeed, .int (Int32.ofInt i_p0_told), .int (Int32.ofInt i_p0_highest), .ref a_p0_tape, .int (Int32.ofInt i_p0_taped), .int (Int32.ofInt i_p0_pos), .int (Int32.ofInt i_p0_from), .int (Int32.ofInt i_p0_sort), .int (Int32.ofInt i_p0_value), .int (Int32.ofInt i_p0_fault), .int (Int32.ofInt i_p0_wrongAt), .ref a_p0_places, .ref a_p0_stirred, .ref a_p0_ways, .ref a_p0_waysThen, .ref a_p0_stays, .ref a_p0_fewest, .ref a_p0_bowls, .ref a_p0_has, .ref a_p0_goesOn, .ref a_p0_isThere, .ref a_p0_isThereThen, .ref a_p0_bestRow, .ref a_p0_lanes, .ref a_p0_sizes, .ref a_p0_cells, .int (Int32.ofInt i_p0_torn)])), (a_p0_st, .inl (G 1, 152, .inl (zA v_p0_st))), (a_p0_brings, .inl (G 1, 35, .inl (zA v_p0_brings))), (a_p0_places, .inl (G 1, 7, .inl (zA w5))), (a_p0_goesOn, .inl (G 1, 343, .inl (zA w6))), (a_p0_isThere, .inl (G 3, 49, .inl (zA w9))), (a_p0_isThereThen, .inl (G 3, 49, .inl (zA v_p0_isThereThen)))] H → va_D A [(a_p0, .inr (12, [.ref a_p0_st, .ref a_p0_isKept, .int (Int32.ofInt i_p0_seats), .int (Int32.ofInt i_p0_stirs), .ref a_p0_brings, .ref a_p0_need, .ref a_p0_draft, .int (Int32.ofInt i_p0_dSeats), .int (Int32.ofInt i_p0_dStirs), .ref a_p0_dStir, .ref a_p0_dNeed, .int (Int32.ofInt i_p0_told), .int (Int32.ofInt i_p0_highest), .ref a_p0_tape, .int (Int32.ofInt i_p0_taped), .int (Int32.ofInt i_p0_pos), .int (Int32.ofInt i_p0_from), .int (Int32.ofInt i_p0_sort), .int (Int32.ofInt i_p0_value), .int (Int32.ofInt i_p0_fault), .int (Int32.ofInt i_p0_wrongAt), .ref a_p0_places, .ref a_p0_stirred, .ref a_p0_ways, .ref a_p0_waysThen, .ref a_p0_stays, .ref a_p0_fewest, .ref a_p0_bowls, .ref a_p0_has, .ref a_p0_goesOn, .ref a_p0_isThere, .ref a_p0_isThereThen, .ref a_p0_bestRow, .ref a_p0_lanes, .ref a_p0_sizes, .ref a_p0_cells, .int (Int32.ofInt i_p0_torn)])), (a_p0_st, .inl (G 1, 152, .inl (zA v_p0_st))), (a_p0_brings, .inl (G 1, 35, .inl (zA v_p0_brings))), (a_p0_places, .inl (G 1, 7, .inl (zA w5))), (a_p0_goesOn, .inl (G 1, 343, .inl (zA w6))), (a_p0_isThere, .inl (G 3, 49, .inl (zA w9))), (a_p0_isThereThen, .inl (G 3, 49, .inl (zA v_p0_isThereThen)))] → va_S A s.heap H locs → J10 w9 = some (r, o_v_p0_places, o_v_p0_goesOn, o_v_p0_isThere, o_v_p0_isThereThen) → W p l e rm_X12_could s m ([.ref a_p0, .int (Int32.ofInt x1)] : List Value).toArray below meth c H locs 0 0 Q (F0 m 60 ls []) := by
      clear hf hl hP hD hS
      intro w9 ls H locs hl hP hD hS hf
      replace hf := jn1_s eJ10 hf
      refine lv_iconst (v := Int32.ofInt (0 : Int)) hx hb dX12_could_60 (by decide) ?_
      refine z_topi (fun z11 ez => ?_)
      replace hf := bnd_s hf ez
      clear ez
      refine lv_istore_n (lv' := [(3, .int (Int32.ofInt z11)), (2, .int (Int32.ofInt z7)), (0, .ref a_p0), (1, .int (Int32.ofInt x1))]) hx hb dX12_could_61 rfl hl (by decide) rfl (fun ls hl => ?_)
      have hq := lq5_i hf
      clear hf
      obtain ⟨B17, eB17, NB17, hf⟩ := hq
      have hB17 : ∀ (n : Nat) (z12 : Int) (z13 : Int) (w14 : (Int → Int)) (w15 : (Int → Int)) (w16 : (Int → Int)) (ls : Array Slot) (H : Heap) (locs : List Loc), lv_has ls 6 [(3, .int (Int32.ofInt z12)), (2, .int (Int32.ofInt z13)), (0, .ref a_p0), (1, .int (Int32.ofInt x1))] → va_P D vwCl [(a_p0, .inr (12, [.ref a_p0_st, .ref a_p0_isKept, .int (Int32.ofInt i_p0_seats), .int (Int32.ofInt i_p0_stirs), .ref a_p0_brings, .ref a_p0_need, .ref a_p0_draft, .int (Int32.ofInt i_p0_dSeats), .int (Int32.ofInt i_p0_dStirs), .ref a_p0_dStir, .ref a_p0_dNeed, .int (Int32.ofInt i_p0_told), .int (Int32.ofInt i_p0_highest), .ref a_p0_tape, .int (Int32.ofInt i_p0_taped), .int (Int32.ofInt i_p0_pos), .int (Int32.ofInt i_p0_from), .int (Int32.ofInt i_p0_sort), .int (Int32.ofInt i_p0_value), .int (Int32.ofInt i_p0_fault), .int (Int32.ofInt i_p0_wrongAt), .ref a_p0_places, .ref a_p0_stirred, .ref a_p0_ways, .ref a_p0_waysThen, .ref a_p0_stays, .ref a_p0_fewest, .ref a_p0_bowls, .ref a_p0_has, .ref a_p0_goesOn, .ref a_p0_isThere, .ref a_p0_isThereThen, .ref a_p0_bestRow, .ref a_p0_lanes, .ref a_p0_sizes, .ref a_p0_cells, .int (Int32.ofInt i_p0_torn)])), (a_p0_st, .inl (G 1, 152, .inl (zA v_p0_st))), (a_p0_brings, .inl (G 1, 35, .inl (zA v_p0_brings))), (a_p0_places, .inl (G 1, 7, .inl (zA w14))), (a_p0_goesOn, .inl (G 1, 343, .inl (zA w6))), (a_p0_isThere, .inl (G 3, 49, .inl (zA w15))), (a_p0_isThereThen, .inl (G 3, 49, .inl (zA w16)))] H → va_D A [(a_p0, .inr (12, [.ref a_p0_st, .ref a_p0_isKept, .int (Int32.ofInt i_p0_seats), .int (Int32.ofInt i_p0_stirs), .ref a_p0_brings, .ref a_p0_need, .ref a_p0_draft, .int (Int32.ofInt i_p0_dSeats), .int (Int32.ofInt i_p0_dStirs), .ref a_p0_dStir, .ref a_p0_dNeed, .int (Int32.ofInt i_p0_told), .int (Int32.ofInt i_p0_highest), .ref a_p0_tape, .int (Int32.ofInt i_p0_taped), .int (Int32.ofInt i_p0_pos), .int (Int32.ofInt i_p0_from), .int (Int32.ofInt i_p0_sort), .int (Int32.ofInt i_p0_value), .int (Int32.ofInt i_p0_fault), .int (Int32.ofInt i_p0_wrongAt), .ref a_p0_places, .ref a_p0_stirred, .ref a_p0_ways, .ref a_p0_waysThen, .ref a_p0_stays, .ref a_p0_fewest, .ref a_p0_bowls, .ref a_p0_has, .ref a_p0_goesOn, .ref a_p0_isThere, .ref a_p0_isThereThen, .ref a_p0_bestRow, .ref a_p0_lanes, .ref a_p0_sizes, .ref a_p0_cells, .int (Int32.ofInt i_p0_torn)])), (a_p0_st, .inl (G 1, 152, .inl (zA v_p0_st))), (a_p0_brings, .inl (G 1, 35, .inl (zA v_p0_brings))), (a_p0_places, .inl (G 1, 7, .inl (zA w14))), (a_p0_goesOn, .inl (G 1, 343, .inl (zA w6))), (a_p0_isThere, .inl (G 3, 49, .inl (zA w15))), (a_p0_isThereThen, .inl (G 3, 49, .inl (zA w16)))] → va_S A s.heap H locs → lq5 B17 n z12 z13 w14 w15 w16 = some (r, o_v_p0_places, o_v_p0_goesOn, o_v_p0_isThere, o_v_p0_isThereThen) → W p l e rm_X12_could s m ([.ref a_p0, .int (Int32.ofInt x1)] : List Value).toArray below meth c H locs 0 0 Q (F0 m 62 ls []) := by
        clear hf hl hP hD hS
        intro n
        induction n with
        | zero =>
          intro z12 z13 w14 w15 w16 ls H locs hl hP hD hS hf
          exact (lq5_0 hf).elim
        | succ n ih62 =>
          intro z12 z13 w14 w15 w16 ls H locs hl hP hD hS hf
          replace hf := lq5_s eB17 hf
          unfold B_X12_could_62 at hf
          refine lv_iload_n hx hb dX12_could_62 rfl (lv_at hl 0 rfl) ?_
          refine lv_iload_n hx hb dX12_could_63 rfl (lv_at hl 3 rfl) ?_
          have hr17 := ck_c hf
          replace hf := ck_r hf
          refine lv_icmp_gt (tgt := 206) hx hb dX12_could_64 (by decide) (fun cc => ?_) (fun cc => ?_)
          ·
            replace hf := ite_t ((z_lt hr0 hr17).mp cc) hf
            clear cc
            refine lv_iload_n hx hb dX12_could_206 rfl (lv_at hl 1 rfl) ?_
            obtain ⟨rfl, rfl, rfl, rfl, rfl⟩ := ou5 hf
            rw [hQ]
            exact W.iret hx hb hr (fun t ht hW => ⟨⟨_, (), rfl, rfl, by rw [ht]; exact hP, va_K.moved hW.alike hK, hD⟩, hS.F ht⟩) hS.2.2 dX12_could_207
          ·
            replace hf := ite_f (fun h9 => cc ((z_lt hr0 hr17).mpr h9)) hf
            clear cc
            refine lv_iconst (v := Int32.ofInt (0 : Int)) hx hb dX12_could_67 (by decide) ?_
            refine z_topi (fun z19 ez => ?_)
            replace hf := bnd_s hf ez
            clear ez
            refine lv_istore_n (lv' := [(2, .int (Int32.ofInt z19)), (3, .int (Int32.ofInt z12)), (0, .ref a_p0), (1, .int (Int32.ofInt x1))]) hx hb dX12_could_68 rfl hl (by decide) rfl (fun ls hl => ?_)
            refine lv_iconst (v := Int32.ofInt (0 : Int)) hx hb dX12_could_69 (by decide) ?_
            refine z_topi (fun z20 ez => ?_)
            replace hf := bnd_s hf ez
            clear ez
            refine lv_istore (lv' := [(4, .int (Int32.ofInt z20)), (2, .int (Int32.ofInt z19)), (3, .int (Int32.ofInt z12)), (0, .ref a_p0), (1, .int (Int32.ofInt x1))]) hx hb dX12_could_70 hl (by decide) rfl (fun ls hl => ?_)
            have hq := jn_i hf
            clear hf
            obtain ⟨J22, eJ22, hf⟩ := hq
            have hJ22 : ∀ (w21 : (Int → Int)) (ls : Array Slot) (H : Heap) (locs : List Loc), lv_has ls 6 [(2, .int (Int32.ofInt z19)), (3, .int (Int32.ofInt z12)), (0, .ref a_p0), (1, .int (Int32.ofInt x1))] → va_P D vwCl [(a_p0, .inr (12, [.ref a_p0_st, .ref a_p0_isKept, .int (Int32.ofInt i_p0_seats), .int (Int32.ofInt i_p0_stirs), .ref a_p0_brings, .ref a_p0_need, .ref a_p0_draft, .int (Int32.ofInt i_p0_dSeats), .int (Int32.ofInt i_p0_dStirs), .ref a_p0_dStir, .ref a_p0_dNeed, .int (Int32.ofInt i_p0_told), .int (Int32.ofInt i_p0_highest), .ref a_p0_tape, .int (Int32.ofInt i_p0_taped), .int (Int32.ofInt i_p0_pos), .int (Int32.ofInt i_p0_from), .int (Int32.ofInt i_p0_sort), .int (Int32.ofInt i_p0_value), .int (Int32.ofInt i_p0_fault), .int (Int32.ofInt i_p0_wrongAt), .ref a_p0_places, .ref a_p0_stirred, .ref a_p0_ways, .ref a_p0_waysThen, .ref a_p0_stays, .ref a_p0_fewest, .ref a_p0_bowls, .ref a_p0_has, .ref a_p0_goesOn, .ref a_p0_isThere, .ref a_p0_isThereThen, .ref a_p0_bestRow, .ref a_p0_lanes, .ref a_p0_sizes, .ref a_p0_cells, .int (Int32.ofInt i_p0_torn)])), (a_p0_st, .inl (G 1, 152, .inl (zA v_p0_st))), (a_p0_brings, .inl (G 1, 35, .inl (zA v_p0_brings))), (a_p0_places, .inl (G 1, 7, .inl (zA w14))), (a_p0_goesOn, .inl (G 1, 343, .inl (zA w6))), (a_p0_isThere, .inl (G 3, 49, .inl (zA w15))), (a_p0_isThereThen, .inl (G 3, 49, .inl (zA w21)))] H → va_D A [(a_p0, .inr (12, [.ref a_p0_st, .ref a_p0_isKept, .int (Int32.ofInt i_p0_seats), .int (Int32.ofInt i_p0_stirs), .ref a_p0_brings, .ref a_p0_need, .ref a_p0_draft, .int (Int32.ofInt i_p0_dSeats), .int (Int32.ofInt i_p0_dStirs), .ref a_p0_dStir, .ref a_p0_dNeed, .int (Int32.ofInt i_p0_told), .int (Int32.ofInt i_p0_highest), .ref a_p0_tape, .int (Int32.ofInt i_p0_taped), .int (Int32.ofInt i_p0_pos), .int (Int32.ofInt i_p0_from), .int (Int32.ofInt i_p0_sort), .int (Int32.ofInt i_p0_value), .int (Int32.ofInt i_p0_fault), .int (Int32.ofInt i_p0_wrongAt), .ref a_p0_places, .ref a_p0_stirred, .ref a_p0_ways, .ref a_p0_waysThen, .ref a_p0_stays, .ref a_p0_fewest, .ref a_p0_bowls, .ref a_p0_has, .ref a_p0_goesOn, .ref a_p0_isThere, .ref a_p0_isThereThen, .ref a_p0_bestRow, .ref a_p0_lanes, .ref a_p0_sizes, .ref a_p0_cells, .int (Int32.ofInt i_p0_torn)])), (a_p0_st, .inl (G 1, 152, .inl (zA v_p0_st))), (a_p0_brings, .inl (G 1, 35, .inl (zA v_p0_brings))), (a_p0_places, .inl (G 1, 7, .inl (zA w14))), (a_p0_goesOn, .inl (G 1, 343, .inl (zA w6))), (a_p0_isThere, .inl (G 3, 49, .inl (zA w15))), (a_p0_isThereThen, .inl (G 3, 49, .inl (zA w21)))] → va_S A s.heap H locs → J22 w21 = some (r, o_v_p0_places, o_v_p0_goesOn, o_v_p0_isThere, o_v_p0_isThereThen) → W p l e rm_X12_could s m ([.ref a_p0, .int (Int32.ofInt x1)] : List Value).toArray below meth c H locs 0 0 Q (F0 m 93 ls []) := by
              clear hf hl hP hD hS
              intro w21 ls H locs hl hP hD hS hf
              replace hf := jn1_s eJ22 hf
              refine lv_iconst (v := Int32.ofInt (0 : Int)) hx hb dX12_could_93 (by decide) ?_
              refine z_topi (fun z23 ez => ?_)
              replace hf := bnd_s hf ez
              clear ez
              refine lv_istore (lv' := [(4, .int (Int32.ofInt z23)), (2, .int (Int32.ofInt z19)), (3, .int (Int32.ofInt z12)), (0, .ref a_p0), (1, .int (Int32.ofInt x1))]) hx hb dX12_could_94 hl (by decide) rfl (fun ls hl => ?_)
              have hq := jn_i hf
              clear hf
              obtain ⟨J27, eJ27, hf⟩ := hq
              have hJ27 : ∀ (z24 : Int) (w25 : (Int → Int)) (w26 : (Int → Int)) (ls : Array Slot) (H : Heap) (locs : List Loc), lv_has ls 6 [(2, .int (Int32.ofInt z24)), (3, .int (Int32.ofInt z12)), (0, .ref a_p0), (1, .int (Int32.ofInt x1))] → va_P D vwCl [(a_p0, .inr (12, [.ref a_p0_st, .ref a_p0_isKept, .int (Int32.ofInt i_p0_seats), .int (Int32.ofInt i_p0_stirs), .ref a_p0_brings, .ref a_p0_need, .ref a_p0_draft, .int (Int32.ofInt i_p0_dSeats), .int (Int32.ofInt i_p0_dStirs), .ref a_p0_dStir, .ref a_p0_dNeed, .int (Int32.ofInt i_p0_told), .int (Int32.ofInt i_p0_highest), .ref a_p0_tape, .int (Int32.ofInt i_p0_taped), .int (Int32.ofInt i_p0_pos), .int (Int32.ofInt i_p0_from), .int (Int32.ofInt i_p0_sort), .int (Int32.ofInt i_p0_value), .int (Int32.ofInt i_p0_fault), .int (Int32.ofInt i_p0_wrongAt), .ref a_p0_places, .ref a_p0_stirred, .ref a_p0_ways, .ref a_p0_waysThen, .ref a_p0_stays, .ref a_p0_fewest, .ref a_p0_bowls, .ref a_p0_has, .ref a_p0_goesOn, .ref a_p0_isThere, .ref a_p0_isThereThen, .ref a_p0_bestRow, .ref a_p0_lanes, .ref a_p0_sizes, .ref a_p0_cells, .int (Int32.ofInt i_p0_torn)])), (a_p0_st, .inl (G 1, 152, .inl (zA v_p0_st))), (a_p0_brings, .inl (G 1, 35, .inl (zA v_p0_brings))), (a_p0_places, .inl (G 1, 7, .inl (zA w25))), (a_p0_goesOn, .inl (G 1, 343, .inl (zA w6))), (a_p0_isThere, .inl (G 3, 49, .inl (zA w15))), (a_p0_isThereThen, .inl (G 3, 49, .inl (zA w26)))] H → va_D A [(a_p0, .inr (12, [.ref a_p0_st, .ref a_p0_isKept, .int (Int32.ofInt i_p0_seats), .int (Int32.ofInt i_p0_stirs), .ref a_p0_brings, .ref a_p0_need, .ref a_p0_draft, .int (Int32.ofInt i_p0_dSeats), .int (Int32.ofInt i_p0_dStirs), .ref a_p0_dStir, .ref a_p0_dNeed, .int (Int32.ofInt i_p0_told), .int (Int32.ofInt i_p0_highest), .ref a_p0_tape, .int (Int32.ofInt i_p0_taped), .int (Int32.ofInt i_p0_pos), .int (Int32.ofInt i_p0_from), .int (Int32.ofInt i_p0_sort), .int (Int32.ofInt i_p0_value), .int (Int32.ofInt i_p0_fault), .int (Int32.ofInt i_p0_wrongAt), .ref a_p0_places, .ref a_p0_stirred, .ref a_p0_ways, .ref a_p0_waysThen, .ref a_p0_stays, .ref a_p0_fewest, .ref a_p0_bowls, .ref a_p0_has, .ref a_p0_goesOn, .ref a_p0_isThere, .ref a_p0_isThereThen, .ref a_p0_bestRow, .ref a_p0_lanes, .ref a_p0_sizes, .ref a_p0_cells, .int (Int32.ofInt i_p0_torn)])), (a_p0_st, .inl (G 1, 152, .inl (zA v_p0_st))), (a_p0_brings, .inl (G 1, 35, .inl (zA v_p0_brings))), (a_p0_places, .inl (G 1, 7, .inl (zA w25))), (a_p0_goesOn, .inl (G 1, 343, .inl (zA w6))), (a_p0_isThere, .inl (G 3, 49, .inl (zA w15))), (a_p0_isThereThen, .inl (G 3, 49, .inl (zA w26)))] → va_S A s.heap H locs → J27 z24 w25 w26 = some (r, o_v_p0_places, o_v_p0_goesOn, o_v_p0_isThere, o_v_p0_isThereThen) → W p l e rm_X12_could s m ([.ref a_p0, .int (Int32.ofInt x1)] : List Value).toArray below meth c H locs 0 0 Q (F0 m 170 ls []) := by
                clear hf hl hP hD hS
                intro z24 w25 w26 ls H locs hl hP hD hS hf
                replace hf := jn3_s eJ27 hf
                refine lv_iconst (v := Int32.ofInt (0 : Int)) hx hb dX12_could_170 (by decide) ?_
                refine z_topi (fun z28 ez => ?_)
                replace hf := bnd_s hf ez
                clear ez
                refine lv_istore (lv' := [(4, .int (Int32.ofInt z28)), (2, .int (Int32.ofInt z24)), (3, .int (Int32.ofInt z12)), (0, .ref a_p0), (1, .int (Int32.ofInt x1))]) hx hb dX12_could_171 hl (by decide) rfl (fun ls hl => ?_)
                have hq := lq2_i hf
                clear hf
                obtain ⟨B31, eB31, NB31, hf⟩ := hq
                have hB31 : ∀ (n : Nat) (z29 : Int) (w30 : (Int → Int)) (ls : Array Slot) (H : Heap) (locs : List Loc), lv_has ls 6 [(4, .int (Int32.ofInt z29)), (2, .int (Int32.ofInt z24)), (3, .int (Int32.ofInt z12)), (0, .ref a_p0), (1, .int (Int32.ofInt x1))] → va_P D vwCl [(a_p0, .inr (12, [.ref a_p0_st, .ref a_p0_isKept, .int (Int32.ofInt i_p0_seats), .int (Int32.ofInt i_p0_stirs), .ref a_p0_brings, .ref a_p0_need, .ref a_p0_draft, .int (Int32.ofInt i_p0_dSeats), .int (Int32.ofInt i_p0_dStirs), .ref a_p0_dStir, .ref a_p0_dNeed, .int (Int32.ofInt i_p0_told), .int (Int32.ofInt i_p0_highest), .ref a_p0_tape, .int (Int32.ofInt i_p0_taped), .int (Int32.ofInt i_p0_pos), .int (Int32.ofInt i_p0_from), .int (Int32.ofInt i_p0_sort), .int (Int32.ofInt i_p0_value), .int (Int32.ofInt i_p0_fault), .int (Int32.ofInt i_p0_wrongAt), .ref a_p0_places, .ref a_p0_stirred, .ref a_p0_ways, .ref a_p0_waysThen, .ref a_p0_stays, .ref a_p0_fewest, .ref a_p0_bowls, .ref a_p0_has, .ref a_p0_goesOn, .ref a_p0_isThere, .ref a_p0_isThereThen, .ref a_p0_bestRow, .ref a_p0_lanes, .ref a_p0_sizes, .ref a_p0_cells, .int (Int32.ofInt i_p0_torn)])), (a_p0_st, .inl (G 1, 152, .inl (zA v_p0_st))), (a_p0_brings, .inl (G 1, 35, .inl (zA v_p0_brings))), (a_p0_places, .inl (G 1, 7, .inl (zA w25))), (a_p0_goesOn, .inl (G 1, 343, .inl (zA w6))), (a_p0_isThere, .inl (G 3, 49, .inl (zA w30))), (a_p0_isThereThen, .inl (G 3, 49, .inl (zA w26)))] H → va_D A [(a_p0, .inr (12, [.ref a_p0_st, .ref a_p0_isKept, .int (Int32.ofInt i_p0_seats), .int (Int32.ofInt i_p0_stirs), .ref a_p0_brings, .ref a_p0_need, .ref a_p0_draft, .int (Int32.ofInt i_p0_dSeats), .int (Int32.ofInt i_p0_dStirs), .ref a_p0_dStir, .ref a_p0_dNeed, .int (Int32.ofInt i_p0_told), .int (Int32.ofInt i_p0_highest), .ref a_p0_tape, .int (Int32.ofInt i_p0_taped), .int (Int32.ofInt i_p0_pos), .int (Int32.ofInt i_p0_from), .int (Int32.ofInt i_p0_sort), .int (Int32.ofInt i_p0_value), .int (Int32.ofInt i_p0_fault), .int (Int32.ofInt i_p0_wrongAt), .ref a_p0_places, .ref a_p0_stirred, .ref a_p0_ways, .ref a_p0_waysThen, .ref a_p0_stays, .ref a_p0_fewest, .ref a_p0_bowls, .ref a_p0_has, .ref a_p0_goesOn, .ref a_p0_isThere, .ref a_p0_isThereThen, .ref a_p0_bestRow, .ref a_p0_lanes, .ref a_p0_sizes, .ref a_p0_cells, .int (Int32.ofInt i_p0_torn)])), (a_p0_st, .inl (G 1, 152, .inl (zA v_p0_st))), (a_p0_brings, .inl (G 1, 35, .inl (zA v_p0_brings))), (a_p0_places, .inl (G 1, 7, .inl (zA w25))), (a_p0_goesOn, .inl (G 1, 343, .inl (zA w6))), (a_p0_isThere, .inl (G 3, 49, .inl (zA w30))), (a_p0_isThereThen, .inl (G 3, 49, .inl (zA w26)))] → va_S A s.heap H locs → lq2 B31 n z29 w30 = some (r, o_v_p0_places, o_v_p0_goesOn, o_v_p0_isThere, o_v_p0_isThereThen) → W p l e rm_X12_could s m ([.ref a_p0, .int (Int32.ofInt x1)] : List Value).toArray below meth c H locs 0 0 Q (F0 m 173 ls []) := by
                  clear hf hl hP hD hS
                  intro n
                  induction n with
                  | zero =>
                    intro z29 w30 ls H locs hl hP hD hS hf
                    exact (lq2_0 hf).elim
                  | succ n ih173 =>
                    intro z29 w30 ls H locs hl hP hD hS hf
                    replace hf := lq2_s eB31 hf
                    unfold B_X12_could_173 at hf
                    refine lv_iload hx hb dX12_could_173 (lv_at hl 0 rfl) ?_
                    refine lv_bipush (v := Int32.ofInt (49 : Int)) hx hb dX12_could_175 (by decide) ?_
                    have hr31 := ck_c hf
                    replace hf := ck_r hf
                    refine lv_icmp_ge (tgt := 200) hx hb dX12_could_177 (by decide) (fun cc => ?_) (fun cc => ?_)
                    ·
                      replace hf := ite_t ((z_le (by decide) hr31).mp cc) hf
                      clear cc
                      obtain ⟨z33, ez⟩ : ∃ y : Int, y = (z12 + (1 : Int)) := ⟨_, rfl⟩
                      replace hf := bnd_s hf ez
                      refine lv_iinc (v := Int32.ofInt z33) (lv' := [(3, .int (Int32.ofInt z33)), (4, .int (Int32.ofInt z29)), (2, .int (Int32.ofInt z24)), (0, .ref a_p0), (1, .int (Int32.ofInt x1))]) hx hb dX12_could_200 hl (k := 2) rfl (by rw [ez]; exact (Int32.ofInt_add _ _).symm) (by decide) rfl (fun ls hl => ?_)
                      clear ez
                      refine lv_goto (tgt := 62) hx hb dX12_could_203 (by decide) ?_
                      exact ih62 _ _ _ _ _ _ _ _ (lv_sub hl [0, 2, 3, 4] rfl) hP hD hS hf
                    ·
                      replace hf := ite_f (fun h9 => cc ((z_le (by decide) hr31).mpr h9)) hf
                      clear cc
                      refine lv_aload_n hx hb dX12_could_180 rfl (lv_at hl 3 rfl) ?_
                      refine va_get (D := D) (ci := 12) (v := .ref a_p0_isThere) (C := RX12) (T := TX12) (N := 37) hx hb hts inX12_could_X12 hown hK hP 0 rfl rfl 30 (by decide) (hts _ mwX12_could_2) (fun _ h9 => h9) rfl dX12_could_181 ?_
                      refine lv_iload hx hb dX12_could_184 (lv_at hl 0 rfl) ?_
                      refine lv_aload_n hx hb dX12_could_186 rfl (lv_at hl 3 rfl) ?_
                      refine va_get (D := D) (ci := 12) (v := .ref a_p0_isThereThen) (C := RX12) (T := TX12) (N := 37) hx hb hts inX12_could_X12 hown hK hP 0 rfl rfl 31 (by decide) (hts _ mwX12_could_3) (fun _ h9 => h9) rfl dX12_could_187 ?_
                      refine lv_iload hx hb dX12_could_190 (lv_at hl 0 rfl) ?_
                      have hc := ck_c hf
                      replace hf := ck_r hf
                      refine va_zald hx hb hK hP 6 3 rfl rfl (z_ix_in hc) dX12_could_192 (z_ci (z_ald w26 hc) ?_)
                      clear hc
                      have hc := ck_c hf
                      replace hf := ck_r hf
                      have hz := ck_c hf
                      replace hf := ck_r hf
                      refine zs_zast (wf := fun w34 => [(a_p0, .inr (12, [.ref a_p0_st, .ref a_p0_isKept, .int (Int32.ofInt i_p0_seats), .int (Int32.ofInt i_p0_stirs), .ref a_p0_brings, .ref a_p0_need, .ref a_p0_draft, .int (Int32.ofInt i_p0_dSeats), .int (Int32.ofInt i_p0_dStirs), .ref a_p0_dStir, .ref a_p0_dNeed, .int (Int32.ofInt i_p0_told), .int (Int32.ofInt i_p0_highest), .ref a_p0_tape, .int (Int32.ofInt i_p0_taped), .int (Int32.ofInt i_p0_pos), .int (Int32.ofInt i_p0_from), .int (Int32.ofInt i_p0_sort), .int (Int32.ofInt i_p0_value), .int (Int32.ofInt i_p0_fault), .int (Int32.ofInt i_p0_wrongAt), .ref a_p0_places, .ref a_p0_stirred, .ref a_p0_ways, .ref a_p0_waysThen, .ref a_p0_stays, .ref a_p0_fewest, .ref a_p0_bowls, .ref a_p0_has, .ref a_p0_goesOn, .ref a_p0_isThere, .ref a_p0_isThereThen, .ref a_p0_bestRow, .ref a_p0_lanes, .ref a_p0_sizes, .ref a_p0_cells, .int (Int32.ofInt i_p0_torn)])), (a_p0_st, .inl (G 1, 152, .inl (zA v_p0_st))), (a_p0_brings, .inl (G 1, 35, .inl (zA v_p0_brings))), (a_p0_places, .inl (G 1, 7, .inl (zA w25))), (a_p0_goesOn, .inl (G 1, 343, .inl (zA w6))), (a_p0_isThere, .inl (G 3, 49, .inl (zA w34))), (a_p0_isThereThen, .inl (G 3, 49, .inl (zA w26)))]) hx hb hK hP hD hS 5 3 rfl rfl hc (z_bv hz) dX12_could_193 (fun _ => rfl) (fun w34 ez H locs hP hD hS => ?_)
                      replace hf := bnd_s hf ez
                      clear ez hc
                      obtain ⟨z35, ez⟩ : ∃ y : Int, y = (z29 + (1 : Int)) := ⟨_, rfl⟩
                      replace hf := bnd_s hf ez
                      refine lv_iinc (v := Int32.ofInt z35) (lv' := [(4, .int (Int32.ofInt z35)), (2, .int (Int32.ofInt z24)), (3, .int (Int32.ofInt z12)), (0, .ref a_p0), (1, .int (Int32.ofInt x1))]) hx hb dX12_could_194 hl (k := 0) rfl (by rw [ez]; exact (Int32.ofInt_add _ _).symm) (by decide) rfl (fun ls hl => ?_)
                      clear ez
                      refine lv_goto (tgt := 173) hx hb dX12_could_197 (by decide) ?_
                      exact ih173 _ _ _ _ _ (lv_sub hl [0, 1, 2, 3, 4] rfl) hP hD hS hf
                exact hB31 _ _ _ _ _ _ (lv_sub hl [0, 1, 2, 3, 4] rfl) hP hD hS hf
              have hq := lq4_i hf
              clear hf
              obtain ⟨B40, eB40, NB40, hf⟩ := hq
              have hB40 : ∀ (n : Nat) (z36 : Int) (z37 : Int) (w38 : (Int → Int)) (w39 : (Int → Int)) (ls : Array Slot) (H : Heap) (locs : List Loc), lv_has ls 6 [(4, .int (Int32.ofInt z36)), (2, .int (Int32.ofInt z37)), (3, .int (Int32.ofInt z12)), (0, .ref a_p0), (1, .int (Int32.ofInt x1))] → va_P D vwCl [(a_p0, .inr (12, [.ref a_p0_st, .ref a_p0_isKept, .int (Int32.ofInt i_p0_seats), .int (Int32.ofInt i_p0_stirs), .ref a_p0_brings, .ref a_p0_need, .ref a_p0_draft, .int (Int32.ofInt i_p0_dSeats), .int (Int32.ofInt i_p0_dStirs), .ref a_p0_dStir, .ref a_p0_dNeed, .int (Int32.ofInt i_p0_told), .int (Int32.ofInt i_p0_highest), .ref a_p0_tape, .int (Int32.ofInt i_p0_taped), .int (Int32.ofInt i_p0_pos), .int (Int32.ofInt i_p0_from), .int (Int32.ofInt i_p0_sort), .int (Int32.ofInt i_p0_value), .int (Int32.ofInt i_p0_fault), .int (Int32.ofInt i_p0_wrongAt), .ref a_p0_places, .ref a_p0_stirred, .ref a_p0_ways, .ref a_p0_waysThen, .ref a_p0_stays, .ref a_p0_fewest, .ref a_p0_bowls, .ref a_p0_has, .ref a_p0_goesOn, .ref a_p0_isThere, .ref a_p0_isThereThen, .ref a_p0_bestRow, .ref a_p0_lanes, .ref a_p0_sizes, .ref a_p0_cells, .int (Int32.ofInt i_p0_torn)])), (a_p0_st, .inl (G 1, 152, .inl (zA v_p0_st))), (a_p0_brings, .inl (G 1, 35, .inl (zA v_p0_brings))), (a_p0_places, .inl (G 1, 7, .inl (zA w38))), (a_p0_goesOn, .inl (G 1, 343, .inl (zA w6))), (a_p0_isThere, .inl (G 3, 49, .inl (zA w15))), (a_p0_isThereThen, .inl (G 3, 49, .inl (zA w39)))] H → va_D A [(a_p0, .inr (12, [.ref a_p0_st, .ref a_p0_isKept, .int (Int32.ofInt i_p0_seats), .int (Int32.ofInt i_p0_stirs), .ref a_p0_brings, .ref a_p0_need, .ref a_p0_draft, .int (Int32.ofInt i_p0_dSeats), .int (Int32.ofInt i_p0_dStirs), .ref a_p0_dStir, .ref a_p0_dNeed, .int (Int32.ofInt i_p0_told), .int (Int32.ofInt i_p0_highest), .ref a_p0_tape, .int (Int32.ofInt i_p0_taped), .int (Int32.ofInt i_p0_pos), .int (Int32.ofInt i_p0_from), .int (Int32.ofInt i_p0_sort), .int (Int32.ofInt i_p0_value), .int (Int32.ofInt i_p0_fault), .int (Int32.ofInt i_p0_wrongAt), .ref a_p0_places, .ref a_p0_stirred, .ref a_p0_ways, .ref a_p0_waysThen, .ref a_p0_stays, .ref a_p0_fewest, .ref a_p0_bowls, .ref a_p0_has, .ref a_p0_goesOn, .ref a_p0_isThere, .ref a_p0_isThereThen, .ref a_p0_bestRow, .ref a_p0_lanes, .ref a_p0_sizes, .ref a_p0_cells, .int (Int32.ofInt i_p0_torn)])), (a_p0_st, .inl (G 1, 152, .inl (zA v_p0_st))), (a_p0_brings, .inl (G 1, 35, .inl (zA v_p0_brings))), (a_p0_places, .inl (G 1, 7, .inl (zA w38))), (a_p0_goesOn, .inl (G 1, 343, .inl (zA w6))), (a_p0_isThere, .inl (G 3, 49, .inl (zA w15))), (a_p0_isThereThen, .inl (G 3, 49, .inl (zA w39)))] → va_S A s.heap H locs → lq4 B40 n z36 z37 w38 w39 = some (r, o_v_p0_places, o_v_p0_goesOn, o_v_p0_isThere, o_v_p0_isThereThen) → W p l e rm_X12_could s m ([.ref a_p0, .int (Int32.ofInt x1)] : List Value).toArray below meth c H locs 0 0 Q (F0 m 96 ls []) := by
                clear hf hl hP hD hS
                intro n
                induction n with
                | zero =>
                  intro z36 z37 w38 w39 ls H locs hl hP hD hS hf
                  exact (lq4_0 hf).elim
                | succ n ih96 =>
                  intro z36 z37 w38 w39 ls H locs hl hP hD hS hf
                  replace hf := lq4_s eB40 hf
                  unfold B_X12_could_96 at hf
                  refine lv_iload hx hb dX12_could_96 (lv_at hl 0 rfl) ?_
                  refine lv_bipush (v := Int32.ofInt (49 : Int)) hx hb dX12_could_98 (by decide) ?_
                  have hr40 := ck_c hf
                  replace hf := ck_r hf
                  refine lv_icmp_ge (tgt := 170) hx hb dX12_could_100 (by decide) (fun cc => ?_) (fun cc => ?_)
                  ·
                    replace hf := ite_t ((z_le (by decide) hr40).mp cc) hf
                    clear cc
                    exact hJ27 _ _ _ _ _ _ (lv_sub hl [1, 2, 3, 4] rfl) hP hD hS hf
                  ·
                    replace hf := ite_f (fun h9 => cc ((z_le (by decide) hr40).mpr h9)) hf
                    clear cc
                    refine lv_iconst (v := Int32.ofInt (0 : Int)) hx hb dX12_could_103 (by decide) ?_
                    refine z_topi (fun z42 ez => ?_)
                    replace hf := bnd_s hf ez
                    clear ez
                    refine lv_istore (lv' := [(5, .int (Int32.ofInt z42)), (4, .int (Int32.ofInt z36)), (2, .int (Int32.ofInt z37)), (3, .int (Int32.ofInt z12)), (0, .ref a_p0), (1, .int (Int32.ofInt x1))]) hx hb dX12_could_104 hl (by decide) rfl (fun ls hl => ?_)
                    have hq := lq4_i hf
                    clear hf
                    obtain ⟨B47, eB47, NB47, hf⟩ := hq
                    have hB47 : ∀ (n : Nat) (z43 : Int) (z44 : Int) (w45 : (Int → Int)) (w46 : (Int → Int)) (ls : Array Slot) (H : Heap) (locs : List Loc), lv_has ls 6 [(5, .int (Int32.ofInt z43)), (4, .int (Int32.ofInt z36)), (2, .int (Int32.ofInt z44)), (3, .int (Int32.ofInt z12)), (0, .ref a_p0), (1, .int (Int32.ofInt x1))] → va_P D vwCl [(a_p0, .inr (12, [.ref a_p0_st, .ref a_p0_isKept, .int (Int32.ofInt i_p0_seats), .int (Int32.ofInt i_p0_stirs), .ref a_p0_brings, .ref a_p0_need, .ref a_p0_draft, .int (Int32.ofInt i_p0_dSeats), .int (Int32.ofInt i_p0_dStirs), .ref a_p0_dStir, .ref a_p0_dNeed, .int (Int32.ofInt i_p0_told), .int (Int32.ofInt i_p0_highest), .ref a_p0_tape, .int (Int32.ofInt i_p0_taped), .int (Int32.ofInt i_p0_pos), .int (Int32.ofInt i_p0_from), .int (Int32.ofInt i_p0_sort), .int (Int32.ofInt i_p0_value), .int (Int32.ofInt i_p0_fault), .int (Int32.ofInt i_p0_wrongAt), .ref a_p0_places, .ref a_p0_stirred, .ref a_p0_ways, .ref a_p0_waysThen, .ref a_p0_stays, .ref a_p0_fewest, .ref a_p0_bowls, .ref a_p0_has, .ref a_p0_goesOn, .ref a_p0_isThere, .ref a_p0_isThereThen, .ref a_p0_bestRow, .ref a_p0_lanes, .ref a_p0_sizes, .ref a_p0_cells, .int (Int32.ofInt i_p0_torn)])), (a_p0_st, .inl (G 1, 152, .inl (zA v_p0_st))), (a_p0_brings, .inl (G 1, 35, .inl (zA v_p0_brings))), (a_p0_places, .inl (G 1, 7, .inl (zA w45))), (a_p0_goesOn, .inl (G 1, 343, .inl (zA w6))), (a_p0_isThere, .inl (G 3, 49, .inl (zA w15))), (a_p0_isThereThen, .inl (G 3, 49, .inl (zA w46)))] H → va_D A [(a_p0, .inr (12, [.ref a_p0_st, .ref a_p0_isKept, .int (Int32.ofInt i_p0_seats), .int (Int32.ofInt i_p0_stirs), .ref a_p0_brings, .ref a_p0_need, .ref a_p0_draft, .int (Int32.ofInt i_p0_dSeats), .int (Int32.ofInt i_p0_dStirs), .ref a_p0_dStir, .ref a_p0_dNeed, .int (Int32.ofInt i_p0_told), .int (Int32.ofInt i_p0_highest), .ref a_p0_tape, .int (Int32.ofInt i_p0_taped), .int (Int32.ofInt i_p0_pos), .int (Int32.ofInt i_p0_from), .int (Int32.ofInt i_p0_sort), .int (Int32.ofInt i_p0_value), .int (Int32.ofInt i_p0_fault), .int (Int32.ofInt i_p0_wrongAt), .ref a_p0_places, .ref a_p0_stirred, .ref a_p0_ways, .ref a_p0_waysThen, .ref a_p0_stays, .ref a_p0_fewest, .ref a_p0_bowls, .ref a_p0_has, .ref a_p0_goesOn, .ref a_p0_isThere, .ref a_p0_isThereThen, .ref a_p0_bestRow, .ref a_p0_lanes, .ref a_p0_sizes, .ref a_p0_cells, .int (Int32.ofInt i_p0_torn)])), (a_p0_st, .inl (G 1, 152, .inl (zA v_p0_st))), (a_p0_brings, .inl (G 1, 35, .inl (zA v_p0_brings))), (a_p0_places, .inl (G 1, 7, .inl (zA w45))), (a_p0_goesOn, .inl (G 1, 343, .inl (zA w6))), (a_p0_isThere, .inl (G 3, 49, .inl (zA w15))), (a_p0_isThereThen, .inl (G 3, 49, .inl (zA w46)))] → va_S A s.heap H locs → lq4 B47 n z43 z44 w45 w46 = some (r, o_v_p0_places, o_v_p0_goesOn, o_v_p0_isThere, o_v_p0_isThereThen) → W p l e rm_X12_could s m ([.ref a_p0, .int (Int32.ofInt x1)] : List Value).toArray below meth c H locs 0 0 Q (F0 m 106 ls []) := by
                      clear hf hl hP hD hS
                      intro n
                      induction n with
                      | zero =>
                        intro z43 z44 w45 w46 ls H locs hl hP hD hS hf
                        exact (lq4_0 hf).elim
                      | succ n ih106 =>
                        intro z43 z44 w45 w46 ls H locs hl hP hD hS hf
                        replace hf := lq4_s eB47 hf
                        unfold B_X12_could_106 at hf
                        refine lv_iload hx hb dX12_could_106 (lv_at hl 0 rfl) ?_
                        refine lv_aload_n hx hb dX12_could_108 rfl (lv_at hl 4 rfl) ?_
                        refine va_get (D := D) (ci := 12) (v := .int (Int32.ofInt i_p0_stirs)) (C := RX12) (T := TX12) (N := 37) hx hb hts inX12_could_X12 hown hK hP 0 rfl rfl 3 (by decide) (hts _ mwX12_could_4) (fun _ h9 => h9) rfl dX12_could_109 ?_
                        have hr47 := ck_c hf
                        replace hf := ck_r hf
                        have hr48 := ck_c hf
                        replace hf := ck_r hf
                        refine lv_icmp_ge (tgt := 164) hx hb dX12_could_112 (by decide) (fun cc => ?_) (fun cc => ?_)
                        ·
                          replace hf := ite_t ((z_le hr48 hr47).mp cc) hf
                          clear cc
                          obtain ⟨z50, ez⟩ : ∃ y : Int, y = (z36 + (1 : Int)) := ⟨_, rfl⟩
                          replace hf := bnd_s hf ez
                          refine lv_iinc (v := Int32.ofInt z50) (lv' := [(4, .int (Int32.ofInt z50)), (5, .int (Int32.ofInt z43)), (2, .int (Int32.ofInt z44)), (3, .int (Int32.ofInt z12)), (0, .ref a_p0), (1, .int (Int32.ofInt x1))]) hx hb dX12_could_164 hl (k := 1) rfl (by rw [ez]; exact (Int32.ofInt_add _ _).symm) (by decide) rfl (fun ls hl => ?_)
                          clear ez
                          refine lv_goto (tgt := 96) hx hb dX12_could_167 (by decide) ?_
                          exact ih96 _ _ _ _ _ _ _ (lv_sub hl [0, 2, 3, 4, 5] rfl) hP hD hS hf
                        ·
                          replace hf := ite_f (fun h9 => cc ((z_le hr48 hr47).mpr h9)) hf
                          clear cc
                          refine lv_aload_n hx hb dX12_could_115 rfl (lv_at hl 4 rfl) ?_
                          refine va_get (D := D) (ci := 12) (v := .ref a_p0_isThere) (C := RX12) (T := TX12) (N := 37) hx hb hts inX12_could_X12 hown hK hP 0 rfl rfl 30 (by decide) (hts _ mwX12_could_2) (fun _ h9 => h9) rfl dX12_could_116 ?_
                          refine lv_iload hx hb dX12_could_119 (lv_at hl 1 rfl) ?_
                          have hc := ck_c hf
                          replace hf := ck_r hf
                          refine va_zald hx hb hK hP 5 3 rfl rfl (z_ix_in hc) dX12_could_121 (z_ci (z_ald w15 hc) ?_)
                          clear hc
                          have hr50 := ck_c hf
                          replace hf := ck_r hf
                          refine lv_if_eq (tgt := 164) hx hb dX12_could_122 (by decide) (fun cc => ?_) (fun cc => ?_)
                          ·
                            replace hf := ite_t ((z_eq0 hr50).mp cc) hf
                            clear cc
                            obtain ⟨z52, ez⟩ : ∃ y : Int, y = (z36 + (1 : Int)) := ⟨_, rfl⟩
                            replace hf := bnd_s hf ez
                            refine lv_iinc (v := Int32.ofInt z52) (lv' := [(4, .int (Int32.ofInt z52)), (5, .int (Int32.ofInt z43)), (2, .int (Int32.ofInt z44)), (3, .int (Int32.ofInt z12)), (0, .ref a_p0), (1, .int (Int32.ofInt x1))]) hx hb dX12_could_164 hl (k := 1) rfl (by rw [ez]; exact (Int32.ofInt_add _ _).symm) (by decide) rfl (fun ls hl => ?_)
                            clear ez
                            refine lv_goto (tgt := 96) hx hb dX12_could_167 (by decide) ?_
                            exact ih96 _ _ _ _ _ _ _ (lv_sub hl [0, 2, 3, 4, 5] rfl) hP hD hS hf
                          ·
                            replace hf := ite_f (fun h9 => cc ((z_eq0 hr50).mpr h9)) hf
                            clear cc
                            refine lv_aload_n hx hb dX12_could_125 rfl (lv_at hl 4 rfl) ?_
                            refine lv_iload_n hx hb dX12_could_126 rfl (lv_at hl 3 rfl) ?_
                            refine lv_iload hx hb dX12_could_127 (lv_at hl 1 rfl) ?_
                            refine lv_iload hx hb dX12_could_129 (lv_at hl 0 rfl) ?_
                            have hq := bd2_s hf
                            clear hf
                            obtain ⟨z53, w54, hcall, hf⟩ := hq
                            refine gsI (ws' := [(a_p0, .inr (12, [.ref a_p0_st, .ref a_p0_isKept, .int (Int32.ofInt i_p0_seats), .int (Int32.ofInt i_p0_stirs), .ref a_p0_brings, .ref a_p0_need, .ref a_p0_draft, .int (Int32.ofInt i_p0_dSeats), .int (Int32.ofInt i_p0_dStirs), .ref a_p0_dStir, .ref a_p0_dNeed, .int (Int32.ofInt i_p0_told), .int (Int32.ofInt i_p0_highest), .ref a_p0_tape, .int (Int32.ofInt i_p0_taped), .int (Int32.ofInt i_p0_pos), .int (Int32.ofInt i_p0_from), .int (Int32.ofInt i_p0_sort), .int (Int32.ofInt i_p0_value), .int (Int32.ofInt i_p0_fault), .int (Int32.ofInt i_p0_wrongAt), .ref a_p0_places, .ref a_p0_stirred, .ref a_p0_ways, .ref a_p0_waysThen, .ref a_p0_stays, .ref a_p0_fewest, .ref a_p0_bowls, .ref a_p0_has, .ref a_p0_goesOn, .ref a_p0_isThere, .ref a_p0_isThereThen, .ref a_p0_bestRow, .ref a_p0_lanes, .ref a_p0_sizes, .ref a_p0_cells, .int (Int32.ofInt i_p0_torn)])), (a_p0_st, .inl (G 1, 152, .inl (zA v_p0_st))), (a_p0_brings, .inl (G 1, 35, .inl (zA v_p0_brings))), (a_p0_places, .inl (G 1, 7, .inl (zA w54))), (a_p0_goesOn, .inl (G 1, 343, .inl (zA w6))), (a_p0_isThere, .inl (G 3, 49, .inl (zA w15))), (a_p0_isThereThen, .inl (G 3, 49, .inl (zA w46)))]) (va_runV (As := [.int (Int32.ofInt z12), .int (Int32.ofInt z36), .int (Int32.ofInt z43)]) (rest := []) ⟨hx, hb, hml, hown, hts⟩ (c_X12_canGo (l := l) (D := D) (G := G) (sz := H.size) (a_p0 := a_p0) (a_p0_st := a_p0_st) (a_p0_isKept := a_p0_isKept) (a_p0_brings := a_p0_brings) (a_p0_need := a_p0_need) (a_p0_draft := a_p0_draft) (a_p0_dStir := a_p0_dStir) (a_p0_dNeed := a_p0_dNeed) (a_p0_tape := a_p0_tape) (a_p0_places := a_p0_places) (a_p0_stirred := a_p0_stirred) (a_p0_ways := a_p0_ways) (a_p0_waysThen := a_p0_waysThen) (a_p0_stays := a_p0_stays) (a_p0_fewest := a_p0_fewest) (a_p0_bowls := a_p0_bowls) (a_p0_has := a_p0_has) (a_p0_goesOn := a_p0_goesOn) (a_p0_isThere := a_p0_isThere) (a_p0_isThereThen := a_p0_isThereThen) (a_p0_bestRow := a_p0_bestRow) (a_p0_lanes := a_p0_lanes) (a_p0_sizes := a_p0_sizes) (a_p0_cells := a_p0_cells) (i_p0_seats := i_p0_seats) (i_p0_stirs := i_p0_stirs) (i_p0_dSeats := i_p0_dSeats) (i_p0_dStirs := i_p0_dStirs) (i_p0_told := i_p0_told) (i_p0_highest := i_p0_highest) (i_p0_taped := i_p0_taped) (i_p0_pos := i_p0_pos) (i_p0_from := i_p0_from) (i_p0_sort := i_p0_sort) (i_p0_value := i_p0_value) (i_p0_fault := i_p0_fault) (i_p0_wrongAt := i_p0_wrongAt) (i_p0_torn := i_p0_torn) (v_p0_st := v_p0_st) (v_p0_brings := v_p0_brings) (v_p0_places := w45) (v_p0_goesOn := w6) (x1 := z12) (x2 := z36) (x3 := z43) (r := z53) (o_v_p0_places := w54) (hf := hcall)) (cwV 3 hts gX12_could_X12_canGo rfl rfl rfl hdV_yX12_canGo_RX12 ⟨Nat.le_of_ble_eq_true rfl, Nat.le_of_ble_eq_true rfl⟩) (preG_V (ci := 12) (q := (RX12, TX12, 37)) (hP.sub [0, 1, 2, 3, 4] rfl) (hD.sub [0, 1, 2, 3, 4] rfl rfl) hK rfl rfl) rfl rfl hl.1 rfl (lv_room (Nat.le_of_ble_eq_true rfl)) dX12_could_131 ⟨Nat.le_of_ble_eq_true rfl, Nat.le_of_ble_eq_true rfl⟩) hP hD hS hA [0, 1, 2, 3, 4] rfl rfl rfl (fun H locs hP hD hS => ?_)
                            clear hcall
                            have hr54 := ck_c hf
                            replace hf := ck_r hf
                            refine lv_if_eq (tgt := 158) hx hb dX12_could_134 (by decide) (fun cc => ?_) (fun cc => ?_)
                            ·
                              replace hf := ite_t ((z_eq0 hr54).mp cc) hf
                              clear cc
                              obtain ⟨z56, ez⟩ : ∃ y : Int, y = (z43 + (1 : Int)) := ⟨_, rfl⟩
                              replace hf := bnd_s hf ez
                              refine lv_iinc (v := Int32.ofInt z56) (lv' := [(5, .int (Int32.ofInt z56)), (4, .int (Int32.ofInt z36)), (2, .int (Int32.ofInt z44)), (3, .int (Int32.ofInt z12)), (0, .ref a_p0), (1, .int (Int32.ofInt x1))]) hx hb dX12_could_158 hl (k := 0) rfl (by rw [ez]; exact (Int32.ofInt_add _ _).symm) (by decide) rfl (fun ls hl => ?_)
                              clear ez
                              refine lv_goto (tgt := 106) hx hb dX12_could_161 (by decide) ?_
                              exact ih106 _ _ _ _ _ _ _ (lv_sub hl [0, 1, 2, 3, 4, 5] rfl) hP hD hS hf
                            ·
                              replace hf := ite_f (fun h9 => cc ((z_eq0 hr54).mpr h9)) hf
                              clear cc
                              refine lv_iload_n hx hb dX12_could_137 rfl (lv_at hl 2 rfl) ?_
                              refine lv_iconst (v := Int32.ofInt (1 : Int)) hx hb dX12_could_138 (by decide) ?_
                              refine lv_iload hx hb dX12_could_139 (lv_at hl 0 rfl) ?_
                              refine lv_ishl hx hb dX12_could_141 (z_ci (z_shl_e (1 : Int) z43) ?_)
                              refine lv_ior hx hb dX12_could_142 (z_ci (z_or_e z44 (z_shl (1 : Int) z43)) ?_)
                              refine z_topi (fun z57 ez => ?_)
                              replace hf := bnd_s hf ez
                              clear ez
                              refine lv_istore_n (lv' := [(2, .int (Int32.ofInt z57)), (5, .int (Int32.ofInt z43)), (4, .int (Int32.ofInt z36)), (3, .int (Int32.ofInt z12)), (0, .ref a_p0), (1, .int (Int32.ofInt x1))]) hx hb dX12_could_143 rfl hl (by decide) rfl (fun ls hl => ?_)
                              refine lv_aload_n hx hb dX12_could_144 rfl (lv_at hl 4 rfl) ?_
                              refine va_get (D := D) (ci := 12) (v := .ref a_p0_isThereThen) (C := RX12) (T := TX12) (N := 37) hx hb hts inX12_could_X12 hown hK hP 0 rfl rfl 31 (by decide) (hts _ mwX12_could_3) (fun _ h9 => h9) rfl dX12_could_145 ?_
                              refine lv_aload_n hx hb dX12_could_148 rfl (lv_at hl 4 rfl) ?_
                              refine lv_iload hx hb dX12_could_149 (lv_at hl 2 rfl) ?_
                              refine lv_iload hx hb dX12_could_151 (lv_at hl 1 rfl) ?_
                              have hq := bd2_s hf
                              clear hf
                              obtain ⟨z58, w59, hcall, hf⟩ := hq
                              refine gsI (ws' := [(a_p0, .inr (12, [.ref a_p0_st, .ref a_p0_isKept, .int (Int32.ofInt i_p0_seats), .int (Int32.ofInt i_p0_stirs), .ref a_p0_brings, .ref a_p0_need, .ref a_p0_draft, .int (Int32.ofInt i_p0_dSeats), .int (Int32.ofInt i_p0_dStirs), .ref a_p0_dStir, .ref a_p0_dNeed, .int (Int32.ofInt i_p0_told), .int (Int32.ofInt i_p0_highest), .ref a_p0_tape, .int (Int32.ofInt i_p0_taped), .int (Int32.ofInt i_p0_pos), .int (Int32.ofInt i_p0_from), .int (Int32.ofInt i_p0_sort), .int (Int32.ofInt i_p0_value), .int (Int32.ofInt i_p0_fault), .int (Int32.ofInt i_p0_wrongAt), .ref a_p0_places, .ref a_p0_stirred, .ref a_p0_ways, .ref a_p0_waysThen, .ref a_p0_stays, .ref a_p0_fewest, .ref a_p0_bowls, .ref a_p0_has, .ref a_p0_goesOn, .ref a_p0_isThere, .ref a_p0_isThereThen, .ref a_p0_bestRow, .ref a_p0_lanes, .ref a_p0_sizes, .ref a_p0_cells, .int (Int32.ofInt i_p0_torn)])), (a_p0_st, .inl (G 1, 152, .inl (zA v_p0_st))), (a_p0_brings, .inl (G 1, 35, .inl (zA v_p0_brings))), (a_p0_places, .inl (G 1, 7, .inl (zA w59))), (a_p0_goesOn, .inl (G 1, 343, .inl (zA w6))), (a_p0_isThere, .inl (G 3, 49, .inl (zA w15))), (a_p0_isThereThen, .inl (G 3, 49, .inl (zA w46)))]) (va_runV (As := [.int (Int32.ofInt z36), .int (Int32.ofInt z43)]) (rest := [.ref a_p0_isThereThen]) ⟨hx, hb, hml, hown, hts⟩ (c_X12_then (l := l) (D := D) (G := G) (sz := H.size) (a_p0 := a_p0) (a_p0_st := a_p0_st) (a_p0_isKept := a_p0_isKept) (a_p0_brings := a_p0_brings) (a_p0_need := a_p0_need) (a_p0_draft := a_p0_draft) (a_p0_dStir := a_p0_dStir) (a_p0_dNeed := a_p0_dNeed) (a_p0_tape := a_p0_tape) (a_p0_places := a_p0_places) (a_p0_stirred := a_p0_stirred) (a_p0_ways := a_p0_ways) (a_p0_waysThen := a_p0_waysThen) (a_p0_stays := a_p0_stays) (a_p0_fewest := a_p0_fewest) (a_p0_bowls := a_p0_bowls) (a_p0_has := a_p0_has) (a_p0_goesOn := a_p0_goesOn) (a_p0_isThere := a_p0_isThere) (a_p0_isThereThen := a_p0_isThereThen) (a_p0_bestRow := a_p0_bestRow) (a_p0_lanes := a_p0_lanes) (a_p0_sizes := a_p0_sizes) (a_p0_cells := a_p0_cells) (i_p0_seats := i_p0_seats) (i_p0_stirs := i_p0_stirs) (i_p0_dSeats := i_p0_dSeats) (i_p0_dStirs := i_p0_dStirs) (i_p0_told := i_p0_told) (i_p0_highest := i_p0_highest) (i_p0_taped := i_p0_taped) (i_p0_pos := i_p0_pos) (i_p0_from := i_p0_from) (i_p0_sort := i_p0_sort) (i_p0_value := i_p0_value) (i_p0_fault := i_p0_fault) (i_p0_wrongAt := i_p0_wrongAt) (i_p0_torn := i_p0_torn) (v_p0_st := v_p0_st) (v_p0_brings := v_p0_brings) (v_p0_places := w54) (x1 := z36) (x2 := z43) (r := z58) (o_v_p0_places := w59) (hf := hcall)) (cwV 2 hts gX12_could_X12_then rfl rfl rfl hdV_yX12_then_RX12 ⟨Nat.le_of_ble_eq_true rfl, Nat.le_of_ble_eq_true rfl⟩) (preG_V (ci := 12) (q := (RX12, TX12, 37)) (hP.sub [0, 1, 2, 3] rfl) (hD.sub [0, 1, 2, 3] rfl rfl) hK rfl rfl) rfl rfl hl.1 rfl (lv_room (Nat.le_of_ble_eq_true rfl)) dX12_could_153 ⟨Nat.le_of_ble_eq_true rfl, Nat.le_of_ble_eq_true rfl⟩) hP hD hS hA [0, 1, 2, 3] rfl rfl rfl (fun H locs hP hD hS => ?_)
                              clear hcall
                              refine lv_iconst (v := Int32.ofInt (1 : Int)) hx hb dX12_could_156 (by decide) ?_
                              have hc := ck_c hf
                              replace hf := ck_r hf
                              have hz := ck_c hf
                              replace hf := ck_r hf
                              refine zs_zast (wf := fun w60 => [(a_p0, .inr (12, [.ref a_p0_st, .ref a_p0_isKept, .int (Int32.ofInt i_p0_seats), .int (Int32.ofInt i_p0_stirs), .ref a_p0_brings, .ref a_p0_need, .ref a_p0_draft, .int (Int32.ofInt i_p0_dSeats), .int (Int32.ofInt i_p0_dStirs), .ref a_p0_dStir, .ref a_p0_dNeed, .int (Int32.ofInt i_p0_told), .int (Int32.ofInt i_p0_highest), .ref a_p0_tape, .int (Int32.ofInt i_p0_taped), .int (Int32.ofInt i_p0_pos), .int (Int32.ofInt i_p0_from), .int (Int32.ofInt i_p0_sort), .int (Int32.ofInt i_p0_value), .int (Int32.ofInt i_p0_fault), .int (Int32.ofInt i_p0_wrongAt), .ref a_p0_places, .ref a_p0_stirred, .ref a_p0_ways, .ref a_p0_waysThen, .ref a_p0_stays, .ref a_p0_fewest, .ref a_p0_bowls, .ref a_p0_has, .ref a_p0_goesOn, .ref a_p0_isThere, .ref a_p0_isThereThen, .ref a_p0_bestRow, .ref a_p0_lanes, .ref a_p0_sizes, .ref a_p0_cells, .int (Int32.ofInt i_p0_torn)])), (a_p0_st, .inl (G 1, 152, .inl (zA v_p0_st))), (a_p0_brings, .inl (G 1, 35, .inl (zA v_p0_brings))), (a_p0_places, .inl (G 1, 7, .inl (zA w59))), (a_p0_goesOn, .inl (G 1, 343, .inl (zA w6))), (a_p0_isThere, .inl (G 3, 49, .inl (zA w15))), (a_p0_isThereThen, .inl (G 3, 49, .inl (zA w60)))]) hx hb hK hP hD hS 6 3 rfl rfl hc (z_bv hz) dX12_could_157 (fun _ => rfl) (fun w60 ez H locs hP hD hS => ?_)
                              replace hf := bnd_s hf ez
                              clear ez hc
                              obtain ⟨z61, ez⟩ : ∃ y : Int, y = (z43 + (1 : Int)) := ⟨_, rfl⟩
                              replace hf := bnd_s hf ez
                              refine lv_iinc (v := Int32.ofInt z61) (lv' := [(5, .int (Int32.ofInt z61)), (2, .int (Int32.ofInt z57)), (4, .int (Int32.ofInt z36)), (3, .int (Int32.ofInt z12)), (0, .ref a_p0), (1, .int (Int32.ofInt x1))]) hx hb dX12_could_158 hl (k := 1) rfl (by rw [ez]; exact (Int32.ofInt_add _ _).symm) (by decide) rfl (fun ls hl => ?_)
                              clear ez
                              refine lv_goto (tgt := 106) hx hb dX12_could_161 (by decide) ?_
                              exact ih106 _ _ _ _ _ _ _ (lv_sub hl [0, 2, 1, 3, 4, 5] rfl) hP hD hS hf
                    exact hB47 _ _ _ _ _ _ _ _ (lv_sub hl [0, 1, 2, 3, 4, 5] rfl) hP hD hS hf
              exact hB40 _ _ _ _ _ _ _ _ (lv_sub hl [0, 1, 2, 3, 4] rfl) hP hD hS hf
            have hq := lq2_i hf
            clear hf
            obtain ⟨B64, eB64, NB64, hf⟩ := hq
            have hB64 : ∀ (n : Nat) (z62 : Int) (w63 : (Int → Int)) (ls : Array Slot) (H : Heap) (locs : List Loc), lv_has ls 6 [(4, .int (Int32.ofInt z62)), (2, .int (Int32.ofInt z19)), (3, .int (Int32.ofInt z12)), (0, .ref a_p0), (1, .int (Int32.ofInt x1))] → va_P D vwCl [(a_p0, .inr (12, [.ref a_p0_st, .ref a_p0_isKept, .int (Int32.ofInt i_p0_seats), .int (Int32.ofInt i_p0_stirs), .ref a_p0_brings, .ref a_p0_need, .ref a_p0_draft, .int (Int32.ofInt i_p0_dSeats), .int (Int32.ofInt i_p0_dStirs), .ref a_p0_dStir, .ref a_p0_dNeed, .int (Int32.ofInt i_p0_told), .int (Int32.ofInt i_p0_highest), .ref a_p0_tape, .int (Int32.ofInt i_p0_taped), .int (Int32.ofInt i_p0_pos), .int (Int32.ofInt i_p0_from), .int (Int32.ofInt i_p0_sort), .int (Int32.ofInt i_p0_value), .int (Int32.ofInt i_p0_fault), .int (Int32.ofInt i_p0_wrongAt), .ref a_p0_places, .ref a_p0_stirred, .ref a_p0_ways, .ref a_p0_waysThen, .ref a_p0_stays, .ref a_p0_fewest, .ref a_p0_bowls, .ref a_p0_has, .ref a_p0_goesOn, .ref a_p0_isThere, .ref a_p0_isThereThen, .ref a_p0_bestRow, .ref a_p0_lanes, .ref a_p0_sizes, .ref a_p0_cells, .int (Int32.ofInt i_p0_torn)])), (a_p0_st, .inl (G 1, 152, .inl (zA v_p0_st))), (a_p0_brings, .inl (G 1, 35, .inl (zA v_p0_brings))), (a_p0_places, .inl (G 1, 7, .inl (zA w14))), (a_p0_goesOn, .inl (G 1, 343, .inl (zA w6))), (a_p0_isThere, .inl (G 3, 49, .inl (zA w15))), (a_p0_isThereThen, .inl (G 3, 49, .inl (zA w63)))] H → va_D A [(a_p0, .inr (12, [.ref a_p0_st, .ref a_p0_isKept, .int (Int32.ofInt i_p0_seats), .int (Int32.ofInt i_p0_stirs), .ref a_p0_brings, .ref a_p0_need, .ref a_p0_draft, .int (Int32.ofInt i_p0_dSeats), .int (Int32.ofInt i_p0_dStirs), .ref a_p0_dStir, .ref a_p0_dNeed, .int (Int32.ofInt i_p0_told), .int (Int32.ofInt i_p0_highest), .ref a_p0_tape, .int (Int32.ofInt i_p0_taped), .int (Int32.ofInt i_p0_pos), .int (Int32.ofInt i_p0_from), .int (Int32.ofInt i_p0_sort), .int (Int32.ofInt i_p0_value), .int (Int32.ofInt i_p0_fault), .int (Int32.ofInt i_p0_wrongAt), .ref a_p0_places, .ref a_p0_stirred, .ref a_p0_ways, .ref a_p0_waysThen, .ref a_p0_stays, .ref a_p0_fewest, .ref a_p0_bowls, .ref a_p0_has, .ref a_p0_goesOn, .ref a_p0_isThere, .ref a_p0_isThereThen, .ref a_p0_bestRow, .ref a_p0_lanes, .ref a_p0_sizes, .ref a_p0_cells, .int (Int32.ofInt i_p0_torn)])), (a_p0_st, .inl (G 1, 152, .inl (zA v_p0_st))), (a_p0_brings, .inl (G 1, 35, .inl (zA v_p0_brings))), (a_p0_places, .inl (G 1, 7, .inl (zA w14))), (a_p0_goesOn, .inl (G 1, 343, .inl (zA w6))), (a_p0_isThere, .inl (G 3, 49, .inl (zA w15))), (a_p0_isThereThen, .inl (G 3, 49, .inl (zA w63)))] → va_S A s.heap H locs → lq2 B64 n z62 w63 = some (r, o_v_p0_places, o_v_p0_goesOn, o_v_p0_isThere, o_v_p0_isThereThen) → W p l e rm_X12_could s m ([.ref a_p0, .int (Int32.ofInt x1)] : List Value).toArray below meth c H locs 0 0 Q (F0 m 72 ls []) := by
              clear hf hl hP hD hS
              intro n
              induction n with
              | zero =>
                intro z62 w63 ls H locs hl hP hD hS hf
                exact (lq2_0 hf).elim
              | succ n ih72 =>
                intro z62 w63 ls H locs hl hP hD hS hf
                replace hf := lq2_s eB64 hf
                unfold B_X12_could_72 at hf
                refine lv_iload hx hb dX12_could_72 (lv_at hl 0 rfl) ?_
                refine lv_bipush (v := Int32.ofInt (49 : Int)) hx hb dX12_could_74 (by decide) ?_
                have hr64 := ck_c hf
                replace hf := ck_r hf
                refine lv_icmp_ge (tgt := 93) hx hb dX12_could_76 (by decide) (fun cc => ?_) (fun cc => ?_)
                ·
                  replace hf := ite_t ((z_le (by decide) hr64).mp cc) hf
                  clear cc
                  exact hJ22 _ _ _ _ (lv_sub hl [1, 2, 3, 4] rfl) hP hD hS hf
                ·
                  replace hf := ite_f (fun h9 => cc ((z_le (by decide) hr64).mpr h9)) hf
                  clear cc
                  refine lv_aload_n hx hb dX12_could_79 rfl (lv_at hl 3 rfl) ?_
                  refine va_get (D := D) (ci := 12) (v := .ref a_p0_isThereThen) (C := RX12) (T := TX12) (N := 37) hx hb hts inX12_could_X12 hown hK hP 0 rfl rfl 31 (by decide) (hts _ mwX12_could_3) (fun _ h9 => h9) rfl dX12_could_80 ?_
                  refine lv_iload hx hb dX12_could_83 (lv_at hl 0 rfl) ?_
                  refine lv_iconst (v := Int32.ofInt (0 : Int)) hx hb dX12_could_85 (by decide) ?_
                  have hc := ck_c hf
                  replace hf := ck_r hf
                  have hz := ck_c hf
                  replace hf := ck_r hf
                  refine zs_zast (wf := fun w66 => [(a_p0, .inr (12, [.ref a_p0_st, .ref a_p0_isKept, .int (Int32.ofInt i_p0_seats), .int (Int32.ofInt i_p0_stirs), .ref a_p0_brings, .ref a_p0_need, .ref a_p0_draft, .int (Int32.ofInt i_p0_dSeats), .int (Int32.ofInt i_p0_dStirs), .ref a_p0_dStir, .ref a_p0_dNeed, .int (Int32.ofInt i_p0_told), .int (Int32.ofInt i_p0_highest), .ref a_p0_tape, .int (Int32.ofInt i_p0_taped), .int (Int32.ofInt i_p0_pos), .int (Int32.ofInt i_p0_from), .int (Int32.ofInt i_p0_sort), .int (Int32.ofInt i_p0_value), .int (Int32.ofInt i_p0_fault), .int (Int32.ofInt i_p0_wrongAt), .ref a_p0_places, .ref a_p0_stirred, .ref a_p0_ways, .ref a_p0_waysThen, .ref a_p0_stays, .ref a_p0_fewest, .ref a_p0_bowls, .ref a_p0_has, .ref a_p0_goesOn, .ref a_p0_isThere, .ref a_p0_isThereThen, .ref a_p0_bestRow, .ref a_p0_lanes, .ref a_p0_sizes, .ref a_p0_cells, .int (Int32.ofInt i_p0_torn)])), (a_p0_st, .inl (G 1, 152, .inl (zA v_p0_st))), (a_p0_brings, .inl (G 1, 35, .inl (zA v_p0_brings))), (a_p0_places, .inl (G 1, 7, .inl (zA w14))), (a_p0_goesOn, .inl (G 1, 343, .inl (zA w6))), (a_p0_isThere, .inl (G 3, 49, .inl (zA w15))), (a_p0_isThereThen, .inl (G 3, 49, .inl (zA w66)))]) hx hb hK hP hD hS 6 3 rfl rfl hc (z_bv hz) dX12_could_86 (fun _ => rfl) (fun w66 ez H locs hP hD hS => ?_)
                  replace hf := bnd_s hf ez
                  clear ez hc
                  obtain ⟨z67, ez⟩ : ∃ y : Int, y = (z62 + (1 : Int)) := ⟨_, rfl⟩
                  replace hf := bnd_s hf ez
                  refine lv_iinc (v := Int32.ofInt z67) (lv' := [(4, .int (Int32.ofInt z67)), (2, .int (Int32.ofInt z19)), (3, .int (Int32.ofInt z12)), (0, .ref a_p0), (1, .int (Int32.ofInt x1))]) hx hb dX12_could_87 hl (k := 0) rfl (by rw [ez]; exact (Int32.ofInt_add _ _).symm) (by decide) rfl (fun ls hl => ?_)
                  clear ez
                  refine lv_goto (tgt := 72) hx hb dX12_could_90 (by decide) ?_
                  exact ih72 _ _ _ _ _ (lv_sub hl [0, 1, 2, 3, 4] rfl) hP hD hS hf
            exact hB64 _ _ _ _ _ _ (lv_sub hl [0, 1, 2, 3, 4] rfl) hP hD hS hf
      exact hB17 _ _ _ _ _ _ _ _ _ (lv_sub hl [0, 1, 2, 3] rfl) hP hD hS hf
    have hq := lq2_i hf
    clear hf
    obtain ⟨B70, eB70, NB70, hf⟩ := hq
    have hB70 : ∀ (n : Nat) (z68 : Int) (w69 : (Int → Int)) (ls : Array Slot) (H : Heap) (locs : List Loc), lv_has ls 6 [(3, .int (Int32.ofInt z68)), (2, .int (Int32.ofInt z7)), (0, .ref a_p0), (1, .int (Int32.ofInt x1))] → va_P D vwCl [(a_p0, .inr (12, [.ref a_p0_st, .ref a_p0_isKept, .int (Int32.ofInt i_p0_seats), .int (Int32.ofInt i_p0_stirs), .ref a_p0_brings, .ref a_p0_need, .ref a_p0_draft, .int (Int32.ofInt i_p0_dSeats), .int (Int32.ofInt i_p0_dStirs), .ref a_p0_dStir, .ref a_p0_dNeed, .int (Int32.ofInt i_p0_told), .int (Int32.ofInt i_p0_highest), .ref a_p0_tape, .int (Int32.ofInt i_p0_taped), .int (Int32.ofInt i_p0_pos), .int (Int32.ofInt i_p0_from), .int (Int32.ofInt i_p0_sort), .int (Int32.ofInt i_p0_value), .int (Int32.ofInt i_p0_fault), .int (Int32.ofInt i_p0_wrongAt), .ref a_p0_places, .ref a_p0_stirred, .ref a_p0_ways, .ref a_p0_waysThen, .ref a_p0_stays, .ref a_p0_fewest, .ref a_p0_bowls, .ref a_p0_has, .ref a_p0_goesOn, .ref a_p0_isThere, .ref a_p0_isThereThen, .ref a_p0_bestRow, .ref a_p0_lanes, .ref a_p0_sizes, .ref a_p0_cells, .int (Int32.ofInt i_p0_torn)])), (a_p0_st, .inl (G 1, 152, .inl (zA v_p0_st))), (a_p0_brings, .inl (G 1, 35, .inl (zA v_p0_brings))), (a_p0_places, .inl (G 1, 7, .inl (zA w5))), (a_p0_goesOn, .inl (G 1, 343, .inl (zA w6))), (a_p0_isThere, .inl (G 3, 49, .inl (zA w69))), (a_p0_isThereThen, .inl (G 3, 49, .inl (zA v_p0_isThereThen)))] H → va_D A [(a_p0, .inr (12, [.ref a_p0_st, .ref a_p0_isKept, .int (Int32.ofInt i_p0_seats), .int (Int32.ofInt i_p0_stirs), .ref a_p0_brings, .ref a_p0_need, .ref a_p0_draft, .int (Int32.ofInt i_p0_dSeats), .int (Int32.ofInt i_p0_dStirs), .ref a_p0_dStir, .ref a_p0_dNeed, .int (Int32.ofInt i_p0_told), .int (Int32.ofInt i_p0_highest), .ref a_p0_tape, .int (Int32.ofInt i_p0_taped), .int (Int32.ofInt i_p0_pos), .int (Int32.ofInt i_p0_from), .int (Int32.ofInt i_p0_sort), .int (Int32.ofInt i_p0_value), .int (Int32.ofInt i_p0_fault), .int (Int32.ofInt i_p0_wrongAt), .ref a_p0_places, .ref a_p0_stirred, .ref a_p0_ways, .ref a_p0_waysThen, .ref a_p0_stays, .ref a_p0_fewest, .ref a_p0_bowls, .ref a_p0_has, .ref a_p0_goesOn, .ref a_p0_isThere, .ref a_p0_isThereThen, .ref a_p0_bestRow, .ref a_p0_lanes, .ref a_p0_sizes, .ref a_p0_cells, .int (Int32.ofInt i_p0_torn)])), (a_p0_st, .inl (G 1, 152, .inl (zA v_p0_st))), (a_p0_brings, .inl (G 1, 35, .inl (zA v_p0_brings))), (a_p0_places, .inl (G 1, 7, .inl (zA w5))), (a_p0_goesOn, .inl (G 1, 343, .inl (zA w6))), (a_p0_isThere, .inl (G 3, 49, .inl (zA w69))), (a_p0_isThereThen, .inl (G 3, 49, .inl (zA v_p0_isThereThen)))] → va_S A s.heap H locs → lq2 B70 n z68 w69 = some (r, o_v_p0_places, o_v_p0_goesOn, o_v_p0_isThere, o_v_p0_isThereThen) → W p l e rm_X12_could s m ([.ref a_p0, .int (Int32.ofInt x1)] : List Value).toArray below meth c H locs 0 0 Q (F0 m 29 ls []) := by
      clear hf hl hP hD hS
      intro n
      induction n with
      | zero =>
        intro z68 w69 ls H locs hl hP hD hS hf
        exact (lq2_0 hf).elim
      | succ n ih29 =>
        intro z68 w69 ls H locs hl hP hD hS hf
        replace hf := lq2_s eB70 hf
        unfold B_X12_could_29 at hf
        refine lv_iload_n hx hb dX12_could_29 rfl (lv_at hl 0 rfl) ?_
        refine lv_bipush (v := Int32.ofInt (49 : Int)) hx hb dX12_could_30 (by decide) ?_
        have hr70 := ck_c hf
        replace hf := ck_r hf
        refine lv_icmp_ge (tgt := 60) hx hb dX12_could_32 (by decide) (fun cc => ?_) (fun cc => ?_)
        ·
          replace hf := ite_t ((z_le (by decide) hr70).mp cc) hf
          clear cc
          exact hJ10 _ _ _ _ (lv_sub hl [1, 2, 3] rfl) hP hD hS hf
        ·
          replace hf := ite_f (fun h9 => cc ((z_le (by decide) hr70).mpr h9)) hf
          clear cc
          refine lv_aload_n hx hb dX12_could_35 rfl (lv_at hl 2 rfl) ?_
          refine va_get (D := D) (ci := 12) (v := .ref a_p0_isThere) (C := RX12) (T := TX12) (N := 37) hx hb hts inX12_could_X12 hown hK hP 0 rfl rfl 30 (by decide) (hts _ mwX12_could_2) (fun _ h9 => h9) rfl dX12_could_36 ?_
          refine lv_iload_n hx hb dX12_could_39 rfl (lv_at hl 0 rfl) ?_
          refine lv_iload_n hx hb dX12_could_40 rfl (lv_at hl 0 rfl) ?_
          refine lv_aload_n hx hb dX12_could_41 rfl (lv_at hl 2 rfl) ?_
          have hq := bd1_s hf
          clear hf
          obtain ⟨z72, hcall, hf⟩ := hq
          refine gnI (va_runV (As := []) (rest := [.int (Int32.ofInt z68), .int (Int32.ofInt z68), .ref a_p0_isThere]) ⟨hx, hb, hml, hown, hts⟩ (c_X12_stateNow (l := l) (D := D) (G := G) (sz := H.size) (a_p0 := a_p0) (a_p0_st := a_p0_st) (a_p0_isKept := a_p0_isKept) (a_p0_brings := a_p0_brings) (a_p0_need := a_p0_need) (a_p0_draft := a_p0_draft) (a_p0_dStir := a_p0_dStir) (a_p0_dNeed := a_p0_dNeed) (a_p0_tape := a_p0_tape) (a_p0_places := a_p0_places) (a_p0_stirred := a_p0_stirred) (a_p0_ways := a_p0_ways) (a_p0_waysThen := a_p0_waysThen) (a_p0_stays := a_p0_stays) (a_p0_fewest := a_p0_fewest) (a_p0_bowls := a_p0_bowls) (a_p0_has := a_p0_has) (a_p0_goesOn := a_p0_goesOn) (a_p0_isThere := a_p0_isThere) (a_p0_isThereThen := a_p0_isThereThen) (a_p0_bestRow := a_p0_bestRow) (a_p0_lanes := a_p0_lanes) (a_p0_sizes := a_p0_sizes) (a_p0_cells := a_p0_cells) (i_p0_seats := i_p0_seats) (i_p0_stirs := i_p0_stirs) (i_p0_dSeats := i_p0_dSeats) (i_p0_dStirs := i_p0_dStirs) (i_p0_told := i_p0_told) (i_p0_highest := i_p0_highest) (i_p0_taped := i_p0_taped) (i_p0_pos := i_p0_pos) (i_p0_from := i_p0_from) (i_p0_sort := i_p0_sort) (i_p0_value := i_p0_value) (i_p0_fault := i_p0_fault) (i_p0_wrongAt := i_p0_wrongAt) (i_p0_torn := i_p0_torn) (v_p0_st := v_p0_st) (r := z72) (hf := hcall)) (cwV 0 hts gX12_could_X12_stateNow rfl rfl rfl hdV_yX12_stateNow_RX12 ⟨Nat.le_of_ble_eq_true rfl, Nat.le_of_ble_eq_true rfl⟩) (preG_V (ci := 12) (q := (RX12, TX12, 37)) (hP.sub [0, 1] rfl) (hD.sub [0, 1] rfl rfl) hK rfl rfl) rfl rfl hl.1 rfl (lv_room (Nat.le_of_ble_eq_true rfl)) dX12_could_42 ⟨Nat.le_of_ble_eq_true rfl, Nat.le_of_ble_eq_true rfl⟩) hP hD hS hA [0, 1] rfl (fun H locs hP hD hS => ?_)
          clear hcall
          have hr72 := ck_c hf
          replace hf := ck_r hf
          refine lv_icmp_ne (tgt := 52) hx hb dX12_could_45 (by decide) (fun cc => ?_) (fun cc => ?_)
          ·
            replace hf := ite_f (fun h9 => cc ((z_eq hr70 hr72).mpr h9)) hf
            clear cc
            refine lv_iconst (v := Int32.ofInt (0 : Int)) hx hb dX12_could_52 (by decide) ?_
            have hc := ck_c hf
            replace hf := ck_r hf
            have hz := ck_c hf
            replace hf := ck_r hf
            refine zs_zast (wf := fun w74 => [(a_p0, .inr (12, [.ref a_p0_st, .ref a_p0_isKept, .int (Int32.ofInt i_p0_seats), .int (Int32.ofInt i_p0_stirs), .ref a_p0_brings, .ref a_p0_need, .ref a_p0_draft, .int (Int32.ofInt i_p0_dSeats), .int (Int32.ofInt i_p0_dStirs), .ref a_p0_dStir, .ref a_p0_dNeed, .int (Int32.ofInt i_p0_told), .int (Int32.ofInt i_p0_highest), .ref a_p0_tape, .int (Int32.ofInt i_p0_taped), .int (Int32.ofInt i_p0_pos), .int (Int32.ofInt i_p0_from), .int (Int32.ofInt i_p0_sort), .int (Int32.ofInt i_p0_value), .int (Int32.ofInt i_p0_fault), .int (Int32.ofInt i_p0_wrongAt), .ref a_p0_places, .ref a_p0_stirred, .ref a_p0_ways, .ref a_p0_waysThen, .ref a_p0_stays, .ref a_p0_fewest, .ref a_p0_bowls, .ref a_p0_has, .ref a_p0_goesOn, .ref a_p0_isThere, .ref a_p0_isThereThen, .ref a_p0_bestRow, .ref a_p0_lanes, .ref a_p0_sizes, .ref a_p0_cells, .int (Int32.ofInt i_p0_torn)])), (a_p0_st, .inl (G 1, 152, .inl (zA v_p0_st))), (a_p0_brings, .inl (G 1, 35, .inl (zA v_p0_brings))), (a_p0_places, .inl (G 1, 7, .inl (zA w5))), (a_p0_goesOn, .inl (G 1, 343, .inl (zA w6))), (a_p0_isThere, .inl (G 3, 49, .inl (zA w74))), (a_p0_isThereThen, .inl (G 3, 49, .inl (zA v_p0_isThereThen)))]) hx hb hK hP hD hS 5 3 rfl rfl hc (z_bv hz) dX12_could_53 (fun _ => rfl) (fun w74 ez H locs hP hD hS => ?_)
            replace hf := bnd_s hf ez
            clear ez hc
            obtain ⟨z75, ez⟩ : ∃ y : Int, y = (z68 + (1 : Int)) := ⟨_, rfl⟩
            replace hf := bnd_s hf ez
            refine lv_iinc (v := Int32.ofInt z75) (lv' := [(3, .int (Int32.ofInt z75)), (2, .int (Int32.ofInt z7)), (0, .ref a_p0), (1, .int (Int32.ofInt x1))]) hx hb dX12_could_54 hl (k := 0) rfl (by rw [ez]; exact (Int32.ofInt_add _ _).symm) (by decide) rfl (fun ls hl => ?_)
            clear ez
            refine lv_goto (tgt := 29) hx hb dX12_could_57 (by decide) ?_
            exact ih29 _ _ _ _ _ (lv_sub hl [0, 1, 2, 3] rfl) hP hD hS hf
          ·
            replace hf := ite_t ((z_eq hr70 hr72).mp cc) hf
            clear cc
            refine lv_iconst (v := Int32.ofInt (1 : Int)) hx hb dX12_could_48 (by decide) ?_
            refine lv_goto (tgt := 53) hx hb dX12_could_49 (by decide) ?_
            have hc := ck_c hf
            replace hf := ck_r hf
            have hz := ck_c hf
            replace hf := ck_r hf
            refine zs_zast (wf := fun w76 => [(a_p0, .inr (12, [.ref a_p0_st, .ref a_p0_isKept, .int (Int32.ofInt i_p0_seats), .int (Int32.ofInt i_p0_stirs), .ref a_p0_brings, .ref a_p0_need, .ref a_p0_draft, .int (Int32.ofInt i_p0_dSeats), .int (Int32.ofInt i_p0_dStirs), .ref a_p0_dStir, .ref a_p0_dNeed, .int (Int32.ofInt i_p0_told), .int (Int32.ofInt i_p0_highest), .ref a_p0_tape, .int (Int32.ofInt i_p0_taped), .int (Int32.ofInt i_p0_pos), .int (Int32.ofInt i_p0_from), .int (Int32.ofInt i_p0_sort), .int (Int32.ofInt i_p0_value), .int (Int32.ofInt i_p0_fault), .int (Int32.ofInt i_p0_wrongAt), .ref a_p0_places, .ref a_p0_stirred, .ref a_p0_ways, .ref a_p0_waysThen, .ref a_p0_stays, .ref a_p0_fewest, .ref a_p0_bowls, .ref a_p0_has, .ref a_p0_goesOn, .ref a_p0_isThere, .ref a_p0_isThereThen, .ref a_p0_bestRow, .ref a_p0_lanes, .ref a_p0_sizes, .ref a_p0_cells, .int (Int32.ofInt i_p0_torn)])), (a_p0_st, .inl (G 1, 152, .inl (zA v_p0_st))), (a_p0_brings, .inl (G 1, 35, .inl (zA v_p0_brings))), (a_p0_places, .inl (G 1, 7, .inl (zA w5))), (a_p0_goesOn, .inl (G 1, 343, .inl (zA w6))), (a_p0_isThere, .inl (G 3, 49, .inl (zA w76))), (a_p0_isThereThen, .inl (G 3, 49, .inl (zA v_p0_isThereThen)))]) hx hb hK hP hD hS 5 3 rfl rfl hc (z_bv hz) dX12_could_53 (fun _ => rfl) (fun w76 ez H locs hP hD hS => ?_)
            replace hf := bnd_s hf ez
            clear ez hc
            obtain ⟨z77, ez⟩ : ∃ y : Int, y = (z68 + (1 : Int)) := ⟨_, rfl⟩
            replace hf := bnd_s hf ez
            refine lv_iinc (v := Int32.ofInt z77) (lv' := [(3, .int (Int32.ofInt z77)), (2, .int (Int32.ofInt z7)), (0, .ref a_p0), (1, .int (Int32.ofInt x1))]) hx hb dX12_could_54 hl (k := 0) rfl (by rw [ez]; exact (Int32.ofInt_add _ _).symm) (by decide) rfl (fun ls hl => ?_)
            clear ez
            refine lv_goto (tgt := 29) hx hb dX12_could_57 (by decide) ?_
            exact ih29 _ _ _ _ _ (lv_sub hl [0, 1, 2, 3] rfl) hP hD hS hf
    exact hB70 _ _ _ _ _ _ (lv_sub hl [0, 1, 2, 3] rfl) hP hD hS hf
  ·
    replace hf := ite_t ((z_eq0 hr3).mp cc) hf
    clear cc
    refine lv_iconst (v := Int32.ofInt (-1 : Int)) hx hb dX12_could_19 (by decide) ?_
    obtain ⟨rfl, rfl, rfl, rfl, rfl⟩ := ou5 hf
    rw [hQ]
    exact W.iret hx hb hr (fun t ht hW => ⟨⟨_, (), rfl, rfl, by rw [ht]; exact hP, va_K.moved hW.alike hK, hD⟩, hS.F ht⟩) hS.2.2 dX12_could_20
