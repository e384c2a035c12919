noncomputable def f_X12_then (i_p0_seats : Int) (v_p0_st : (Int → Int)) (v_p0_brings : (Int → Int)) (v_p0_places : (Int → Int)) (x1 : Int) (x2 : Int) : Option (Int × (Int → Int)) := (ck (z_dv x1 (7 : Int)) (ck (z_ix (((7 : Int) * x2) + (x1 / (7 : Int))) 35) (ck (z_dv x1 (7 : Int)) (ck (z_dv x1 (7 : Int)) (bd2 (f_X12_nextBy i_p0_seats v_p0_st v_p0_brings v_p0_places (x1 % (7 : Int)) x2 (x1 / (7 : Int))) (fun (z1 : Int) (w2 : (Int → Int)) => (some ((((7 : Int) * (v_p0_brings (((7 : Int) * x2) + (x1 / (7 : Int))))) + z1), w2))))))))
abbrev rm_X12_then : Room := { frames := 3, cells := 0, slots := 0, locals := 70 }
theorem inX12_then_X12 : ∀ w ∈ wsX120, w ∈ wsX12_then := by first | exact fun w h => List.mem_cons_of_mem _ (List.mem_append_right _ h) | decide +kernel
theorem mwX12_then_1 : Cond.fieldLink RX12 17 "LadleKingsModel" "brings" "[I" ∈ wsX12_then := by first | exact List.mem_of_getElem? (i := 1) rfl | decide +kernel
set_option maxHeartbeats 8000000 in
set_option maxRecDepth 100000 in
theorem c_X12_then (l : Launch) (D : va_G) (G : Nat → ClassId) (sz : Nat) (a_p0 : Nat) (a_p0_st : Nat) (a_p0_isKept : Nat) (a_p0_brings : Nat) (a_p0_need : Nat) (a_p0_draft : Nat) (a_p0_dStir : Nat) (a_p0_dNeed : Nat) (a_p0_tape : Nat) (a_p0_places : Nat) (a_p0_stirred : Nat) (a_p0_ways : Nat) (a_p0_waysThen : Nat) (a_p0_stays : Nat) (a_p0_fewest : Nat) (a_p0_bowls : Nat) (a_p0_has : Nat) (a_p0_goesOn : Nat) (a_p0_isThere : Nat) (a_p0_isThereThen : Nat) (a_p0_bestRow : Nat) (a_p0_lanes : Nat) (a_p0_sizes : Nat) (a_p0_cells : Nat) (i_p0_seats : Int) (i_p0_stirs : Int) (i_p0_dSeats : Int) (i_p0_dStirs : Int) (i_p0_told : Int) (i_p0_highest : Int) (i_p0_taped : Int) (i_p0_pos : Int) (i_p0_from : Int) (i_p0_sort : Int) (i_p0_value : Int) (i_p0_fault : Int) (i_p0_wrongAt : Int) (i_p0_torn : Int) (v_p0_st : (Int → Int)) (v_p0_brings : (Int → Int)) (v_p0_places : (Int → Int)) (x1 : Int) (x2 : Int) (r : Int) (o_v_p0_places : (Int → Int)) (hf : f_X12_then i_p0_seats v_p0_st v_p0_brings v_p0_places x1 x2 = some (r, o_v_p0_places)) : Met l yX12_then wsX12_then rm_X12_then (pcG D G [.ref a_p0, .int (Int32.ofInt x1), .int (Int32.ofInt x2)] sz [(a_p0, .inr (12, [.ref a_p0_st, .ref a_p0_isKept, .int (Int32.ofInt i_p0_seats), .int (Int32.ofInt i_p0_stirs), .ref a_p0_brings, .ref a_p0_need, .ref a_p0_draft, .int (Int32.ofInt i_p0_dSeats), .int (Int32.ofInt i_p0_dStirs), .ref a_p0_dStir, .ref a_p0_dNeed, .int (Int32.ofInt i_p0_told), .int (Int32.ofInt i_p0_highest), .ref a_p0_tape, .int (Int32.ofInt i_p0_taped), .int (Int32.ofInt i_p0_pos), .int (Int32.ofInt i_p0_from), .int (Int32.ofInt i_p0_sort), .int (Int32.ofInt i_p0_value), .int (Int32.ofInt i_p0_fault), .int (Int32.ofInt i_p0_wrongAt), .ref a_p0_places, .ref a_p0_stirred, .ref a_p0_ways, .ref a_p0_waysThen, .ref a_p0_stays, .ref a_p0_fewest, .ref a_p0_bowls, .ref a_p0_has, .ref a_p0_goesOn, .ref a_p0_isThere, .ref a_p0_isThereThen, .ref a_p0_bestRow, .ref a_p0_lanes, .ref a_p0_sizes, .ref a_p0_cells, .int (Int32.ofInt i_p0_torn)])), (a_p0_st, .inl (G 1, 152, .inl (zA v_p0_st))), (a_p0_brings, .inl (G 1, 35, .inl (zA v_p0_brings))), (a_p0_places, .inl (G 1, 7, .inl (zA v_p0_places)))]) (qcI D G (Int32.ofInt r) [(a_p0, .inr (12, [.ref a_p0_st, .ref a_p0_isKept, .int (Int32.ofInt i_p0_seats), .int (Int32.ofInt i_p0_stirs), .ref a_p0_brings, .ref a_p0_need, .ref a_p0_draft, .int (Int32.ofInt i_p0_dSeats), .int (Int32.ofInt i_p0_dStirs), .ref a_p0_dStir, .ref a_p0_dNeed, .int (Int32.ofInt i_p0_told), .int (Int32.ofInt i_p0_highest), .ref a_p0_tape, .int (Int32.ofInt i_p0_taped), .int (Int32.ofInt i_p0_pos), .int (Int32.ofInt i_p0_from), .int (Int32.ofInt i_p0_sort), .int (Int32.ofInt i_p0_value), .int (Int32.ofInt i_p0_fault), .int (Int32.ofInt i_p0_wrongAt), .ref a_p0_places, .ref a_p0_stirred, .ref a_p0_ways, .ref a_p0_waysThen, .ref a_p0_stays, .ref a_p0_fewest, .ref a_p0_bowls, .ref a_p0_has, .ref a_p0_goesOn, .ref a_p0_isThere, .ref a_p0_isThereThen, .ref a_p0_bestRow, .ref a_p0_lanes, .ref a_p0_sizes, .ref a_p0_cells, .int (Int32.ofInt i_p0_torn)])), (a_p0_st, .inl (G 1, 152, .inl (zA v_p0_st))), (a_p0_brings, .inl (G 1, 35, .inl (zA v_p0_brings))), (a_p0_places, .inl (G 1, 7, .inl (zA o_v_p0_places)))] (va_A [(a_p0, .inr (12, [.ref a_p0_st, .ref a_p0_isKept, .int (Int32.ofInt i_p0_seats), .int (Int32.ofInt i_p0_stirs), .ref a_p0_brings, .ref a_p0_need, .ref a_p0_draft, .int (Int32.ofInt i_p0_dSeats), .int (Int32.ofInt i_p0_dStirs), .ref a_p0_dStir, .ref a_p0_dNeed, .int (Int32.ofInt i_p0_told), .int (Int32.ofInt i_p0_highest), .ref a_p0_tape, .int (Int32.ofInt i_p0_taped), .int (Int32.ofInt i_p0_pos), .int (Int32.ofInt i_p0_from), .int (Int32.ofInt i_p0_sort), .int (Int32.ofInt i_p0_value), .int (Int32.ofInt i_p0_fault), .int (Int32.ofInt i_p0_wrongAt), .ref a_p0_places, .ref a_p0_stirred, .ref a_p0_ways, .ref a_p0_waysThen, .ref a_p0_stays, .ref a_p0_fewest, .ref a_p0_bowls, .ref a_p0_has, .ref a_p0_goesOn, .ref a_p0_isThere, .ref a_p0_isThereThen, .ref a_p0_bestRow, .ref a_p0_lanes, .ref a_p0_sizes, .ref a_p0_cells, .int (Int32.ofInt i_p0_torn)])), (a_p0_st, .inl (G 1, 152, .inl (zA v_p0_st))), (a_p0_brings, .inl (G 1, 35, .inl (zA v_p0_brings))), (a_p0_places, .inl (G 1, 7, .inl (zA v_p0_places)))] sz)) 0 0 (va_A [(a_p0, .inr (12, [.ref a_p0_st, .ref a_p0_isKept, .int (Int32.ofInt i_p0_seats), .int (Int32.ofInt i_p0_stirs), .ref a_p0_brings, .ref a_p0_need, .ref a_p0_draft, .int (Int32.ofInt i_p0_dSeats), .int (Int32.ofInt i_p0_dStirs), .ref a_p0_dStir, .ref a_p0_dNeed, .int (Int32.ofInt i_p0_told), .int (Int32.ofInt i_p0_highest), .ref a_p0_tape, .int (Int32.ofInt i_p0_taped), .int (Int32.ofInt i_p0_pos), .int (Int32.ofInt i_p0_from), .int (Int32.ofInt i_p0_sort), .int (Int32.ofInt i_p0_value), .int (Int32.ofInt i_p0_fault), .int (Int32.ofInt i_p0_wrongAt), .ref a_p0_places, .ref a_p0_stirred, .ref a_p0_ways, .ref a_p0_waysThen, .ref a_p0_stays, .ref a_p0_fewest, .ref a_p0_bowls, .ref a_p0_has, .ref a_p0_goesOn, .ref a_p0_isThere, .ref a_p0_isThereThen, .ref a_p0_bestRow, .ref a_p0_lanes, .ref a_p0_sizes, .ref a_p0_cells, .int (Int32.ofInt i_p0_torn)])), (a_p0_st, .inl (G 1, 152, .inl (zA v_p0_st))), (a_p0_brings, .inl (G 1, 35, .inl (zA v_p0_brings))), (a_p0_places, .inl (G 1, 7, .inl (zA v_p0_places)))] sz) := by
  refine Met.ofW (cc := cX12_then) (maxL := 3) (ret := (some .int)) (by decide) rfl ?_
  intro p e s m args below meth c s₁ B hml hv
  obtain ⟨rfl, hsz, hP, hK, hD0⟩ := hv
  have hx := B.exec
  have hb := B.bytes
  have hr := B.returns
  have hts := atoms_spec (ws := wsX12_then) B.pre
  have hown : s.vm.findClass RX12 = some m.cls := findClass_of_methodNamed B.named
  have hlocks := B.notSynchronized
  subst hsz
  have hD := hD0.self (sz := s.heap.size)
  generalize hAe : va_A [(a_p0, .inr (12, [.ref a_p0_st, .ref a_p0_isKept, .int (Int32.ofInt i_p0_seats), .int (Int32.ofInt i_p0_stirs), .ref a_p0_brings, .ref a_p0_need, .ref a_p0_draft, .int (Int32.ofInt i_p0_dSeats), .int (Int32.ofInt i_p0_dStirs), .ref a_p0_dStir, .ref a_p0_dNeed, .int (Int32.ofInt i_p0_told), .int (Int32.ofInt i_p0_highest), .ref a_p0_tape, .int (Int32.ofInt i_p0_taped), .int (Int32.ofInt i_p0_pos), .int (Int32.ofInt i_p0_from), .int (Int32.ofInt i_p0_sort), .int (Int32.ofInt i_p0_value), .int (Int32.ofInt i_p0_fault), .int (Int32.ofInt i_p0_wrongAt), .ref a_p0_places, .ref a_p0_stirred, .ref a_p0_ways, .ref a_p0_waysThen, .ref a_p0_stays, .ref a_p0_fewest, .ref a_p0_bowls, .ref a_p0_has, .ref a_p0_goesOn, .ref a_p0_isThere, .ref a_p0_isThereThen, .ref a_p0_bestRow, .ref a_p0_lanes, .ref a_p0_sizes, .ref a_p0_cells, .int (Int32.ofInt i_p0_torn)])), (a_p0_st, .inl (G 1, 152, .inl (zA v_p0_st))), (a_p0_brings, .inl (G 1, 35, .inl (zA v_p0_brings))), (a_p0_places, .inl (G 1, 7, .inl (zA v_p0_places)))] s.heap.size = A at hD ⊢
  have hA : ∀ q : Nat, s.heap.size ≤ q → A q := fun q h => by rw [← hAe]; exact Or.inr h
  clear hAe hD0
  have hS : va_S A s.heap s.heap [] := va_S.rf
  have hl := lv_entry ([.ref a_p0, .int (Int32.ofInt x1), .int (Int32.ofInt x2)]) (n := 3) (Nat.le_of_ble_eq_true rfl)
  rw [lg_entry_eq]
  generalize (lg_sl ([.ref a_p0, .int (Int32.ofInt x1), .int (Int32.ofInt x2)]) ++ List.replicate (3 - (lg_sl ([.ref a_p0, .int (Int32.ofInt x1), .int (Int32.ofInt x2)])).length) Slot.unset).toArray = ls at hl ⊢
  have hl : lv_has ls 3 [(0, .ref a_p0), (1, .int (Int32.ofInt x1)), (2, .int (Int32.ofInt x2))] := hl
  refine W_nameQ (fun Q hQ => ?_)
  obtain ⟨H, hH⟩ : ∃ H, H = s.heap := ⟨_, rfl⟩
  replace hS : va_S A s.heap H [] := by rw [hH]; exact hS
  replace hP : va_P D vwCl [(a_p0, .inr (12, [.ref a_p0_st, .ref a_p0_isKept, .int (Int32.ofInt i_p0_seats), .int (Int32.ofInt i_p0_stirs), .ref a_p0_brings, .ref a_p0_need, .ref a_p0_draft, .int (Int32.ofInt i_p0_dSeats), .int (Int32.ofInt i_p0_dStirs), .ref a_p0_dStir, .ref a_p0_dNeed, .int (Int32.ofInt i_p0_told), .int (Int32.ofInt i_p0_highest), .ref a_p0_tape, .int (Int32.ofInt i_p0_taped), .int (Int32.ofInt i_p0_pos), .int (Int32.ofInt i_p0_from), .int (Int32.ofInt i_p0_sort), .int (Int32.ofInt i_p0_value), .int (Int32.ofInt i_p0_fault), .int (Int32.ofInt i_p0_wrongAt), .ref a_p0_places, .ref a_p0_stirred, .ref a_p0_ways, .ref a_p0_waysThen, .ref a_p0_stays, .ref a_p0_fewest, .ref a_p0_bowls, .ref a_p0_has, .ref a_p0_goesOn, .ref a_p0_isThere, .ref a_p0_isThereThen, .ref a_p0_bestRow, .ref a_p0_lanes, .ref a_p0_sizes, .ref a_p0_cells, .int (Int32.ofInt i_p0_torn)])), (a_p0_st, .inl (G 1, 152, .inl (zA v_p0_st))), (a_p0_brings, .inl (G 1, 35, .inl (zA v_p0_brings))), (a_p0_places, .inl (G 1, 7, .inl (zA v_p0_places)))] H := by rw [hH]; exact hP
  rw [← hH]
  clear hH
  unfold f_X12_then at hf
  refine lv_bipush (v := Int32.ofInt (7 : Int)) hx hb dX12_then_0 (by decide) ?_
  refine lv_aload_n hx hb dX12_then_2 rfl (lv_at hl 0 rfl) ?_
  refine va_get (D := D) (ci := 12) (v := .ref a_p0_brings) (C := RX12) (T := TX12) (N := 37) hx hb hts inX12_then_X12 hown hK hP 0 rfl rfl 4 (by decide) (hts _ mwX12_then_1) (fun _ h9 => h9) rfl dX12_then_3 ?_
  refine lv_bipush (v := Int32.ofInt (7 : Int)) hx hb dX12_then_6 (by decide) ?_
  refine lv_iload_n hx hb dX12_then_8 rfl (lv_at hl 2 rfl) ?_
  refine lv_imul hx hb dX12_then_9 (z_ci (Int32.ofInt_mul (7 : Int) x2) ?_)
  refine lv_iload_n hx hb dX12_then_10 rfl (lv_at hl 1 rfl) ?_
  refine lv_bipush (v := Int32.ofInt (7 : Int)) hx hb dX12_then_11 (by decide) ?_
  have hc := ck_c hf
  replace hf := ck_r hf
  refine lv_idiv hx hb dX12_then_13 (z_nz hc) (z_ci (z_div hc) ?_)
  clear hc
  refine lv_iadd hx hb dX12_then_14 (z_ci (Int32.ofInt_add ((7 : Int) * x2) (x1 / (7 : Int))) ?_)
  have hc := ck_c hf
  replace hf := ck_r hf
  refine va_iald hx hb hK hP 2 1 rfl rfl (z_ix_in hc) dX12_then_15 (z_ci (z_ald v_p0_brings hc) ?_)
  clear hc
  refine lv_imul hx hb dX12_then_16 (z_ci (Int32.ofInt_mul (7 : Int) (v_p0_brings (((7 : Int) * x2) + (x1 / (7 : Int))))) ?_)
  refine lv_aload_n hx hb dX12_then_17 rfl (lv_at hl 0 rfl) ?_
  refine lv_iload_n hx hb dX12_then_18 rfl (lv_at hl 1 rfl) ?_
  refine lv_bipush (v := Int32.ofInt (7 : Int)) hx hb dX12_then_19 (by decide) ?_
  have hc := ck_c hf
  replace hf := ck_r hf
  refine lv_irem hx hb dX12_then_21 (z_nz hc) (z_ci (z_rem hc) ?_)
  clear hc
  refine lv_iload_n hx hb dX12_then_22 rfl (lv_at hl 2 rfl) ?_
  refine lv_iload_n hx hb dX12_then_23 rfl (lv_at hl 1 rfl) ?_
  refine lv_bipush (v := Int32.ofInt (7 : Int)) hx hb dX12_then_24 (by decide) ?_
  have hc := ck_c hf
  replace hf := ck_r hf
  refine lv_idiv hx hb dX12_then_26 (z_nz hc) (z_ci (z_div hc) ?_)
  clear hc
  have hq := bd2_s hf
  clear hf
  obtain ⟨z1, w2, hcall, hf⟩ := hq
  refine gsI (ws' := [(a_p0, .inr (12, [.ref a_p0_st, .ref a_p0_isKept, .int (Int32.ofInt i_p0_seats), .int (Int32.ofInt i_p0_stirs), .ref a_p0_brings, .ref a_p0_need, .ref a_p0_draft, .int (Int32.ofInt i_p0_dSeats), .int (Int32.ofInt i_p0_dStirs), .ref a_p0_dStir, .ref a_p0_dNeed, .int (Int32.ofInt i_p0_told), .int (Int32.ofInt i_p0_highest), .ref a_p0_tape, .int (Int32.ofInt i_p0_taped), .int (Int32.ofInt i_p0_pos), .int (Int32.ofInt i_p0_from), .int (Int32.ofInt i_p0_sort), .int (Int32.ofInt i_p0_value), .int (Int32.ofInt i_p0_fault), .int (Int32.ofInt i_p0_wrongAt), .ref a_p0_places, .ref a_p0_stirred, .ref a_p0_ways, .ref a_p0_waysThen, .ref a_p0_stays, .ref a_p0_fewest, .ref a_p0_bowls, .ref a_p0_has, .ref a_p0_goesOn, .ref a_p0_isThere, .ref a_p0_isThereThen, .ref a_p0_bestRow, .ref a_p0_lanes, .ref a_p0_sizes, .ref a_p0_cells, .int (Int32.ofInt i_p0_torn)])), (a_p0_st, .inl (G 1, 152, .inl (zA v_p0_st))), (a_p0_brings, .inl (G 1, 35, .inl (zA v_p0_brings))), (a_p0_places, .inl (G 1, 7, .inl (zA w2)))]) (va_runV (As := [.int (Int32.ofInt (x1 % (7 : Int))), .int (Int32.ofInt x2), .int (Int32.ofInt (x1 / (7 : Int)))]) (rest := [.int (Int32.ofInt ((7 : Int) * (v_p0_brings (((7 : Int) * x2) + (x1 / (7 : Int))))))]) ⟨hx, hb, hml, hown, hts⟩ (c_X12_nextBy (l := l) (D := D) (G := G) (sz := H.size) (a_p0 := a_p0) (a_p0_st := a_p0_st) (a_p0_isKept := a_p0_isKept) (a_p0_brings := a_p0_brings) (a_p0_need := a_p0_need) (a_p0_draft := a_p0_draft) (a_p0_dStir := a_p0_dStir) (a_p0_dNeed := a_p0_dNeed) (a_p0_tape := a_p0_tape) (a_p0_places := a_p0_places) (a_p0_stirred := a_p0_stirred) (a_p0_ways := a_p0_ways) (a_p0_waysThen := a_p0_waysThen) (a_p0_stays := a_p0_stays) (a_p0_fewest := a_p0_fewest) (a_p0_bowls := a_p0_bowls) (a_p0_has := a_p0_has) (a_p0_goesOn := a_p0_goesOn) (a_p0_isThere := a_p0_isThere) (a_p0_isThereThen := a_p0_isThereThen) (a_p0_bestRow := a_p0_bestRow) (a_p0_lanes := a_p0_lanes) (a_p0_sizes := a_p0_sizes) (a_p0_cells := a_p0_cells) (i_p0_seats := i_p0_seats) (i_p0_stirs := i_p0_stirs) (i_p0_dSeats := i_p0_dSeats) (i_p0_dStirs := i_p0_dStirs) (i_p0_told := i_p0_told) (i_p0_highest := i_p0_highest) (i_p0_taped := i_p0_taped) (i_p0_pos := i_p0_pos) (i_p0_from := i_p0_from) (i_p0_sort := i_p0_sort) (i_p0_value := i_p0_value) (i_p0_fault := i_p0_fault) (i_p0_wrongAt := i_p0_wrongAt) (i_p0_torn := i_p0_torn) (v_p0_st := v_p0_st) (v_p0_brings := v_p0_brings) (v_p0_places := v_p0_places) (x1 := (x1 % (7 : Int))) (x2 := x2) (x3 := (x1 / (7 : Int))) (r := z1) (o_v_p0_places := w2) (hf := hcall)) (cwV 3 hts gX12_then_X12_nextBy rfl rfl rfl hdV_yX12_nextBy_RX12 ⟨Nat.le_of_ble_eq_true rfl, Nat.le_of_ble_eq_true rfl⟩) (preG_V (ci := 12) (q := (RX12, TX12, 37)) (hP.sub [0, 1, 2, 3] rfl) (hD.sub [0, 1, 2, 3] rfl rfl) hK rfl rfl) rfl rfl hl.1 rfl (lv_room (Nat.le_of_ble_eq_true rfl)) dX12_then_27 ⟨Nat.le_of_ble_eq_true rfl, Nat.le_of_ble_eq_true rfl⟩) hP hD hS hA [0, 1, 2, 3] rfl rfl rfl (fun H locs hP hD hS => ?_)
  clear hcall
  refine lv_iadd hx hb dX12_then_30 (z_ci (Int32.ofInt_add ((7 : Int) * (v_p0_brings (((7 : Int) * x2) + (x1 / (7 : Int))))) z1) ?_)
  obtain ⟨rfl, rfl⟩ := ou2 hf
  rw [hQ]
  exact W.iret hx hb hr (fun t ht hW => ⟨⟨_, (), rfl, rfl, by rw [ht]; exact hP, va_K.moved hW.alike hK, hD⟩, hS.F ht⟩) hS.2.2 dX12_then_31

noncomputable def B_X12_nextWays_108 (w5 : (Int → Int)) (w6 : (Int → Int)) (again108 : Int → (Int → Int) → Option ((Int → Int) × (Int → Int) × (Int → Int))) (z9 : Int) (w10 : (Int → Int)) : Option ((Int → Int) × (Int → Int) × (Int → Int)) := (ck (z_r32 z9) (if (49 : Int) ≤ z9 then (some (w5, w10, w6)) else (ck (z_ix z9 49) (ck (z_ix z9 49) (bnd (z_up w10 z9 (w6 z9)) (fun (w13 : (Int → Int)) => (bnd (z9 + (1 : Int)) (fun (z14 : Int) => (again108 z14 w13)))))))))
noncomputable def B_X12_nextWays_31 (i_p0_stirs : Int) (z15 : Int) (again23 : Int → (Int → Int) → (Int → Int) → Option ((Int → Int) × (Int → Int) × (Int → Int))) (v_p0_ways : (Int → Int)) (i_p0_seats : Int) (v_p0_st : (Int → Int)) (v_p0_brings : (Int → Int)) (x1 : Int) (again31 : Int → (Int → Int) → (Int → Int) → Option ((Int → Int) × (Int → Int) × (Int → Int))) (z21 : Int) (w22 : (Int → Int)) (w23 : (Int → Int)) : Option ((Int → Int) × (Int → Int) × (Int → Int)) := (ck (z_r32 z21) (ck (z_r32 i_p0_stirs) (if i_p0_stirs ≤ z21 then (bnd (z15 + (1 : Int)) (fun (z27 : Int) => (again23 z27 w22 w23))) else (ck (z_ix z15 49) (ck (z_r64 (v_p0_ways z15)) (ck (z_r32 (z_cmp (v_p0_ways z15) (0 : Int))) (if (z_cmp (v_p0_ways z15) (0 : Int)) ≤ (0 : Int) then (bnd (z15 + (1 : Int)) (fun (z30 : Int) => (again23 z30 w22 w23))) else (bd2 (f_X12_then i_p0_seats v_p0_st v_p0_brings w22 z15 z21) (fun (z31 : Int) (w32 : (Int → Int)) => (bnd z31 (fun (z33 : Int) => (ck (z_ix z33 49) (ck (z_r32 x1) (jn (fun (z35 : Int) (z36 : Int) => (ck (z_ix z15 49) (ck (z_ix z35 49) (bnd (z_up w23 z35 (z36 + (v_p0_ways z15))) (fun (w38 : (Int → Int)) => (bnd (z21 + (1 : Int)) (fun (z39 : Int) => (again31 z39 w32 w38)))))))) (fun (J37 : Int → Int → Option ((Int → Int) × (Int → Int) × (Int → Int))) => (if x1 = (0 : Int) then (J37 z33 (w23 z33)) else (ck (z_dv z33 (7 : Int)) (ck (z_dv z15 (7 : Int)) (ck (z_r32 (z33 % (7 : Int))) (ck (z_r32 (z15 % (7 : Int))) (if (z33 % (7 : Int)) = (z15 % (7 : Int)) then (J37 z33 (w23 z33)) else (ck (z_ix z33 49) (bnd (z_up w23 z33 ((w23 z33) + (0 : Int))) (fun (w42 : (Int → Int)) => (bnd (z21 + (1 : Int)) (fun (z43 : Int) => (again31 z43 w32 w42)))))))))))))))))))))))))))
noncomputable def B_X12_nextWays_23 (J7 : (Int → Int) → (Int → Int) → Option ((Int → Int) × (Int → Int) × (Int → Int))) (i_p0_stirs : Int) (v_p0_ways : (Int → Int)) (i_p0_seats : Int) (v_p0_st : (Int → Int)) (v_p0_brings : (Int → Int)) (x1 : Int) (again23 : Int → (Int → Int) → (Int → Int) → Option ((Int → Int) × (Int → Int) × (Int → Int))) (z15 : Int) (w16 : (Int → Int)) (w17 : (Int → Int)) : Option ((Int → Int) × (Int → Int) × (Int → Int)) := (ck (z_r32 z15) (if (49 : Int) ≤ z15 then (J7 w16 w17) else (bnd (0 : Int) (fun (z20 : Int) => (lq3 (B_X12_nextWays_31 i_p0_stirs z15 again23 v_p0_ways i_p0_seats v_p0_st v_p0_brings x1) 1000 z20 w16 w17)))))
noncomputable def B_X12_nextWays_2 (J3 : (Int → Int) → Option ((Int → Int) × (Int → Int) × (Int → Int))) (again2 : Int → (Int → Int) → Option ((Int → Int) × (Int → Int) × (Int → Int))) (z44 : Int) (w45 : (Int → Int)) : Option ((Int → Int) × (Int → Int) × (Int → Int)) := (ck (z_r32 z44) (if (49 : Int) ≤ z44 then (J3 w45) else (ck (z_ix z44 49) (bnd (z_up w45 z44 (0 : Int)) (fun (w48 : (Int → Int)) => (bnd (z44 + (1 : Int)) (fun (z49 : Int) => (again2 z49 w48))))))))
noncomputable def f_X12_nextWays (i_p0_seats : Int) (i_p0_stirs : Int) (v_p0_st : (Int → Int)) (v_p0_brings : (Int → Int)) (v_p0_places : (Int → Int)) (v_p0_ways : (Int → Int)) (v_p0_waysThen : (Int → Int)) (x1 : Int) : Option ((Int → Int) × (Int → Int) × (Int → Int)) := (bnd (0 : Int) (fun (z1 : Int) => (jn (fun (w2 : (Int → Int)) => (bnd (0 : Int) (fun (z4 : Int) => (jn (fun (w5 : (Int → Int)) (w6 : (Int → Int)) => (bnd (0 : Int) (fun (z8 : Int) => (lq2 (B_X12_nextWays_108 w5 w6) 1000 z8 v_p0_ways)))) (fun (J7 : (Int → Int) → (Int → Int) → Option ((Int → Int) × (Int → Int) × (Int → Int))) => (lq3 (B_X12_nextWays_23 J7 i_p0_stirs v_p0_ways i_p0_seats v_p0_st v_p0_brings x1) 1000 z4 v_p0_places w2)))))) (fun (J3 : (Int → Int) → Option ((Int → Int) × (Int → Int) × (Int → Int))) => (lq2 (B_X12_nextWays_2 J3) 1000 z1 v_p0_waysThen)))))
abbrev rm_X12_nextWays : Room := { frames := 4, cells := 0, slots := 0, locals := 92 }
theorem inX12_nextWays_X12 : ∀ w ∈ wsX120, w ∈ wsX12_nextWays := by first | exact fun w h => List.mem_cons_of_mem _ (List.mem_append_right _ h) | decide +kernel
theorem mwX12_nextWays_1 : Cond.fieldLink RX12 41 "LadleKingsModel" "ways" "[J" ∈ wsX12_nextWays := by first | exact List.mem_of_getElem? (i := 3) rfl | decide +kernel
theorem mwX12_nextWays_2 : Cond.fieldLink RX12 45 "LadleKingsModel" "waysThen" "[J" ∈ wsX12_nextWays := by first | exact List.mem_of_getElem? (i := 1) rfl | decide +kernel
theorem mwX12_nextWays_3 : Cond.fieldLink RX12 103 "LadleKingsModel" "stirs" "I" ∈ wsX12_nextWays := by first | exact List.mem_of_getElem? (i := 2) rfl | decide +kernel
theorem hdV_yX12_then_RX12 : yX12_then.cls = RX12 ∧ yX12_then.cls ≠ "java/lang/invoke/MethodHandle" ∧ yX12_then.cls ≠ "java/lang/invoke/VarHandle" ∧ (parseMethodDescriptor yX12_then.desc).map (fun d => d.parameters.length) = some 2 := by decide +kernel
set_option maxHeartbeats 8000000 in
set_option maxRecDepth 100000 in
theorem c_X12_nextWays (l : Launch) (D : va_G) (G : Nat → ClassId) (sz : Nat) (a_p0 : Nat) (a_p0_st : Nat) (a_p0_isKept : Nat) (a_p0_brings : Nat) (a_p0_need : Nat) (a_p0_draft : Nat) (a_p0_dStir : Nat) (a_p0_dNeed : Nat) (a_p0_tape : Nat) (a_p0_places : Nat) (a_p0_stirred : Nat) (a_p0_ways : Nat) (a_p0_waysThen : Nat) (a_p0_stays : Nat) (a_p0_fewest : Nat) (a_p0_bowls : Nat) (a_p0_has : Nat) (a_p0_goesOn : Nat) (a_p0_isThere : Nat) (a_p0_isThereThen : Nat) (a_p0_bestRow : Nat) (a_p0_lanes : Nat) (a_p0_sizes : Nat) (a_p0_cells : Nat) (i_p0_seats : Int) (i_p0_stirs : Int) (i_p0_dSeats : Int) (i_p0_dStirs : Int) (i_p0_told : Int) (i_p0_highest : Int) (i_p0_taped : Int) (i_p0_pos : Int) (i_p0_from : Int) (i_p0_sort : Int) (i_p0_value : Int) (i_p0_fault : Int) (i_p0_wrongAt : Int) (i_p0_torn : Int) (v_p0_st : (Int → Int)) (v_p0_brings : (Int → Int)) (v_p0_places : (Int → Int)) (v_p0_ways : (Int → Int)) (v_p0_waysThen : (Int → Int)) (x1 : Int) (o_v_p0_places : (Int → Int)) (o_v_p0_ways : (Int → Int)) (o_v_p0_waysThen : (Int → Int)) (hf : f_X12_nextWays i_p0_seats i_p0_stirs v_p0_st v_p0_brings v_p0_places v_p0_ways v_p0_waysThen x1 = some (o_v_p0_places, o_v_p0_ways, o_v_p0_waysThen)) : Met l yX12_nextWays wsX12_nextWays rm_X12_nextWays (pcG D G [.ref a_p0, .int (Int32.ofInt x1)] sz [(a_p0, .inr (12, [.ref a_p0_st, .ref a_p0_isKept, .int (Int32.ofInt i_p0_seats), .int (Int32.ofInt i_p0_stirs), .ref a_p0_brings, .ref a_p0_need, .ref a_p0_draft, .int (Int32.ofInt i_p0_dSeats), .int (Int32.ofInt i_p0_dStirs), .ref a_p0_dStir, .ref a_p0_dNeed, .int (Int32.ofInt i_p0_told), .int (Int32.ofInt i_p0_highest), .ref a_p0_tape, .int (Int32.ofInt i_p0_taped), .int (Int32.ofInt i_p0_pos), .int (Int32.ofInt i_p0_from), .int (Int32.ofInt i_p0_sort), .int (Int32.ofInt i_p0_value), .int (Int32.ofInt i_p0_fault), .int (Int32.ofInt i_p0_wrongAt), .ref a_p0_places, .ref a_p0_stirred, .ref a_p0_ways, .ref a_p0_waysThen, .ref a_p0_stays, .ref a_p0_fewest, .ref a_p0_bowls, .ref a_p0_has, .ref a_p0_goesOn, .ref a_p0_isThere, .ref a_p0_isThereThen, .ref a_p0_bestRow, .ref a_p0_lanes, .ref a_p0_sizes, .ref a_p0_cells, .int (Int32.ofInt i_p0_torn)])), (a_p0_st, .inl (G 1, 152, .inl (zA v_p0_st))), (a_p0_brings, .inl (G 1, 35, .inl (zA v_p0_brings))), (a_p0_places, .inl (G 1, 7, .inl (zA v_p0_places))), (a_p0_ways, .inl (G 2, 49, .inr (.inl (zL v_p0_ways)))), (a_p0_waysThen, .inl (G 2, 49, .inr (.inl (zL v_p0_waysThen))))]) (qcV D G [(a_p0, .inr (12, [.ref a_p0_st, .ref a_p0_isKept, .int (Int32.ofInt i_p0_seats), .int (Int32.ofInt i_p0_stirs), .ref a_p0_brings, .ref a_p0_need, .ref a_p0_draft, .int (Int32.ofInt i_p0_dSeats), .int (Int32.ofInt i_p0_dStirs), .ref a_p0_dStir, .ref a_p0_dNeed, .int (Int32.ofInt i_p0_told), .int (Int32.ofInt i_p0_highest), .ref a_p0_tape, .int (Int32.ofInt i_p0_taped), .int (Int32.ofInt i_p0_pos), .int (Int32.ofInt i_p0_from), .int (Int32.ofInt i_p0_sort), .int (Int32.ofInt i_p0_value), .int (Int32.ofInt i_p0_fault), .int (Int32.ofInt i_p0_wrongAt), .ref a_p0_places, .ref a_p0_stirred, .ref a_p0_ways, .ref a_p0_waysThen, .ref a_p0_stays, .ref a_p0_fewest, .ref a_p0_bowls, .ref a_p0_has, .ref a_p0_goesOn, .ref a_p0_isThere, .ref a_p0_isThereThen, .ref a_p0_bestRow, .ref a_p0_lanes, .ref a_p0_sizes, .ref a_p0_cells, .int (Int32.ofInt i_p0_torn)])), (a_p0_st, .inl (G 1, 152, .inl (zA v_p0_st))), (a_p0_brings, .inl (G 1, 35, .inl (zA v_p0_brings))), (a_p0_places, .inl (G 1, 7, .inl (zA o_v_p0_places))), (a_p0_ways, .inl (G 2, 49, .inr (.inl (zL o_v_p0_ways)))), (a_p0_waysThen, .inl (G 2, 49, .inr (.inl (zL o_v_p0_waysThen))))] (va_A [(a_p0, .inr (12, [.ref a_p0_st, .ref a_p0_isKept, .int (Int32.ofInt i_p0_seats), .int (Int32.ofInt i_p0_stirs), .ref a_p0_brings, .ref a_p0_need, .ref a_p0_draft, .int (Int32.ofInt i_p0_dSeats), .int (Int32.ofInt i_p0_dStirs), .ref a_p0_dStir, .ref a_p0_dNeed, .int (Int32.ofInt i_p0_told), .int (Int32.ofInt i_p0_highest), .ref a_p0_tape, .int (Int32.ofInt i_p0_taped), .int (Int32.ofInt i_p0_pos), .int (Int32.ofInt i_p0_from), .int (Int32.ofInt i_p0_sort), .int (Int32.ofInt i_p0_value), .int (Int32.ofInt i_p0_fault), .int (Int32.ofInt i_p0_wrongAt), .ref a_p0_places, .ref a_p0_stirred, .ref a_p0_ways, .ref a_p0_waysThen, .ref a_p0_stays, .ref a_p0_fewest, .ref a_p0_bowls, .ref a_p0_has, .ref a_p0_goesOn, .ref a_p0_isThere, .ref a_p0_isThereThen, .ref a_p0_bestRow, .ref a_p0_lanes, .ref a_p0_sizes, .ref a_p0_cells, .int (Int32.ofInt i_p0_torn)])), (a_p0_st, .inl (G 1, 152, .inl (zA v_p0_st))), (a_p0_brings, .inl (G 1, 35, .inl (zA v_p0_brings))), (a_p0_places, .inl (G 1, 7, .inl (zA v_p0_places))), (a_p0_ways, .inl (G 2, 49, .inr (.inl (zL v_p0_ways)))), (a_p0_waysThen, .inl (G 2, 49, .inr (.inl (zL v_p0_waysThen))))] sz)) 0 0 (va_A [(a_p0, .inr (12, [.ref a_p0_st, .ref a_p0_isKept, .int (Int32.ofInt i_p0_seats), .int (Int32.ofInt i_p0_stirs), .ref a_p0_brings, .ref a_p0_need, .ref a_p0_draft, .int (Int32.ofInt i_p0_dSeats), .int (Int32.ofInt i_p0_dStirs), .ref a_p0_dStir, .ref a_p0_dNeed, .int (Int32.ofInt i_p0_told), .int (Int32.ofInt i_p0_highest), .ref a_p0_tape, .int (Int32.ofInt i_p0_taped), .int (Int32.ofInt i_p0_pos), .int (Int32.ofInt i_p0_from), .int (Int32.ofInt i_p0_sort), .int (Int32.ofInt i_p0_value), .int (Int32.ofInt i_p0_fault), .int (Int32.ofInt i_p0_wrongAt), .ref a_p0_places, .ref a_p0_stirred, .ref a_p0_ways, .ref a_p0_waysThen, .ref a_p0_stays, .ref a_p0_fewest, .ref a_p0_bowls, .ref a_p0_has, .ref a_p0_goesOn, .ref a_p0_isThere, .ref a_p0_isThereThen, .ref a_p0_bestRow, .ref a_p0_lanes, .ref a_p0_sizes, .ref a_p0_cells, .int (Int32.ofInt i_p0_torn)])), (a_p0_st, .inl (G 1, 152, .inl (zA v_p0_st))), (a_p0_brings, .inl (G 1, 35, .inl (zA v_p0_brings))), (a_p0_places, .inl (G 1, 7, .inl (zA v_p0_places))), (a_p0_ways, .inl (G 2, 49, .inr (.inl (zL v_p0_ways)))), (a_p0_waysThen, .inl (G 2, 49, .inr (.inl (zL v_p0_waysThen))))] sz) := by
  refine Met.ofW (cc := cX12_nextWays) (maxL := 5) (ret := none) (by decide) rfl ?_
  intro p e s m args below meth c s₁ B hml hv
  obtain ⟨rfl, hsz, hP, hK, hD0⟩ := hv
  have hx := B.exec
  have hb := B.bytes
  have hr := B.returns
  have hts := atoms_spec (ws := wsX12_nextWays) B.pre
  have hown : s.vm.findClass RX12 = some m.cls := findClass_of_methodNamed B.named
  have hlocks := B.notSynchronized
  subst hsz
  have hD := hD0.self (sz := s.heap.size)
  generalize hAe : va_A [(a_p0, .inr (12, [.ref a_p0_st, .ref a_p0_isKept, .int (Int32.ofInt i_p0_seats), .int (Int32.ofInt i_p0_stirs), .ref a_p0_brings, .ref a_p0_need, .ref a_p0_draft, .int (Int32.ofInt i_p0_dSeats), .int (Int32.ofInt i_p0_dStirs), .ref a_p0_dStir, .ref a_p0_dNeed, .int (Int32.ofInt i_p0_told), .int (Int32.ofInt i_p0_highest), .ref a_p0_tape, .int (Int32.ofInt i_p0_taped), .int (Int32.ofInt i_p0_pos), .int (Int32.ofInt i_p0_from), .int (Int32.ofInt i_p0_sort), .int (Int32.ofInt i_p0_value), .int (Int32.ofInt i_p0_fault), .int (Int32.ofInt i_p0_wrongAt), .ref a_p0_places, .ref a_p0_stirred, .ref a_p0_ways, .ref a_p0_waysThen, .ref a_p0_stays, .ref a_p0_fewest, .ref a_p0_bowls, .ref a_p0_has, .ref a_p0_goesOn, .ref a_p0_isThere, .ref a_p0_isThereThen, .ref a_p0_bestRow, .ref a_p0_lanes, .ref a_p0_sizes, .ref a_p0_cells, .int (Int32.ofInt i_p0_torn)])), (a_p0_st, .inl (G 1, 152, .inl (zA v_p0_st))), (a_p0_brings, .inl (G 1, 35, .inl (zA v_p0_brings))), (a_p0_places, .inl (G 1, 7, .inl (zA v_p0_places))), (a_p0_ways, .inl (G 2, 49, .inr (.inl (zL v_p0_ways)))), (a_p0_waysThen, .inl (G 2, 49, .inr (.inl (zL v_p0_waysThen))))] s.heap.size = A at hD ⊢
  have hA : ∀ q : Nat, s.heap.size ≤ q → A q := fun q h => by rw [← hAe]; exact Or.inr h
  clear hAe hD0
  have hS : va_S A s.heap s.heap [] := va_S.rf
  have hl := lv_entry ([.ref a_p0, .int (Int32.ofInt x1)]) (n := 5) (Nat.le_of_ble_eq_true rfl)
  rw [lg_entry_eq]
  generalize (lg_sl ([.ref a_p0, .int (Int32.ofInt x1)]) ++ List.replicate (5 - (lg_sl ([.ref a_p0, .int (Int32.ofInt x1)])).length) Slot.unset).toArray = ls at hl ⊢
  have hl : lv_has ls 5 [(0, .ref a_p0), (1, .int (Int32.ofInt x1))] := hl
  refine W_nameQ (fun Q hQ => ?_)
  obtain ⟨H, hH⟩ : ∃ H, H = s.heap := ⟨_, rfl⟩
  replace hS : va_S A s.heap H [] := by rw [hH]; exact hS
  replace hP : va_P D vwCl [(a_p0, .inr (12, [.ref a_p0_st, .ref a_p0_isKept, .int (Int32.ofInt i_p0_seats), .int (Int32.ofInt i_p0_stirs), .ref a_p0_brings, .ref a_p0_need, .ref a_p0_draft, .int (Int32.ofInt i_p0_dSeats), .int (Int32.ofInt i_p0_dStirs), .ref a_p0_dStir, .ref a_p0_dNeed, .int (Int32.ofInt i_p0_told), .int (Int32.ofInt i_p0_highest), .ref a_p0_tape, .int (Int32.ofInt i_p0_taped), .int (Int32.ofInt i_p0_pos), .int (Int32.ofInt i_p0_from), .int (Int32.ofInt i_p0_sort), .int (Int32.ofInt i_p0_value), .int (Int32.ofInt i_p0_fault), .int (Int32.ofInt i_p0_wrongAt), .ref a_p0_places, .ref a_p0_stirred, .ref a_p0_ways, .ref a_p0_waysThen, .ref a_p0_stays, .ref a_p0_fewest, .ref a_p0_bowls, .ref a_p0_has, .ref a_p0_goesOn, .ref a_p0_isThere, .ref a_p0_isThereThen, .ref a_p0_bestRow, .ref a_p0_lanes, .ref a_p0_sizes, .ref a_p0_cells, .int (Int32.ofInt i_p0_torn)])), (a_p0_st, .inl (G 1, 152, .inl (zA v_p0_st))), (a_p0_brings, .inl (G 1, 35, .inl (zA v_p0_brings))), (a_p0_places, .inl (G 1, 7, .inl (zA v_p0_places))), (a_p0_ways, .inl (G 2, 49, .inr (.inl (zL v_p0_ways)))), (a_p0_waysThen, .inl (G 2, 49, .inr (.inl (zL v_p0_waysThen))))] H := by rw [hH]; exact hP
  rw [← hH]
  clear hH
  unfold f_X12_nextWays at hf
  refine lv_iconst (v := Int32.ofInt (0 : Int)) hx hb dX12_nextWays_0 (by decide) ?_
  refine z_topi (fun z1 ez => ?_)
  replace hf := bnd_s hf ez
  clear ez
  refine lv_istore_n (lv' := [(2, .int (Int32.ofInt z1)), (0, .ref a_p0), (1, .int (Int32.ofInt x1))]) hx hb dX12_nextWays_1 rfl hl (by decide) rfl (fun ls hl => ?_)
  have hq := jn_i hf
  clear hf
  obtain ⟨J3, eJ3, hf⟩ := hq
  have hJ3 : ∀ (w2 : (Int → Int)) (ls : Array Slot) (H : Heap) (locs : List Loc), lv_has ls 5 [(0, .ref a_p0), (1, .int (Int32.ofInt x1))] → va_P D vwCl [(a_p0, .inr (12, [.ref a_p0_st, .ref a_p0_isKept, .int (Int32.ofInt i_p0_seats), .int (Int32.ofInt i_p0_stirs), .ref a_p0_brings, .ref a_p0_need, .ref a_p0_draft, .int (Int32.ofInt i_p0_dSeats), .int (Int32.ofInt i_p0_dStirs), .ref a_p0_dStir, .ref a_p0_dNeed, .int (Int32.ofInt i_p0_told), .int (Int32.ofInt i_p0_highest), .ref a_p0_tape, .int (Int32.ofInt i_p0_taped), .int (Int32.ofInt i_p0_pos), .int (Int32.ofInt i_p0_from), .int (Int32.ofInt i_p0_sort), .int (Int32.ofInt i_p0_value), .int (Int32.ofInt i_p0_fault), .int (Int32.ofInt i_p0_wrongAt), .ref a_p0_places, .ref a_p0_stirred, .ref a_p0_ways, .ref a_p0_waysThen, .ref a_p0_stays, .ref a_p0_fewest, .ref a_p0_bowls, .ref a_p0_has, .ref a_p0_goesOn, .ref a_p0_isThere, .ref a_p0_isThereThen, .ref a_p0_bestRow, .ref a_p0_lanes, .ref a_p0_sizes, .ref a_p0_cells, .int (Int32.ofInt i_p0_torn)])), (a_p0_st, .inl (G 1, 152, .inl (zA v_p0_st))), (a_p0_brings, .inl (G 1, 35, .inl (zA v_p0_brings))), (a_p0_places, .inl (G 1, 7, .inl (zA v_p0_places))), (a_p0_ways, .inl (G 2, 49, .inr (.inl (zL v_p0_ways)))), (a_p0_waysThen, .inl (G 2, 49, .inr (.inl (zL w2))))] H → va_D A [(a_p0, .inr (12, [.ref a_p0_st, .ref a_p0_isKept, .int (Int32.ofInt i_p0_seats), .int (Int32.ofInt i_p0_stirs), .ref a_p0_brings, .ref a_p0_need, .ref a_p0_draft, .int (Int32.ofInt i_p0_dSeats), .int (Int32.ofInt i_p0_dStirs), .ref a_p0_dStir, .ref a_p0_dNeed, .int (Int32.ofInt i_p0_told), .int (Int32.ofInt i_p0_highest), .ref a_p0_tape, .int (Int32.ofInt i_p0_taped), .int (Int32.ofInt i_p0_pos), .int (Int32.ofInt i_p0_from), .int (Int32.ofInt i_p0_sort), .int (Int32.ofInt i_p0_value), .int (Int32.ofInt i_p0_fault), .int (Int32.ofInt i_p0_wrongAt), .ref a_p0_places, .ref a_p0_stirred, .ref a_p0_ways, .ref a_p0_waysThen, .ref a_p0_stays, .ref a_p0_fewest, .ref a_p0_bowls, .ref a_p0_has, .ref a_p0_goesOn, .ref a_p0_isThere, .ref a_p0_isThereThen, .ref a_p0_bestRow, .ref a_p0_lanes, .ref a_p0_sizes, .ref a_p0_cells, .int (Int32.ofInt i_p0_torn)])), (a_p0_st, .inl (G 1, 152, .inl (zA v_p0_st))), (a_p0_brings, .inl (G 1, 35, .inl (zA v_p0_brings))), (a_p0_places, .inl (G 1, 7, .inl (zA v_p0_places))), (a_p0_ways, .inl (G 2, 49, .inr (.inl (zL v_p0_ways)))), (a_p0_waysThen, .inl (G 2, 49, .inr (.inl (zL w2))))] → va_S A s.heap H locs → J3 w2 = some (o_v_p0_places, o_v_p0_ways, o_v_p0_waysThen) → W p l e rm_X12_nextWays s m ([.ref a_p0, .int (Int32.ofInt x1)] : List Value).toArray below meth c H locs 0 0 Q (F0 m 21 ls []) := by
    clear hf hl hP hD hS
    intro w2 ls H locs hl hP hD hS hf
    replace hf := jn1_s eJ3 hf
    refine lv_iconst (v := Int32.ofInt (0 : Int)) hx hb dX12_nextWays_21 (by decide) ?_
    refine z_topi (fun z4 ez => ?_)
    replace hf := bnd_s hf ez
    clear ez
    refine lv_istore_n (lv' := [(2, .int (Int32.ofInt z4)), (0, .ref a_p0), (1, .int (Int32.ofInt x1))]) hx hb dX12_nextWays_22 rfl hl (by decide) rfl (fun ls hl => ?_)
    have hq := jn_i hf
    clear hf
    obtain ⟨J7, eJ7, hf⟩ := hq
    have hJ7 : ∀ (w5 : (Int → Int)) (w6 : (Int → Int)) (ls : Array Slot) (H : Heap) (locs : List Loc), lv_has ls 5 [(0, .ref a_p0)] → va_P D vwCl [(a_p0, .inr (12, [.ref a_p0_st, .ref a_p0_isKept, .int (Int32.ofInt i_p0_seats), .int (Int32.ofInt i_p0_stirs), .ref a_p0_brings, .ref a_p0_need, .ref a_p0_draft, .int (Int32.ofInt i_p0_dSeats), .int (Int32.ofInt i_p0_dStirs), .ref a_p0_dStir, .ref a_p0_dNeed, .int (Int32.ofInt i_p0_told), .int (Int32.ofInt i_p0_highest), .ref a_p0_tape, .int (Int32.ofInt i_p0_taped), .int (Int32.ofInt i_p0_pos), .int (Int32.ofInt i_p0_from), .int (Int32.ofInt i_p0_sort), .int (Int32.ofInt i_p0_value), .int (Int32.ofInt i_p0_fault), .int (Int32.ofInt i_p0_wrongAt), .ref a_p0_places, .ref a_p0_stirred, .ref a_p0_ways, .ref a_p0_waysThen, .ref a_p0_stays, .ref a_p0_fewest, .ref a_p0_bowls, .ref a_p0_has, .ref a_p0_goesOn, .ref a_p0_isThere, .ref a_p0_isThereThen, .ref a_p0_bestRow, .ref a_p0_lanes, .ref a_p0_sizes, .ref a_p0_cells, .int (Int32.ofInt i_p0_torn)])), (a_p0_st, .inl (G 1, 152, .inl (zA v_p0_st))), (a_p0_brings, .inl (G 1, 35, .inl (zA v_p0_brings))), (a_p0_places, .inl (G 1, 7, .inl (zA w5))), (a_p0_ways, .inl (G 2, 49, .inr (.inl (zL v_p0_ways)))), (a_p0_waysThen, .inl (G 2, 49, .inr (.inl (zL w6))))] H → va_D A [(a_p0, .inr (12, [.ref a_p0_st, .ref a_p0_isKept, .int (Int32.ofInt i_p0_seats), .int (Int32.ofInt i_p0_stirs), .ref a_p0_brings, .ref a_p0_need, .ref a_p0_draft, .int (Int32.ofInt i_p0_dSeats), .int (Int32.ofInt i_p0_dStirs), .ref a_p0_dStir, .ref a_p0_dNeed, .int (Int32.ofInt i_p0_told), .int (Int32.ofInt i_p0_highest), .ref a_p0_tape, .int (Int32.ofInt i_p0_taped), .int (Int32.ofInt i_p0_pos), .int (Int32.ofInt i_p0_from), .int (Int32.ofInt i_p0_sort), .int (Int32.ofInt i_p0_value), .int (Int32.ofInt i_p0_fault), .int (Int32.ofInt i_p0_wrongAt), .ref a_p0_places, .ref a_p0_stirred, .ref a_p0_ways, .ref a_p0_waysThen, .ref a_p0_stays, .ref a_p0_fewest, .ref a_p0_bowls, .ref a_p0_has, .ref a_p0_goesOn, .ref a_p0_isThere, .ref a_p0_isThereThen, .ref a_p0_bestRow, .ref a_p0_lanes, .ref a_p0_sizes, .ref a_p0_cells, .int (Int32.ofInt i_p0_torn)])), (a_p0_st, .inl (G 1, 152, .inl (zA v_p0_st))), (a_p0_brings, .inl (G 1, 35, .inl (zA v_p0_brings))), (a_p0_places, .inl (G 1, 7, .inl (zA w5))), (a_p0_ways, .inl (G 2, 49, .inr (.inl (zL v_p0_ways)))), (a_p0_waysThen, .inl (G 2, 49, .inr (.inl (zL w6))))] → va_S A s.heap H locs → J7 w5 w6 = some (o_v_p0_places, o_v_p0_ways, o_v_p0_waysThen) → W p l e rm_X12_nextWays s m ([.ref a_p0, .int (Int32.ofInt x1)] : List Value).toArray below meth c H locs 0 0 Q (F0 m 106 ls []) := by
      clear hf hl hP hD hS
      intro w5 w6 ls H locs hl hP hD hS hf
      replace hf := jn2_s eJ7 hf
      refine lv_iconst (v := Int32.ofInt (0 : Int)) hx hb dX12_nextWays_106 (by decide) ?_
      refine z_topi (fun z8 ez => ?_)
      replace hf := bnd_s hf ez
      clear ez
      refine lv_istore_n (lv' := [(2, .int (Int32.ofInt z8)), (0, .ref a_p0)]) hx hb dX12_nextWays_107 rfl hl (by decide) rfl (fun ls hl => ?_)
      have hq := lq2_i hf
      clear hf
      obtain ⟨B11, eB11, NB11, hf⟩ := hq
      have hB11 : ∀ (n : Nat) (z9 : Int) (w10 : (Int → Int)) (ls : Array Slot) (H : Heap) (locs : List Loc), lv_has ls 5 [(2, .int (Int32.ofInt z9)), (0, .ref a_p0)] → va_P D vwCl [(a_p0, .inr (12, [.ref a_p0_st, .ref a_p0_isKept, .int (Int32.ofInt i_p0_seats), .int (Int32.ofInt i_p0_stirs), .ref a_p0_brings, .ref a_p0_need, .ref a_p0_draft, .int (Int32.ofInt i_p0_dSeats), .int (Int32.ofInt i_p0_dStirs), .ref a_p0_dStir, .ref a_p0_dNeed, .int (Int32.ofInt i_p0_told), .int (Int32.ofInt i_p0_highest), .ref a_p0_tape, .int (Int32.ofInt i_p0_taped), .int (Int32.ofInt i_p0_pos), .int (Int32.ofInt i_p0_from), .int (Int32.ofInt i_p0_sort), .int (Int32.ofInt i_p0_value), .int (Int32.ofInt i_p0_fault), .int (Int32.ofInt i_p0_wrongAt), .ref a_p0_places, .ref a_p0_stirred, .ref a_p0_ways, .ref a_p0_waysThen, .ref a_p0_stays, .ref a_p0_fewest, .ref a_p0_bowls, .ref a_p0_has, .ref a_p0_goesOn, .ref a_p0_isThere, .ref a_p0_isThereThen, .ref a_p0_bestRow, .ref a_p0_lanes, .ref a_p0_sizes, .ref a_p0_cells, .int (Int32.ofInt i_p0_torn)])), (a_p0_st, .inl (G 1, 152, .inl (zA v_p0_st))), (a_p0_brings, .inl (G 1, 35, .inl (zA v_p0_brings))), (a_p0_places, .inl (G 1, 7, .inl (zA w5))), (a_p0_ways, .inl (G 2, 49, .inr (.inl (zL w10)))), (a_p0_waysThen, .inl (G 2, 49, .inr (.inl (zL w6))))] H → va_D A [(a_p0, .inr (12, [.ref a_p0_st, .ref a_p0_isKept, .int (Int32.ofInt i_p0_seats), .int (Int32.ofInt i_p0_stirs), .ref a_p0_brings, .ref a_p0_need, .ref a_p0_draft, .int (Int32.ofInt i_p0_dSeats), .int (Int32.ofInt i_p0_dStirs), .ref a_p0_dStir, .ref a_p0_dNeed, .int (Int32.ofInt i_p0_told), .int (Int32.ofInt i_p0_highest), .ref a_p0_tape, .int (Int32.ofInt i_p0_taped), .int (Int32.ofInt i_p0_pos), .int (Int32.ofInt i_p0_from), .int (Int32.ofInt i_p0_sort), .int (Int32.ofInt i_p0_value), .int (Int32.ofInt i_p0_fault), .int (Int32.ofInt i_p0_wrongAt), .ref a_p0_places, .ref a_p0_stirred, .ref a_p0_ways, .ref a_p0_waysThen, .ref a_p0_stays, .ref a_p0_fewest, .ref a_p0_bowls, .ref a_p0_has, .ref a_p0_goesOn, .ref a_p0_isThere, .ref a_p0_isThereThen, .ref a_p0_bestRow, .ref a_p0_lanes, .ref a_p0_sizes, .ref a_p0_cells, .int (Int32.ofInt i_p0_torn)])), (a_p0_st, .inl (G 1, 152, .inl (zA v_p0_st))), (a_p0_brings, .inl (G 1, 35, .inl (zA v_p0_brings))), (a_p0_places, .inl (G 1, 7, .inl (zA w5))), (a_p0_ways, .inl (G 2, 49, .inr (.inl (zL w10)))), (a_p0_waysThen, .inl (G 2, 49, .inr (.inl (zL w6))))] → va_S A s.heap H locs → lq2 B11 n z9 w10 = some (o_v_p0_places, o_v_p0_ways, o_v_p0_waysThen) → W p l e rm_X12_nextWays s m ([.ref a_p0, .int (Int32.ofInt x1)] : List Value).toArray below meth c H locs 0 0 Q (F0 m 108 ls []) := by
        clear hf hl hP hD hS
        intro n
        induction n with
        | zero =>
          intro z9 w10 ls H locs hl hP hD hS hf
          exact (lq2_0 hf).elim
        | succ n ih108 =>
          intro z9 w10 ls H locs hl hP hD hS hf
          replace hf := lq2_s eB11 hf
          unfold B_X12_nextWays_108 at hf
          refine lv_iload_n hx hb dX12_nextWays_108 rfl (lv_at hl 0 rfl) ?_
          refine lv_bipush (v := Int32.ofInt (49 : Int)) hx hb dX12_nextWays_109 (by decide) ?_
          have hr11 := ck_c hf
          replace hf := ck_r hf
          refine lv_icmp_ge (tgt := 132) hx hb dX12_nextWays_111 (by decide) (fun cc => ?_) (fun cc => ?_)
          ·
            replace hf := ite_t ((z_le (by decide) hr11).mp cc) hf
            clear cc
            obtain ⟨rfl, rfl, rfl⟩ := ou3 hf
            rw [hQ]
            exact W.vret hx hb hr (fun t ht hW => ⟨⟨(), rfl, trivial, by rw [ht]; exact hP, va_K.moved hW.alike hK, hD⟩, hS.F ht⟩) hS.2.2 dX12_nextWays_132
          ·
            replace hf := ite_f (fun h9 => cc ((z_le (by decide) hr11).mpr h9)) hf
            clear cc
            refine lv_aload_n hx hb dX12_nextWays_114 rfl (lv_at hl 1 rfl) ?_
            refine va_get (D := D) (ci := 12) (v := .ref a_p0_ways) (C := RX12) (T := TX12) (N := 37) hx hb hts inX12_nextWays_X12 hown hK hP 0 rfl rfl 23 (by decide) (hts _ mwX12_nextWays_1) (fun _ h9 => h9) rfl dX12_nextWays_115 ?_
            refine lv_iload_n hx hb dX12_nextWays_118 rfl (lv_at hl 0 rfl) ?_
            refine lv_aload_n hx hb dX12_nextWays_119 rfl (lv_at hl 1 rfl) ?_
            refine va_get (D := D) (ci := 12) (v := .ref a_p0_waysThen) (C := RX12) (T := TX12) (N := 37) hx hb hts inX12_nextWays_X12 hown hK hP 0 rfl rfl 24 (by decide) (hts _ mwX12_nextWays_2) (fun _ h9 => h9) rfl dX12_nextWays_120 ?_
            refine lv_iload_n hx hb dX12_nextWays_123 rfl (lv_at hl 0 rfl) ?_
            have hc := ck_c hf
            replace hf := ck_r hf
            refine va_lald hx hb hK hP 5 2 rfl rfl (z_ix_in hc) dX12_nextWays_124 (z_cl (z_aldL w6 hc) ?_)
            clear hc
            have hc := ck_c hf
            replace hf := ck_r hf
            refine zs_last (wf := fun w13 => [(a_p0, .inr (12, [.ref a_p0_st, .ref a_p0_isKept, .int (Int32.ofInt i_p0_seats), .int (Int32.ofInt i_p0_stirs), .ref a_p0_brings, .ref a_p0_need, .ref a_p0_draft, .int (Int32.ofInt i_p0_dSeats), .int (Int32.ofInt i_p0_dStirs), .ref a_p0_dStir, .ref a_p0_dNeed, .int (Int32.ofInt i_p0_told), .int (Int32.ofInt i_p0_highest), .ref a_p0_tape, .int (Int32.ofInt i_p0_taped), .int (Int32.ofInt i_p0_pos), .int (Int32.ofInt i_p0_from), .int (Int32.ofInt i_p0_sort), .int (Int32.ofInt i_p0_value), .int (Int32.ofInt i_p0_fault), .int (Int32.ofInt i_p0_wrongAt), .ref a_p0_places, .ref a_p0_stirred, .ref a_p0_ways, .ref a_p0_waysThen, .ref a_p0_stays, .ref a_p0_fewest, .ref a_p0_bowls, .ref a_p0_has, .ref a_p0_goesOn, .ref a_p0_isThere, .ref a_p0_isThereThen, .ref a_p0_bestRow, .ref a_p0_lanes, .ref a_p0_sizes, .ref a_p0_cells, .int (Int32.ofInt i_p0_torn)])), (a_p0_st, .inl (G 1, 152, .inl (zA v_p0_st))), (a_p0_brings, .inl (G 1, 35, .inl (zA v_p0_brings))), (a_p0_places, .inl (G 1, 7, .inl (zA w5))), (a_p0_ways, .inl (G 2, 49, .inr (.inl (zL w13)))), (a_p0_waysThen, .inl (G 2, 49, .inr (.inl (zL w6))))]) hx hb hK hP hD hS 4 2 rfl rfl hc dX12_nextWays_125 (fun _ => rfl) (fun w13 ez H locs hP hD hS => ?_)
            replace hf := bnd_s hf ez
            clear ez hc
            obtain ⟨z14, ez⟩ : ∃ y : Int, y = (z9 + (1 : Int)) := ⟨_, rfl⟩
            replace hf := bnd_s hf ez
            refine lv_iinc (v := Int32.ofInt z14) (lv' := [(2, .int (Int32.ofInt z14)), (0, .ref a_p0)]) hx hb dX12_nextWays_126 hl (k := 0) rfl (by rw [ez]; exact (Int32.ofInt_add _ _).symm) (by decide) rfl (fun ls hl => ?_)
            clear ez
            refine lv_goto (tgt := 108) hx hb dX12_nextWays_129 (by decide) ?_
            exact ih108 _ _ _ _ _ (lv_sub hl [0, 1] rfl) hP hD hS hf
      exact hB11 _ _ _ _ _ _ (lv_sub hl [0, 1] rfl) hP hD hS hf
    have hq := lq3_i hf
    clear hf
    obtain ⟨B18, eB18, NB18, hf⟩ := hq
    have hB18 : ∀ (n : Nat) (z15 : Int) (w16 : (Int → Int)) (w17 : (Int → Int)) (ls : Array Slot) (H : Heap) (locs : List Loc), lv_has ls 5 [(2, .int (Int32.ofInt z15)), (0, .ref a_p0), (1, .int (Int32.ofInt x1))] → va_P D vwCl [(a_p0, .inr (12, [.ref a_p0_st, .ref a_p0_isKept, .int (Int32.ofInt i_p0_seats), .int (Int32.ofInt i_p0_stirs), .ref a_p0_brings, .ref a_p0_need, .ref a_p0_draft, .int (Int32.ofInt i_p0_dSeats), .int (Int32.ofInt i_p0_dStirs), .ref a_p0_dStir, .ref a_p0_dNeed, .int (Int32.ofInt i_p0_told), .int (Int32.ofInt i_p0_highest), .ref a_p0_tape, .int (Int32.ofInt i_p0_taped), .int (Int32.ofInt i_p0_pos), .int (Int32.ofInt i_p0_from), .int (Int32.ofInt i_p0_sort), .int (Int32.ofInt i_p0_value), .int (Int32.ofInt i_p0_fault), .int (Int32.ofInt i_p0_wrongAt), .ref a_p0_places, .ref a_p0_stirred, .ref a_p0_ways, .ref a_p0_waysThen, .ref a_p0_stays, .ref a_p0_fewest, .ref a_p0_bowls, .ref a_p0_has, .ref a_p0_goesOn, .ref a_p0_isThere, .ref a_p0_isThereThen, .ref a_p0_bestRow, .ref a_p0_lanes, .ref a_p0_sizes, .ref a_p0_cells, .int (Int32.ofInt i_p0_torn)])), (a_p0_st, .inl (G 1, 152, .inl (zA v_p0_st))), (a_p0_brings, .inl (G 1, 35, .inl (zA v_p0_brings))), (a_p0_places, .inl (G 1, 7, .inl (zA w16))), (a_p0_ways, .inl (G 2, 49, .inr (.inl (zL v_p0_ways)))), (a_p0_waysThen, .inl (G 2, 49, .inr (.inl (zL w17))))] H → va_D A [(a_p0, .inr (12, [.ref a_p0_st, .ref a_p0_isKept, .int (Int32.ofInt i_p0_seats), .int (Int32.ofInt i_p0_stirs), .ref a_p0_brings, .ref a_p0_need, .ref a_p0_draft, .int (Int32.ofInt i_p0_dSeats), .int (Int32.ofInt i_p0_dStirs), .ref a_p0_dStir, .ref a_p0_dNeed, .int (Int32.ofInt i_p0_told), .int (Int32.ofInt i_p0_highest), .ref a_p0_tape, .int (Int32.ofInt i_p0_taped), .int (Int32.ofInt i_p0_pos), .int (Int32.ofInt i_p0_from), .int (Int32.ofInt i_p0_sort), .int (Int32.ofInt i_p0_value), .int (Int32.ofInt i_p0_fault), .int (Int32.ofInt i_p0_wrongAt), .ref a_p0_places, .ref a_p0_stirred, .ref a_p0_ways, .ref a_p0_waysThen, .ref a_p0_stays, .ref a_p0_fewest, .ref a_p0_bowls, .ref a_p0_has, .ref a_p0_goesOn, .ref a_p0_isThere, .ref a_p0_isThereThen, .ref a_p0_bestRow, .ref a_p0_lanes, .ref a_p0_sizes, .ref a_p0_cells, .int (Int32.ofInt i_p0_torn)])), (a_p0_st, .inl (G 1, 152, .inl (zA v_p0_st))), (a_p0_brings, .inl (G 1, 35, .inl (zA v_p0_brings))), (a_p0_places, .inl (G 1, 7, .inl (zA w16))), (a_p0_ways, .inl (G 2, 49, .inr (.inl (zL v_p0_ways)))), (a_p0_waysThen, .inl (G 2, 49, .inr (.inl (zL w17))))] → va_S A s.heap H locs → lq3 B18 n z15 w16 w17 = some (o_v_p0_places, o_v_p0_ways, o_v_p0_waysThen) → W p l e rm_X12_nextWays s m ([.ref a_p0, .int (Int32.ofInt x1)] : List Value).toArray below meth c H locs 0 0 Q (F0 m 23 ls []) := by
      clear hf hl hP hD hS
      intro n
      induction n with
      | zero =>
        intro z15 w16 w17 ls H locs hl hP hD hS hf
        exact (lq3_0 hf).elim
      | succ n ih23 =>
        intro z15 w16 w17 ls H locs hl hP hD hS hf
        replace hf := lq3_s eB18 hf
        unfold B_X12_nextWays_23 at hf
        refine lv_iload_n hx hb dX12_nextWays_23 rfl (lv_at hl 0 rfl) ?_
        refine lv_bipush (v := Int32.ofInt (49 : Int)) hx hb dX12_nextWays_24 (by decide) ?_
        have hr18 := ck_c hf
        replace hf := ck_r hf
        refine lv_icmp_ge (tgt := 106) hx hb dX12_nextWays_26 (by decide) (fun cc => ?_) (fun cc => ?_)
        ·
          replace hf := ite_t ((z_le (by decide) hr18).mp cc) hf
          clear cc
          exact hJ7 _ _ _ _ _ (lv_sub hl [1] rfl) hP hD hS hf
        ·
          replace hf := ite_f (fun h9 => cc ((z_le (by decide) hr18).mpr h9)) hf
          clear cc
          refine lv_iconst (v := Int32.ofInt (0 : Int)) hx hb dX12_nextWays_29 (by decide) ?_
          refine z_topi (fun z20 ez => ?_)
          replace hf := bnd_s hf ez
          clear ez
          refine lv_istore_n (lv' := [(3, .int (Int32.ofInt z20)), (2, .int (Int32.ofInt z15)), (0, .ref a_p0), (1, .int (Int32.ofInt x1))]) hx hb dX12_nextWays_30 rfl hl (by decide) rfl (fun ls hl => ?_)
          have hq := lq3_i hf
          clear hf
          obtain ⟨B24, eB24, NB24, hf⟩ := hq
          have hB24 : ∀ (n : Nat) (z21 : Int) (w22 : (Int → Int)) (w23 : (Int → Int)) (ls : Array Slot) (H : Heap) (locs : List Loc), lv_has ls 5 [(3, .int (Int32.ofInt z21)), (2, .int (Int32.ofInt z15)), (0, .ref a_p0), (1, .int (Int32.ofInt x1))] → va_P D vwCl [(a_p0, .inr (12, [.ref a_p0_st, .ref a_p0_isKept, .int (Int32.ofInt i_p0_seats), .int (Int32.ofInt i_p0_stirs), .ref a_p0_brings, .ref a_p0_need, .ref a_p0_draft, .int (Int32.ofInt i_p0_dSeats), .int (Int32.ofInt i_p0_dStirs), .ref a_p0_dStir, .ref a_p0_dNeed, .int (Int32.ofInt i_p0_told), .int (Int32.ofInt i_p0_highest), .ref a_p0_tape, .int (Int32.ofInt i_p0_taped), .int (Int32.ofInt i_p0_pos), .int (Int32.ofInt i_p0_from), .int (Int32.ofInt i_p0_sort), .int (Int32.ofInt i_p0_value), .int (Int32.ofInt i_p0_fault), .int (Int32.ofInt i_p0_wrongAt), .ref a_p0_places, .ref a_p0_stirred, .ref a_p0_ways, .ref a_p0_waysThen, .ref a_p0_stays, .ref a_p0_fewest, .ref a_p0_bowls, .ref a_p0_has, .ref a_p0_goesOn, .ref a_p0_isThere, .ref a_p0_isThereThen, .ref a_p0_bestRow, .ref a_p0_lanes, .ref a_p0_sizes, .ref a_p0_cells, .int (Int32.ofInt i_p0_torn)])), (a_p0_st, .inl (G 1, 152, .inl (zA v_p0_st))), (a_p0_brings, .inl (G 1, 35, .inl (zA v_p0_brings))), (a_p0_places, .inl (G 1, 7, .inl (zA w22))), (a_p0_ways, .inl (G 2, 49, .inr (.inl (zL v_p0_ways)))), (a_p0_waysThen, .inl (G 2, 49, .inr (.inl (zL w23))))] H → va_D A [(a_p0, .inr (12, [.ref a_p0_st, .ref a_p0_isKept, .int (Int32.ofInt i_p0_seats), .int (Int32.ofInt i_p0_stirs), .ref a_p0_brings, .ref a_p0_need, .ref a_p0_draft, .int (Int32.ofInt i_p0_dSeats), .int (Int32.ofInt i_p0_dStirs), .ref a_p0_dStir, .ref a_p0_dNeed, .int (Int32.ofInt i_p0_told), .int (Int32.ofInt i_p0_highest), .ref a_p0_tape, .int (Int32.ofInt i_p0_taped), .int (Int32.ofInt i_p0_pos), .int (Int32.ofInt i_p0_from), .int (Int32.ofInt i_p0_sort), .int (Int32.ofInt i_p0_value), .int (Int32.ofInt i_p0_fault), .int (Int32.ofInt i_p0_wrongAt), .ref a_p0_places, .ref a_p0_stirred, .ref a_p0_ways, .ref a_p0_waysThen, .ref a_p0_stays, .ref a_p0_fewest, .ref a_p0_bowls, .ref a_p0_has, .ref a_p0_goesOn, .ref a_p0_isThere, .ref a_p0_isThereThen, .ref a_p0_bestRow, .ref a_p0_lanes, .ref a_p0_sizes, .ref a_p0_cells, .int (Int32.ofInt i_p0_torn)])), (a_p0_st, .inl (G 1, 152, .inl (zA v_p0_st))), (a_p0_brings, .inl (G 1, 35, .inl (zA v_p0_brings))), (a_p0_places, .inl (G 1, 7, .inl (zA w22))), (a_p0_ways, .inl (G 2, 49, .inr (.inl (zL v_p0_ways)))), (a_p0_waysThen, .inl (G 2, 49, .inr (.inl (zL w23))))] → va_S A s.heap H locs → lq3 B24 n z21 w22 w23 = some (o_v_p0_places, o_v_p0_ways, o_v_p0_waysThen) → W p l e rm_X12_nextWays s m ([.ref a_p0, .int (Int32.ofInt x1)] : List Value).toArray below meth c H locs 0 0 Q (F0 m 31 ls []) := by
            clear hf hl hP hD hS
            intro n
            induction n with
            | zero =>
              intro z21 w22 w23 ls H locs hl hP hD hS hf
              exact (lq3_0 hf).elim
            | succ n ih31 =>
              intro z21 w22 w23 ls H locs hl hP hD hS hf
              replace hf := lq3_s eB24 hf
              unfold B_X12_nextWays_31 at hf
              refine lv_iload_n hx hb dX12_nextWays_31 rfl (lv_at hl 0 rfl) ?_
              refine lv_aload_n hx hb dX12_nextWays_32 rfl (lv_at hl 2 rfl) ?_
              refine va_get (D := D) (ci := 12) (v := .int (Int32.ofInt i_p0_stirs)) (C := RX12) (T := TX12) (N := 37) hx hb hts inX12_nextWays_X12 hown hK hP 0 rfl rfl 3 (by decide) (hts _ mwX12_nextWays_3) (fun _ h9 => h9) rfl dX12_nextWays_33 ?_
              have hr24 := ck_c hf
              replace hf := ck_r hf
              have hr25 := ck_c hf
              replace hf := ck_r hf
              refine lv_icmp_ge (tgt := 100) hx hb dX12_nextWays_36 (by decide) (fun cc => ?_) (fun cc => ?_)
              ·
                replace hf := ite_t ((z_le hr25 hr24).mp cc) hf
                clear cc
                obtain ⟨z27, ez⟩ : ∃ y : Int, y = (z15 + (1 : Int)) := ⟨_, rfl⟩
                replace hf := bnd_s hf ez
                refine lv_iinc (v := Int32.ofInt z27) (lv' := [(2, .int (Int32.ofInt z27)), (3, .int (Int32.ofInt z21)), (0, .ref a_p0), (1, .int (Int32.ofInt x1))]) hx hb dX12_nextWays_100 hl (k := 1) rfl (by rw [ez]; exact (Int32.ofInt_add _ _).symm) (by decide) rfl (fun ls hl => ?_)
                clear ez
                refine lv_goto (tgt := 23) hx hb dX12_nextWays_103 (by decide) ?_
                exact ih23 _ _ _ _ _ _ (lv_sub hl [0, 2, 3] rfl) hP hD hS hf
              ·
                replace hf := ite_f (fun h9 => cc ((z_le hr25 hr24).mpr h9)) hf
                clear cc
                refine lv_aload_n hx hb dX12_nextWays_39 rfl (lv_at hl 2 rfl) ?_
                refine va_get (D := D) (ci := 12) (v := .ref a_p0_ways) (C := RX12) (T := TX12) (N := 37) hx hb hts inX12_nextWays_X12 hown hK hP 0 rfl rfl 23 (by decide) (hts _ mwX12_nextWays_1) (fun _ h9 => h9) rfl dX12_nextWays_40 ?_
                refine lv_iload_n hx hb dX12_nextWays_43 rfl (lv_at hl 1 rfl) ?_
                have hc := ck_c hf
                replace hf := ck_r hf
                refine va_lald hx hb hK hP 4 2 rfl rfl (z_ix_in hc) dX12_nextWays_44 (z_cl (z_aldL v_p0_ways hc) ?_)
                clear hc
                refine lv_lconst (v := Int64.ofInt (0 : Int)) hx hb dX12_nextWays_45 (by decide) ?_
                have hr27 := ck_c hf
                replace hf := ck_r hf
                refine W.lcmp hx hb dX12_nextWays_46 (z_ci (z_cmp_e hr27 (by decide)) ?_)
                have hr28 := ck_c hf
                replace hf := ck_r hf
                refine lv_if_le (tgt := 100) hx hb dX12_nextWays_47 (by decide) (fun cc => ?_) (fun cc => ?_)
                ·
                  replace hf := ite_t ((z_le0 hr28).mp cc) hf
                  clear cc
                  obtain ⟨z30, ez⟩ : ∃ y : Int, y = (z15 + (1 : Int)) := ⟨_, rfl⟩
                  replace hf := bnd_s hf ez
                  refine lv_iinc (v := Int32.ofInt z30) (lv' := [(2, .int (Int32.ofInt z30)), (3, .int (Int32.ofInt z21)), (0, .ref a_p0), (1, .int (Int32.ofInt x1))]) hx hb dX12_nextWays_100 hl (k := 1) rfl (by rw [ez]; exact (Int32.ofInt_add _ _).symm) (by decide) rfl (fun ls hl => ?_)
                  clear ez
                  refine lv_goto (tgt := 23) hx hb dX12_nextWays_103 (by decide) ?_
                  exact ih23 _ _ _ _ _ _ (lv_sub hl [0, 2, 3] rfl) hP hD hS hf
                ·
                  replace hf := ite_f (fun h9 => cc ((z_le0 hr28).mpr h9)) hf
                  clear cc
                  refine lv_aload_n hx hb dX12_nextWays_50 rfl (lv_at hl 2 rfl) ?_
                  refine lv_iload_n hx hb dX12_nextWays_51 rfl (lv_at hl 1 rfl) ?_
                  refine lv_iload_n hx hb dX12_nextWays_52 rfl (lv_at hl 0 rfl) ?_
                  have hq := bd2_s hf
                  clear hf
                  obtain ⟨z31, w32, hcall, hf⟩ := hq
                  refine gsI (ws' := [(a_p0, .inr (12, [.ref a_p0_st, .ref a_p0_isKept, .int (Int32.ofInt i_p0_seats), .int (Int32.ofInt i_p0_stirs), .ref a_p0_brings, .ref a_p0_need, .ref a_p0_draft, .int (Int32.ofInt i_p0_dSeats), .int (Int32.ofInt i_p0_dStirs), .ref a_p0_dStir, .ref a_p0_dNeed, .int (Int32.ofInt i_p0_told), .int (Int32.ofInt i_p0_highest), .ref a_p0_tape, .int (Int32.ofInt i_p0_taped), .int (Int32.ofInt i_p0_pos), .int (Int32.ofInt i_p0_from), .int (Int32.ofInt i_p0_sort), .int (Int32.ofInt i_p0_value), .int (Int32.ofInt i_p0_fault), .int (Int32.ofInt i_p0_wrongAt), .ref a_p0_places, .ref a_p0_stirred, .ref a_p0_ways, .ref a_p0_waysThen, .ref a_p0_stays, .ref a_p0_fewest, .ref a_p0_bowls, .ref a_p0_has, .ref a_p0_goesOn, .ref a_p0_isThere, .ref a_p0_isThereThen, .ref a_p0_bestRow, .ref a_p0_lanes, .ref a_p0_sizes, .ref a_p0_cells, .int (Int32.ofInt i_p0_torn)])), (a_p0_st, .inl (G 1, 152, .inl (zA v_p0_st))), (a_p0_brings, .inl (G 1, 35, .inl (zA v_p0_brings))), (a_p0_places, .inl (G 1, 7, .inl (zA w32))), (a_p0_ways, .inl (G 2, 49, .inr (.inl (zL v_p0_ways)))), (a_p0_waysThen, .inl (G 2, 49, .inr (.inl (zL w23))))]) (va_runV (As := [.int (Int32.ofInt z15), .int (Int32.ofInt z21)]) (rest := []) ⟨hx, hb, hml, hown, hts⟩ (c_X12_then (l := l) (D := D) (G := G) (sz := H.size) (a_p0 := a_p0) (a_p0_st := a_p0_st) (a_p0_isKept := a_p0_isKept) (a_p0_brings := a_p0_brings) (a_p0_need := a_p0_need) (a_p0_draft := a_p0_draft) (a_p0_dStir := a_p0_dStir) (a_p0_dNeed := a_p0_dNeed) (a_p0_tape := a_p0_tape) (a_p0_places := a_p0_places) (a_p0_stirred := a_p0_stirred) (a_p0_ways := a_p0_ways) (a_p0_waysThen := a_p0_waysThen) (a_p0_stays := a_p0_stays) (a_p0_fewest := a_p0_fewest) (a_p0_bowls := a_p0_bowls) (a_p0_has := a_p0_has) (a_p0_goesOn := a_p0_goesOn) (a_p0_isThere := a_p0_isThere) (a_p0_isThereThen := a_p0_isThereThen) (a_p0_bestRow := a_p0_bestRow) (a_p0_lanes := a_p0_lanes) (a_p0_sizes := a_p0_sizes) (a_p0_cells := a_p0_cells) (i_p0_seats := i_p0_seats) (i_p0_stirs := i_p0_stirs) (i_p0_dSeats := i_p0_dSeats) (i_p0_dStirs := i_p0_dStirs) (i_p0_told := i_p0_told) (i_p0_highest := i_p0_highest) (i_p0_taped := i_p0_taped) (i_p0_pos := i_p0_pos) (i_p0_from := i_p0_from) (i_p0_sort := i_p0_sort) (i_p0_value := i_p0_value) (i_p0_fault := i_p0_fault) (i_p0_wrongAt := i_p0_wrongAt) (i_p0_torn := i_p0_torn) (v_p0_st := v_p0_st) (v_p0_brings := v_p0_brings) (v_p0_places := w22) (x1 := z15) (x2 := z21) (r := z31) (o_v_p0_places := w32) (hf := hcall)) (cwV 2 hts gX12_nextWays_X12_then rfl rfl rfl hdV_yX12_then_RX12 ⟨Nat.le_of_ble_eq_true rfl, Nat.le_of_ble_eq_true rfl⟩) (preG_V (ci := 12) (q := (RX12, TX12, 37)) (hP.sub [0, 1, 2, 3] rfl) (hD.sub [0, 1, 2, 3] rfl rfl) hK rfl rfl) rfl rfl hl.1 rfl (lv_room (Nat.le_of_ble_eq_true rfl)) dX12_nextWays_53 ⟨Nat.le_of_ble_eq_true rfl, Nat.le_of_ble_eq_true rfl⟩) hP hD hS hA [0, 1, 2, 3] rfl rfl rfl (fun H locs hP hD hS => ?_)
                  clear hcall
                  refine z_topi (fun z33 ez => ?_)
                  replace hf := bnd_s hf ez
                  clear ez
                  refine lv_istore (lv' := [(4, .int (Int32.ofInt z33)), (3, .int (Int32.ofInt z21)), (2, .int (Int32.ofInt z15)), (0, .ref a_p0), (1, .int (Int32.ofInt x1))]) hx hb dX12_nextWays_56 hl (by decide) rfl (fun ls hl => ?_)
                  refine lv_aload_n hx hb dX12_nextWays_58 rfl (lv_at hl 3 rfl) ?_
                  refine va_get (D := D) (ci := 12) (v := .ref a_p0_waysThen) (C := RX12) (T := TX12) (N := 37) hx hb hts inX12_nextWays_X12 hown hK hP 0 rfl rfl 24 (by decide) (hts _ mwX12_nextWays_2) (fun _ h9 => h9) rfl dX12_nextWays_59 ?_
                  refine lv_iload hx hb dX12_nextWays_62 (lv_at hl 0 rfl) ?_
                  refine lv_dup2_11 hx hb dX12_nextWays_64 rfl rfl ?_
                  have hc := ck_c hf
                  replace hf := ck_r hf
                  refine va_lald hx hb hK hP 5 2 rfl rfl (z_ix_in hc) dX12_nextWays_65 (z_cl (z_aldL w23 hc) ?_)
                  clear hc
                  refine lv_iload_n hx hb dX12_nextWays_66 rfl (lv_at hl 4 rfl) ?_
                  have hr33 := ck_c hf
                  replace hf := ck_r hf
                  have hq := jn_i hf
                  clear hf
                  obtain ⟨J37, eJ37, hf⟩ := hq
                  have hJ37 : ∀ (z35 : Int) (z36 : Int) (ls : Array Slot) (H : Heap) (locs : List Loc), lv_has ls 5 [(3, .int (Int32.ofInt z21)), (2, .int (Int32.ofInt z15)), (0, .ref a_p0), (1, .int (Int32.ofInt x1))] → va_P D vwCl [(a_p0, .inr (12, [.ref a_p0_st, .ref a_p0_isKept, .int (Int32.ofInt i_p0_seats), .int (Int32.ofInt i_p0_stirs), .ref a_p0_brings, .ref a_p0_need, .ref a_p0_draft, .int (Int32.ofInt i_p0_dSeats), .int (Int32.ofInt i_p0_dStirs), .ref a_p0_dStir, .ref a_p0_dNeed, .int (Int32.ofInt i_p0_told), .int (Int32.ofInt i_p0_highest), .ref a_p0_tape, .int (Int32.ofInt i_p0_taped), .int (Int32.ofInt i_p0_pos), .int (Int32.ofInt i_p0_from), .int (Int32.ofInt i_p0_sort), .int (Int32.ofInt i_p0_value), .int (Int32.ofInt i_p0_fault), .int (Int32.ofInt i_p0_wrongAt), .ref a_p0_places, .ref a_p0_stirred, .ref a_p0_ways, .ref a_p0_waysThen, .ref a_p0_stays, .ref a_p0_fewest, .ref a_p0_bowls, .ref a_p0_has, .ref a_p0_goesOn, .ref a_p0_isThere, .ref a_p0_isThereThen, .ref a_p0_bestRow, .ref a_p0_lanes, .ref a_p0_sizes, .ref a_p0_cells, .int (Int32.ofInt i_p0_torn)])), (a_p0_st, .inl (G 1, 152, .inl (zA v_p0_st))), (a_p0_brings, .inl (G 1, 35, .inl (zA v_p0_brings))), (a_p0_places, .inl (G 1, 7, .inl (zA w32))), (a_p0_ways, .inl (G 2, 49, .inr (.inl (zL v_p0_ways)))), (a_p0_waysThen, .inl (G 2, 49, .inr (.inl (zL w23))))] H → va_D A [(a_p0, .inr (12, [.ref a_p0_st, .ref a_p0_isKept, .int (Int32.ofInt i_p0_seats), .int (Int32.ofInt i_p0_stirs), .ref a_p0_brings, .ref a_p0_need, .ref a_p0_draft, .int (Int32.ofInt i_p0_dSeats), .int (Int32.ofInt i_p0_dStirs), .ref a_p0_dStir, .ref a_p0_dNeed, .int (Int32.ofInt i_p0_told), .int (Int32.ofInt i_p0_highest), .ref a_p0_tape, .int (Int32.ofInt i_p0_taped), .int (Int32.ofInt i_p0_pos), .int (Int32.ofInt i_p0_from), .int (Int32.ofInt i_p0_sort), .int (Int32.ofInt i_p0_value), .int (Int32.ofInt i_p0_fault), .int (Int32.ofInt i_p0_wrongAt), .ref a_p0_places, .ref a_p0_stirred, .ref a_p0_ways, .ref a_p0_waysThen, .ref a_p0_stays, .ref a_p0_fewest, .ref a_p0_bowls, .ref a_p0_has, .ref a_p0_goesOn, .ref a_p0_isThere, .ref a_p0_isThereThen, .ref a_p0_bestRow, .ref a_p0_lanes, .ref a_p0_sizes, .ref a_p0_cells, .int (Int32.ofInt i_p0_torn)])), (a_p0_st, .inl (G 1, 152, .inl (zA v_p0_st))), (a_p0_brings, .inl (G 1, 35, .inl (zA v_p0_brings))), (a_p0_places, .inl (G 1, 7, .inl (zA w32))), (a_p0_ways, .inl (G 2, 49, .inr (.inl (zL v_p0_ways)))), (a_p0_waysThen, .inl (G 2, 49, .inr (.inl (zL w23))))] → va_S A s.heap H locs → J37 z35 z36 = some (o_v_p0_places, o_v_p0_ways, o_v_p0_waysThen) → W p l e rm_X12_nextWays s m ([.ref a_p0, .int (Int32.ofInt x1)] : List Value).toArray below meth c H locs 0 0 Q (F0 m 82 ls [.long (Int64.ofInt z36), .int (Int32.ofInt z35), .ref a_p0_waysThen]) := by
                    clear hf hl hP hD hS
                    intro z35 z36 ls H locs hl hP hD hS hf
                    replace hf := jn2_s eJ37 hf
                    refine lv_aload_n hx hb dX12_nextWays_82 rfl (lv_at hl 2 rfl) ?_
                    refine va_get (D := D) (ci := 12) (v := .ref a_p0_ways) (C := RX12) (T := TX12) (N := 37) hx hb hts inX12_nextWays_X12 hown hK hP 0 rfl rfl 23 (by decide) (hts _ mwX12_nextWays_1) (fun _ h9 => h9) rfl dX12_nextWays_83 ?_
                    refine lv_iload_n hx hb dX12_nextWays_86 rfl (lv_at hl 1 rfl) ?_
                    have hc := ck_c hf
                    replace hf := ck_r hf
                    refine va_lald hx hb hK hP 4 2 rfl rfl (z_ix_in hc) dX12_nextWays_87 (z_cl (z_aldL v_p0_ways hc) ?_)
                    clear hc
                    refine lv_goto (tgt := 92) hx hb dX12_nextWays_88 (by decide) ?_
                    refine lv_ladd hx hb dX12_nextWays_92 (z_cl (Int64.ofInt_add z36 (v_p0_ways z15)) ?_)
                    have hc := ck_c hf
                    replace hf := ck_r hf
                    refine zs_last (wf := fun w38 => [(a_p0, .inr (12, [.ref a_p0_st, .ref a_p0_isKept, .int (Int32.ofInt i_p0_seats), .int (Int32.ofInt i_p0_stirs), .ref a_p0_brings, .ref a_p0_need, .ref a_p0_draft, .int (Int32.ofInt i_p0_dSeats), .int (Int32.ofInt i_p0_dStirs), .ref a_p0_dStir, .ref a_p0_dNeed, .int (Int32.ofInt i_p0_told), .int (Int32.ofInt i_p0_highest), .ref a_p0_tape, .int (Int32.ofInt i_p0_taped), .int (Int32.ofInt i_p0_pos), .int (Int32.ofInt i_p0_from), .int (Int32.ofInt i_p0_sort), .int (Int32.ofInt i_p0_value), .int (Int32.ofInt i_p0_fault), .int (Int32.ofInt i_p0_wrongAt), .ref a_p0_places, .ref a_p0_stirred, .ref a_p0_ways, .ref a_p0_waysThen, .ref a_p0_stays, .ref a_p0_fewest, .ref a_p0_bowls, .ref a_p0_has, .ref a_p0_goesOn, .ref a_p0_isThere, .ref a_p0_isThereThen, .ref a_p0_bestRow, .ref a_p0_lanes, .ref a_p0_sizes, .ref a_p0_cells, .int (Int32.ofInt i_p0_torn)])), (a_p0_st, .inl (G 1, 152, .inl (zA v_p0_st))), (a_p0_brings, .inl (G 1, 35, .inl (zA v_p0_brings))), (a_p0_places, .inl (G 1, 7, .inl (zA w32))), (a_p0_ways, .inl (G 2, 49, .inr (.inl (zL v_p0_ways)))), (a_p0_waysThen, .inl (G 2, 49, .inr (.inl (zL w38))))]) hx hb hK hP hD hS 5 2 rfl rfl hc dX12_nextWays_93 (fun _ => rfl) (fun w38 ez H locs hP hD hS => ?_)
                    replace hf := bnd_s hf ez
                    clear ez hc
                    obtain ⟨z39, ez⟩ : ∃ y : Int, y = (z21 + (1 : Int)) := ⟨_, rfl⟩
                    replace hf := bnd_s hf ez
                    refine lv_iinc (v := Int32.ofInt z39) (lv' := [(3, .int (Int32.ofInt z39)), (2, .int (Int32.ofInt z15)), (0, .ref a_p0), (1, .int (Int32.ofInt x1))]) hx hb dX12_nextWays_94 hl (k := 0) rfl (by rw [ez]; exact (Int32.ofInt_add _ _).symm) (by decide) rfl (fun ls hl => ?_)
                    clear ez
                    refine lv_goto (tgt := 31) hx hb dX12_nextWays_97 (by decide) ?_
                    exact ih31 _ _ _ _ _ _ (lv_sub hl [0, 1, 2, 3] rfl) hP hD hS hf
                  refine lv_if_eq (tgt := 82) hx hb dX12_nextWays_67 (by decide) (fun cc => ?_) (fun cc => ?_)
                  ·
                    replace hf := ite_t ((z_eq0 hr33).mp cc) hf
                    clear cc
                    exact hJ37 _ _ _ _ _ (lv_sub hl [1, 2, 3, 4] rfl) hP hD hS hf
                  ·
                    replace hf := ite_f (fun h9 => cc ((z_eq0 hr33).mpr h9)) hf
                    clear cc
                    refine lv_iload hx hb dX12_nextWays_70 (lv_at hl 0 rfl) ?_
                    refine lv_bipush (v := Int32.ofInt (7 : Int)) hx hb dX12_nextWays_72 (by decide) ?_
                    have hc := ck_c hf
                    replace hf := ck_r hf
                    refine lv_irem hx hb dX12_nextWays_74 (z_nz hc) (z_ci (z_rem hc) ?_)
                    clear hc
                    refine lv_iload_n hx hb dX12_nextWays_75 rfl (lv_at hl 2 rfl) ?_
                    refine lv_bipush (v := Int32.ofInt (7 : Int)) hx hb dX12_nextWays_76 (by decide) ?_
                    have hc := ck_c hf
                    replace hf := ck_r hf
                    refine lv_irem hx hb dX12_nextWays_78 (z_nz hc) (z_ci (z_rem hc) ?_)
                    clear hc
                    have hr39 := ck_c hf
                    replace hf := ck_r hf
                    have hr40 := ck_c hf
                    replace hf := ck_r hf
                    refine lv_icmp_ne (tgt := 91) hx hb dX12_nextWays_79 (by decide) (fun cc => ?_) (fun cc => ?_)
                    ·
                      replace hf := ite_f (fun h9 => cc ((z_eq hr39 hr40).mpr h9)) hf
                      clear cc
                      refine lv_lconst (v := Int64.ofInt (0 : Int)) hx hb dX12_nextWays_91 (by decide) ?_
                      refine lv_ladd hx hb dX12_nextWays_92 (z_cl (Int64.ofInt_add (w23 z33) (0 : Int)) ?_)
                      have hc := ck_c hf
                      replace hf := ck_r hf
                      refine zs_last (wf := fun w42 => [(a_p0, .inr (12, [.ref a_p0_st, .ref a_p0_isKept, .int (Int32.ofInt i_p0_seats), .int (Int32.ofInt i_p0_stirs), .ref a_p0_brings, .ref a_p0_need, .ref a_p0_draft, .int (Int32.ofInt i_p0_dSeats), .int (Int32.ofInt i_p0_dStirs), .ref a_p0_dStir, .ref a_p0_dNeed, .int (Int32.ofInt i_p0_told), .int (Int32.ofInt i_p0_highest), .ref a_p0_tape, .int (Int32.ofInt i_p0_taped), .int (Int32.ofInt i_p0_pos), .int (Int32.ofInt i_p0_from), .int (Int32.ofInt i_p0_sort), .int (Int32.ofInt i_p0_value), .int (Int32.ofInt i_p0_fault), .int (Int32.ofInt i_p0_wrongAt), .ref a_p0_places, .ref a_p0_stirred, .ref a_p0_ways, .ref a_p0_waysThen, .ref a_p0_stays, .ref a_p0_fewest, .ref a_p0_bowls, .ref a_p0_has, .ref a_p0_goesOn, .ref a_p0_isThere, .ref a_p0_isThereThen, .ref a_p0_bestRow, .ref a_p0_lanes, .ref a_p0_sizes, .ref a_p0_cells, .int (Int32.ofInt i_p0_torn)])), (a_p0_st, .inl (G 1, 152, .inl (zA v_p0_st))), (a_p0_brings, .inl (G 1, 35, .inl (zA v_p0_brings))), (a_p0_places, .inl (G 1, 7, .inl (zA w32))), (a_p0_ways, .inl (G 2, 49, .inr (.inl (zL v_p0_ways)))), (a_p0_waysThen, .inl (G 2, 49, .inr (.inl (zL w42))))]) hx hb hK hP hD hS 5 2 rfl rfl hc dX12_nextWays_93 (fun _ => rfl) (fun w42 ez H locs hP hD hS => ?_)
                      replace hf := bnd_s hf ez
                      clear ez hc
                      obtain ⟨z43, ez⟩ : ∃ y : Int, y = (z21 + (1 : Int)) := ⟨_, rfl⟩
                      replace hf := bnd_s hf ez
                      refine lv_iinc (v := Int32.ofInt z43) (lv' := [(3, .int (Int32.ofInt z43)), (4, .int (Int32.ofInt z33)), (2, .int (Int32.ofInt z15)), (0, .ref a_p0), (1, .int (Int32.ofInt x1))]) hx hb dX12_nextWays_94 hl (k := 1) rfl (by rw [ez]; exact (Int32.ofInt_add _ _).symm) (by decide) rfl (fun ls hl => ?_)
                      clear ez
                      refine lv_goto (tgt := 31) hx hb dX12_nextWays_97 (by decide) ?_
                      exact ih31 _ _ _ _ _ _ (lv_sub hl [0, 2, 3, 4] rfl) hP hD hS hf
                    ·
                      replace hf := ite_t ((z_eq hr39 hr40).mp cc) hf
                      clear cc
                      exact hJ37 _ _ _ _ _ (lv_sub hl [1, 2, 3, 4] rfl) hP hD hS hf
          exact hB24 _ _ _ _ _ _ _ (lv_sub hl [0, 1, 2, 3] rfl) hP hD hS hf
    exact hB18 _ _ _ _ _ _ _ (lv_sub hl [0, 1, 2] rfl) hP hD hS hf
  have hq := lq2_i hf
  clear hf
  obtain ⟨B46, eB46, NB46, hf⟩ := hq
  have hB46 : ∀ (n : Nat) (z44 : Int) (w45 : (Int → Int)) (ls : Array Slot) (H : Heap) (locs : List Loc), lv_has ls 5 [(2, .int (Int32.ofInt z44)), (0, .ref a_p0), (1, .int (Int32.ofInt x1))] → va_P D vwCl [(a_p0, .inr (12, [.ref a_p0_st, .ref a_p0_isKept, .int (Int32.ofInt i_p0_seats), .int (Int32.ofInt i_p0_stirs), .ref a_p0_brings, .ref a_p0_need, .ref a_p0_draft, .int (Int32.ofInt i_p0_dSeats), .int (Int32.ofInt i_p0_dStirs), .ref a_p0_dStir, .ref a_p0_dNeed, .int (Int32.ofInt i_p0_told), .int (Int32.ofInt i_p0_highest), .ref a_p0_tape, .int (Int32.ofInt i_p0_taped), .int (Int32.ofInt i_p0_pos), .int (Int32.ofInt i_p0_from), .int (Int32.ofInt i_p0_sort), .int (Int32.ofInt i_p0_value), .int (Int32.ofInt i_p0_fault), .int (Int32.ofInt i_p0_wrongAt), .ref a_p0_places, .ref a_p0_stirred, .ref a_p0_ways, .ref a_p0_waysThen, .ref a_p0_stays, .ref a_p0_fewest, .ref a_p0_bowls, .ref a_p0_has, .ref a_p0_goesOn, .ref a_p0_isThere, .ref a_p0_isThereThen, .ref a_p0_bestRow, .ref a_p0_lanes, .ref a_p0_sizes, .ref a_p0_cells, .int (Int32.ofInt i_p0_torn)])), (a_p0_st, .inl (G 1, 152, .inl (zA v_p0_st))), (a_p0_brings, .inl (G 1, 35, .inl (zA v_p0_brings))), (a_p0_places, .inl (G 1, 7, .inl (zA v_p0_places))), (a_p0_ways, .inl (G 2, 49, .inr (.inl (zL v_p0_ways)))), (a_p0_waysThen, .inl (G 2, 49, .inr (.inl (zL w45))))] H → va_D A [(a_p0, .inr (12, [.ref a_p0_st, .ref a_p0_isKept, .int (Int32.ofInt i_p0_seats), .int (Int32.ofInt i_p0_stirs), .ref a_p0_brings, .ref a_p0_need, .ref a_p0_draft, .int (Int32.ofInt i_p0_dSeats), .int (Int32.ofInt i_p0_dStirs), .ref a_p0_dStir, .ref a_p0_dNeed, .int (Int32.ofInt i_p0_told), .int (Int32.ofInt i_p0_highest), .ref a_p0_tape, .int (Int32.ofInt i_p0_taped), .int (Int32.ofInt i_p0_pos), .int (Int32.ofInt i_p0_from), .int (Int32.ofInt i_p0_sort), .int (Int32.ofInt i_p0_value), .int (Int32.ofInt i_p0_fault), .int (Int32.ofInt i_p0_wrongAt), .ref a_p0_places, .ref a_p0_stirred, .ref a_p0_ways, .ref a_p0_waysThen, .ref a_p0_stays, .ref a_p0_fewest, .ref a_p0_bowls, .ref a_p0_has, .ref a_p0_goesOn, .ref a_p0_isThere, .ref a_p0_isThereThen, .ref a_p0_bestRow, .ref a_p0_lanes, .ref a_p0_sizes, .ref a_p0_cells, .int (Int32.ofInt i_p0_torn)])), (a_p0_st, .inl (G 1, 152, .inl (zA v_p0_st))), (a_p0_brings, .inl (G 1, 35, .inl (zA v_p0_brings))), (a_p0_places, .inl (G 1, 7, .inl (zA v_p0_places))), (a_p0_ways, .inl (G 2, 49, .inr (.inl (zL v_p0_ways)))), (a_p0_waysThen, .inl (G 2, 49, .inr (.inl (zL w45))))] → va_S A s.heap H locs → lq2 B46 n z44 w45 = some (o_v_p0_places, o_v_p0_ways, o_v_p0_waysThen) → W p l e rm_X12_nextWays s m ([.ref a_p0, .int (Int32.ofInt x1)] : List Value).toArray below meth c H locs 0 0 Q (F0 m 2 ls []) := by
    clear hf hl hP hD hS
    intro n
    induction n with
    | zero =>
      intro z44 w45 ls H locs hl hP hD hS hf
      exact (lq2_0 hf).elim
    | succ n ih2 =>
      intro z44 w45 ls H locs hl hP hD hS hf
      replace hf := lq2_s eB46 hf
      unfold B_X12_nextWays_2 at hf
      refine lv_iload_n hx hb dX12_nextWays_2 rfl (lv_at hl 0 rfl) ?_
      refine lv_bipush (v := Int32.ofInt (49 : Int)) hx hb dX12_nextWays_3 (by decide) ?_
      have hr46 := ck_c hf
      replace hf := ck_r hf
      refine lv_icmp_ge (tgt := 21) hx hb dX12_nextWays_5 (by decide) (fun cc => ?_) (fun cc => ?_)
      ·
        replace hf := ite_t ((z_le (by decide) hr46).mp cc) hf
        clear cc
        exact hJ3 _ _ _ _ (lv_sub hl [1, 2] rfl) hP hD hS hf
      ·
        replace hf := ite_f (fun h9 => cc ((z_le (by decide) hr46).mpr h9)) hf
        clear cc
        refine lv_aload_n hx hb dX12_nextWays_8 rfl (lv_at hl 1 rfl) ?_
        refine va_get (D := D) (ci := 12) (v := .ref a_p0_waysThen) (C := RX12) (T := TX12) (N := 37) hx hb hts inX12_nextWays_X12 hown hK hP 0 rfl rfl 24 (by decide) (hts _ mwX12_nextWays_2) (fun _ h9 => h9) rfl dX12_nextWays_9 ?_
        refine lv_iload_n hx hb dX12_nextWays_12 rfl (lv_at hl 0 rfl) ?_
        refine lv_lconst (v := Int64.ofInt (0 : Int)) hx hb dX12_nextWays_13 (by decide) ?_
        have hc := ck_c hf
        replace hf := ck_r hf
        refine zs_last (wf := fun w48 => [(a_p0, .inr (12, [.ref a_p0_st, .ref a_p0_isKept, .int (Int32.ofInt i_p0_seats), .int (Int32.ofInt i_p0_stirs), .ref a_p0_brings, .ref a_p0_need, .ref a_p0_draft, .int (Int32.ofInt i_p0_dSeats), .int (Int32.ofInt i_p0_dStirs), .ref a_p0_dStir, .ref a_p0_dNeed, .int (Int32.ofInt i_p0_told), .int (Int32.ofInt i_p0_highest), .ref a_p0_tape, .int (Int32.ofInt i_p0_taped), .int (Int32.ofInt i_p0_pos), .int (Int32.ofInt i_p0_from), .int (Int32.ofInt i_p0_sort), .int (Int32.ofInt i_p0_value), .int (Int32.ofInt i_p0_fault), .int (Int32.ofInt i_p0_wrongAt), .ref a_p0_places, .ref a_p0_stirred, .ref a_p0_ways, .ref a_p0_waysThen, .ref a_p0_stays, .ref a_p0_fewest, .ref a_p0_bowls, .ref a_p0_has, .ref a_p0_goesOn, .ref a_p0_isThere, .ref a_p0_isThereThen, .ref a_p0_bestRow, .ref a_p0_lanes, .ref a_p0_sizes, .ref a_p0_cells, .int (Int32.ofInt i_p0_torn)])), (a_p0_st, .inl (G 1, 152, .inl (zA v_p0_st))), (a_p0_brings, .inl (G 1, 35, .inl (zA v_p0_brings))), (a_p0_places, .inl (G 1, 7, .inl (zA v_p0_places))), (a_p0_ways, .inl (G 2, 49, .inr (.inl (zL v_p0_ways)))), (a_p0_waysThen, .inl (G 2, 49, .inr (.inl (zL w48))))]) hx hb hK hP hD hS 5 2 rfl rfl hc dX12_nextWays_14 (fun _ => rfl) (fun w48 ez H locs hP hD hS => ?_)
        replace hf := bnd_s hf ez
        clear ez hc
        obtain ⟨z49, ez⟩ : ∃ y : Int, y = (z44 + (1 : Int)) := ⟨_, rfl⟩
        replace hf := bnd_s hf ez
        refine lv_iinc (v := Int32.ofInt z49) (lv' := [(2, .int (Int32.ofInt z49)), (0, .ref a_p0), (1, .int (Int32.ofInt x1))]) hx hb dX12_nextWays_15 hl (k := 0) rfl (by rw [ez]; exact (Int32.ofInt_add _ _).symm) (by decide) rfl (fun ls hl => ?_)
        clear ez
        refine lv_goto (tgt := 2) hx hb dX12_nextWays_18 (by decide) ?_
        exact ih2 _ _ _ _ _ (lv_sub hl [0, 1, 2] rfl) hP hD hS hf
  exact hB46 _ _ _ _ _ _ (lv_sub hl [0, 1, 2] rfl) hP hD hS hf

noncomputable def f_X12_isTold (x0 : Int) : Option (Int) := (ck (z_r32 x0) (bd1 (f_X12_in x0 (0 : Int) (1 : Int)) (fun (z2 : Int) => (ck (z_bB z2) (some z2)))))
abbrev rm_X12_isTold : Room := { frames := 1, cells := 0, slots := 0, locals := 25 }
set_option maxHeartbeats 8000000 in
set_option maxRecDepth 100000 in
theorem c_X12_isTold (l : Launch) (D : va_G) (G : Nat → ClassId) (sz : Nat) (x0 : Int) (r : Int) (hf : f_X12_isTold x0 = some r) : Met l yX12_isTold wsX12_isTold rm_X12_isTold (pcG D G [.int (Int32.ofInt x0)] sz []) (qcI D G (Int32.ofInt r) [] (va_A [] sz)) 0 0 (va_A [] sz) := by
  refine Met.ofW (cc := cX12_isTold) (maxL := 1) (ret := (some .boolean)) (by decide) rfl ?_
  intro p e s m args below meth c s₁ B hml hv
  obtain ⟨rfl, hsz, hP, hK, hD0⟩ := hv
  have hx := B.exec
  have hb := B.bytes
  have hr := B.returns
  have hts := atoms_spec (ws := wsX12_isTold) B.pre
  have hown : s.vm.findClass RX12 = some m.cls := findClass_of_methodNamed B.named
  have hlocks := B.notSynchronized
  subst hsz
  have hD := hD0.self (sz := s.heap.size)
  generalize hAe : va_A [] s.heap.size = A at hD ⊢
  have hA : ∀ q : Nat, s.heap.size ≤ q → A q := fun q h => by rw [← hAe]; exact Or.inr h
  clear hAe hD0
  have hS : va_S A s.heap s.heap [] := va_S.rf
  have hl := lv_entry ([.int (Int32.ofInt x0)]) (n := 1) (Nat.le_of_ble_eq_true rfl)
  rw [lg_entry_eq]
  generalize (lg_sl ([.int (Int32.ofInt x0)]) ++ List.replicate (1 - (lg_sl ([.int (Int32.ofInt x0)])).length) Slot.unset).toArray = ls at hl ⊢
  have hl : lv_has ls 1 [(0, .int (Int32.ofInt x0))] := hl
  refine W_nameQ (fun Q hQ => ?_)
  obtain ⟨H, hH⟩ : ∃ H, H = s.heap := ⟨_, rfl⟩
  replace hS : va_S A s.heap H [] := by rw [hH]; exact hS
  replace hP : va_P D vwCl [] H := by rw [hH]; exact hP
  rw [← hH]
  clear hH
  unfold f_X12_isTold at hf
  refine lv_iload_n hx hb dX12_isTold_0 rfl (lv_at hl 0 rfl) ?_
  have hr0 := ck_c hf
  replace hf := ck_r hf
  refine lv_i2l (v := Int64.ofInt x0) hx hb dX12_isTold_1 (z_i2l hr0) ?_
  refine lv_lconst (v := Int64.ofInt (0 : Int)) hx hb dX12_isTold_2 (by decide) ?_
  refine lv_lconst (v := Int64.ofInt (1 : Int)) hx hb dX12_isTold_3 (by decide) ?_
  have hq := bd1_s hf
  clear hf
  obtain ⟨z2, hcall, hf⟩ := hq
  refine gnI (va_runS (As := [.long (Int64.ofInt x0), .long (Int64.ofInt (0 : Int)), .long (Int64.ofInt (1 : Int))]) (rest := []) ⟨hx, hb, hml, hown, hts⟩ (c_X12_in (l := l) (D := D) (G := G) (sz := H.size) (x0 := x0) (x2 := (0 : Int)) (x4 := (1 : Int)) (r := z2) (hf := hcall)) (va_cwS 3 hts gX12_isTold_X12_in rfl rfl rfl (by decide +kernel) ⟨Nat.le_of_ble_eq_true rfl, Nat.le_of_ble_eq_true rfl⟩) (preG_S (hP.sub [] rfl) (hD.sub [] rfl rfl) hK) rfl rfl hl.1 rfl (lv_room (Nat.le_of_ble_eq_true rfl)) dX12_isTold_4 ⟨Nat.le_of_ble_eq_true rfl, Nat.le_of_ble_eq_true rfl⟩) hP hD hS hA [] rfl (fun H locs hP hD hS => ?_)
  clear hcall
  have hz := ck_c hf
  replace hf := ck_r hf
  obtain rfl := ou1 hf
  rw [hQ]
  exact W.zret hx hb hr (z_bn hz) (fun t ht hW => ⟨⟨_, (), rfl, rfl, by rw [ht]; exact hP, va_K.moved hW.alike hK, hD⟩, hS.F ht⟩) hS.2.2 dX12_isTold_7

noncomputable def B_X12_chance_72 (J18 : Int → Option (Int × (Int → Int) × (Int → Int) × (Int → Int))) (x1 : Int) (w12 : (Int → Int)) (again72 : Int → Int → Option (Int × (Int → Int) × (Int → Int) × (Int → Int))) (z21 : Int) (z22 : Int) : Option (Int × (Int → Int) × (Int → Int) × (Int → Int)) := (ck (z_r32 z21) (if (49 : Int) ≤ z21 then (J18 z22) else (ck (z_dv z21 (7 : Int)) (ck (z_r32 (z21 % (7 : Int))) (ck (z_r32 x1) (if (z21 % (7 : Int)) = x1 then (ck (z_ix z21 49) (bnd (z22 + (w12 z21)) (fun (z29 : Int) => (bnd (z21 + (1 : Int)) (fun (z30 : Int) => (again72 z30 z29)))))) else (bnd (z22 + (0 : Int)) (fun (z27 : Int) => (bnd (z21 + (1 : Int)) (fun (z28 : Int) => (again72 z28 z27)))))))))))
noncomputable def B_X12_chance_49 (x2 : Int) (J14 : (Int → Int) → (Int → Int) → (Int → Int) → Option (Int × (Int → Int) × (Int → Int) × (Int → Int))) (i_p0_seats : Int) (i_p0_stirs : Int) (v_p0_st : (Int → Int)) (v_p0_brings : (Int → Int)) (again49 : Int → (Int → Int) → (Int → Int) → (Int → Int) → Option (Int × (Int → Int) × (Int → Int) × (Int → Int))) (z31 : Int) (w32 : (Int → Int)) (w33 : (Int → Int)) (w34 : (Int → Int)) : Option (Int × (Int → Int) × (Int → Int) × (Int → Int)) := (ck (z_r32 z31) (if x2 ≤ z31 then (J14 w32 w33 w34) else (bd3 (f_X12_nextWays i_p0_seats i_p0_stirs v_p0_st v_p0_brings w32 w33 w34 (0 : Int)) (fun (w37 : (Int → Int)) (w38 : (Int → Int)) (w39 : (Int → Int)) => (bnd (z31 + (1 : Int)) (fun (z40 : Int) => (again49 z40 w37 w38 w39)))))))
noncomputable def f_X12_chance (i_p0_seats : Int) (i_p0_stirs : Int) (v_p0_st : (Int → Int)) (v_p0_brings : (Int → Int)) (v_p0_places : (Int → Int)) (v_p0_ways : (Int → Int)) (v_p0_waysThen : (Int → Int)) (x1 : Int) (x2 : Int) (x3 : Int) : Option (Int × (Int → Int) × (Int → Int) × (Int → Int)) := (bd1 (f_X12_isSeat i_p0_seats x1) (fun (z1 : Int) => (ck (z_r32 z1) (if z1 = (0 : Int) then (some ((-1 : Int), v_p0_places, v_p0_ways, v_p0_waysThen)) else (ck (z_r32 x2) (bd1 (f_X12_in x2 (0 : Int) (10 : Int)) (fun (z4 : Int) => (ck (z_r32 z4) (if z4 = (0 : Int) then (some ((-1 : Int), v_p0_places, v_p0_ways, v_p0_waysThen)) else (bd1 (f_X12_isTold x3) (fun (z6 : Int) => (ck (z_r32 z6) (if z6 = (0 : Int) then (some ((-1 : Int), v_p0_places, v_p0_ways, v_p0_waysThen)) else (ck (z_r32 i_p0_stirs) (if i_p0_stirs = (0 : Int) then (some ((-2 : Int), v_p0_places, v_p0_ways, v_p0_waysThen)) else (bd1 (f_X12_firstWays v_p0_st v_p0_ways) (fun (w9 : (Int → Int)) => (bnd (0 : Int) (fun (z10 : Int) => (jn (fun (w11 : (Int → Int)) (w12 : (Int → Int)) (w13 : (Int → Int)) => (bnd (0 : Int) (fun (z15 : Int) => (bnd (0 : Int) (fun (z16 : Int) => (jn (fun (z17 : Int) => (bd1 (f_X12_power i_p0_stirs x2) (fun (z19 : Int) => (bd1 (f_X12_lowest z17 z19 x3) (fun (z20 : Int) => (some (z20, w11, w12, w13))))))) (fun (J18 : Int → Option (Int × (Int → Int) × (Int → Int) × (Int → Int))) => (lq2 (B_X12_chance_72 J18 x1 w12) 1000 z16 z15)))))))) (fun (J14 : (Int → Int) → (Int → Int) → (Int → Int) → Option (Int × (Int → Int) × (Int → Int) × (Int → Int))) => (lq4 (B_X12_chance_49 x2 J14 i_p0_seats i_p0_stirs v_p0_st v_p0_brings) 1000 z10 v_p0_places w9 v_p0_waysThen))))))))))))))))))))))
abbrev rm_X12_chance : Room := { frames := 5, cells := 0, slots := 0, locals := 116 }
theorem mwX12_chance_0 : Cond.constantLong RX12 241 (-1) ∈ wsX12_chance := by first | exact List.mem_of_getElem? (i := 2) rfl | decide +kernel
theorem mwX12_chance_1 : Cond.constantLong RX12 236 (10) ∈ wsX12_chance := by first | exact List.mem_of_getElem? (i := 1) rfl | decide +kernel
theorem inX12_chance_X12 : ∀ w ∈ wsX120, w ∈ wsX12_chance := by first | exact fun w h => List.mem_cons_of_mem _ (List.mem_append_right _ h) | decide +kernel
theorem mwX12_chance_3 : Cond.fieldLink RX12 103 "LadleKingsModel" "stirs" "I" ∈ wsX12_chance := by first | exact List.mem_of_getElem? (i := 3) rfl | decide +kernel
theorem hdV_yX12_firstWays_RX12 : yX12_firstWays.cls = RX12 ∧ yX12_firstWays.cls ≠ "java/lang/invoke/MethodHandle" ∧ yX12_firstWays.cls ≠ "java/lang/invoke/VarHandle" ∧ (parseMethodDescriptor yX12_firstWays.desc).map (fun d => d.parameters.length) = some 0 := by decide +kernel
theorem hdV_yX12_power_RX12 : yX12_power.cls = RX12 ∧ yX12_power.cls ≠ "java/lang/invoke/MethodHandle" ∧ yX12_power.cls ≠ "java/lang/invoke/VarHandle" ∧ (parseMethodDescriptor yX12_power.desc).map (fun d => d.parameters.length) = some 2 := by decide +kernel
theorem mwX12_chance_6 : Cond.fieldLink RX12 41 "LadleKingsModel" "ways" "[J" ∈ wsX12_chance := by first | exact List.mem_of_getElem? (i := 5) rfl | decide +kernel
theorem hdV_yX12_nextWays_RX12 : yX12_nextWays.cls = RX12 ∧ yX12_nextWays.cls ≠ "java/lang/invoke/MethodHandle" ∧ yX12_nextWays.cls ≠ "java/lang/invoke/VarHandle" ∧ (parseMethodDescriptor yX12_nextWays.desc).map (fun d => d.parameters.length) = some 1 := by decide +kernel
theorem mwX12_chance_8 : Cond.constantLong RX12 243 (-2) ∈ wsX12_chance := by first | exact List.mem_of_getElem? (i := 4) rfl | decide +kernel
set_option maxHeartbeats 8000000 in
set_option maxRecDepth 100000 in
theorem c_X12_chance (l : Launch) (D : va_G) (G : Nat → ClassId) (sz : Nat) (a_p0 : Nat) (a_p0_st : Nat) (a_p0_isKept : Nat) (a_p0_brings : Nat) (a_p0_need : Nat) (a_p0_draft : Nat) (a_p0_dStir : Nat) (a_p0_dNeed : Nat) (a_p0_tape : Nat) (a_p0_places : Nat) (a_p0_stirred : Nat) (a_p0_ways : Nat) (a_p0_waysThen : Nat) (a_p0_stays : Nat) (a_p0_fewest : Nat) (a_p0_bowls : Nat) (a_p0_has : Nat) (a_p0_goesOn : Nat) (a_p0_isThere : Nat) (a_p0_isThereThen : Nat) (a_p0_bestRow : Nat) (a_p0_lanes : Nat) (a_p0_sizes : Nat) (a_p0_cells : Nat) (i_p0_seats : Int) (i_p0_stirs : Int) (i_p0_dSeats : Int) (i_p0_dStirs : Int) (i_p0_told : Int) (i_p0_highest : Int) (i_p0_taped : Int) (i_p0_pos : Int) (i_p0_from : Int) (i_p0_sort : Int) (i_p0_value : Int) (i_p0_fault : Int) (i_p0_wrongAt : Int) (i_p0_torn : Int) (v_p0_st : (Int → Int)) (v_p0_brings : (Int → Int)) (v_p0_places : (Int → Int)) (v_p0_ways : (Int → Int)) (v_p0_waysThen : (Int → Int)) (x1 : Int) (x2 : Int) (x3 : Int) (r : Int) (o_v_p0_places : (Int → Int)) (o_v_p0_ways : (Int → Int)) (o_v_p0_waysThen : (Int → Int)) (hf : f_X12_chance i_p0_seats i_p0_stirs v_p0_st v_p0_brings v_p0_places v_p0_ways v_p0_waysThen x1 x2 x3 = some (r, o_v_p0_places, o_v_p0_ways, o_v_p0_waysThen)) : Met l yX12_chance wsX12_chance rm_X12_chance (pcG D G [.ref a_p0, .int (Int32.ofInt x1), .int (Int32.ofInt x2), .int (Int32.ofInt x3)] sz [(a_p0, .inr (12, [.ref a_p0_st, .ref a_p0_isKept, .int (Int32.ofInt i_p0_seats), .int (Int32.ofInt i_p0_stirs), .ref a_p0_brings, .ref a_p0_need, .ref a_p0_draft, .int (Int32.ofInt i_p0_dSeats), .int (Int32.ofInt i_p0_dStirs), .ref a_p0_dStir, .ref a_p0_dNeed, .int (Int32.ofInt i_p0_told), .int (Int32.ofInt i_p0_highest), .ref a_p0_tape, .int (Int32.ofInt i_p0_taped), .int (Int32.ofInt i_p0_pos), .int (Int32.ofInt i_p0_from), .int (Int32.ofInt i_p0_sort), .int (Int32.ofInt i_p0_value), .int (Int32.ofInt i_p0_fault), .int (Int32.ofInt i_p0_wrongAt), .ref a_p0_places, .ref a_p0_stirred, .ref a_p0_ways, .ref a_p0_waysThen, .ref a_p0_stays, .ref a_p0_fewest, .ref a_p0_bowls, .ref a_p0_has, .ref a_p0_goesOn, .ref a_p0_isThere, .ref a_p0_isThereThen, .ref a_p0_bestRow, .ref a_p0_lanes, .ref a_p0_sizes, .ref a_p0_cells, .int (Int32.ofInt i_p0_torn)])), (a_p0_st, .inl (G 1, 152, .inl (zA v_p0_st))), (a_p0_brings, .inl (G 1, 35, .inl (zA v_p0_brings))), (a_p0_places, .inl (G 1, 7, .inl (zA v_p0_places))), (a_p0_ways, .inl (G 2, 49, .inr (.inl (zL v_p0_ways)))), (a_p0_waysThen, .inl (G 2, 49, .inr (.inl (zL v_p0_waysThen))))]) (qcL D G (Int64.ofInt r) [(a_p0, .inr (12, [.ref a_p0_st, .ref a_p0_isKept, .int (Int32.ofInt i_p0_seats), .int (Int32.ofInt i_p0_stirs), .ref a_p0_brings, .ref a_p0_need, .ref a_p0_draft, .int (Int32.ofInt i_p0_dSeats), .int (Int32.ofInt i_p0_dStirs), .ref a_p0_dStir, .ref a_p0_dNeed, .int (Int32.ofInt i_p0_told), .int (Int32.ofInt i_p0_highest), .ref a_p0_tape, .int (Int32.ofInt i_p0_taped), .int (Int32.ofInt i_p0_pos), .int (Int32.ofInt i_p0_from), .int (Int32.ofInt i_p0_sort), .int (Int32.ofInt i_p0_value), .int (Int32.ofInt i_p0_fault), .int (Int32.ofInt i_p0_wrongAt), .ref a_p0_places, .ref a_p0_stirred, .ref a_p0_ways, .ref a_p0_waysThen, .ref a_p0_stays, .ref a_p0_fewest, .ref a_p0_bowls, .ref a_p0_has, .ref a_p0_goesOn, .ref a_p0_isThere, .ref a_p0_isThereThen, .ref a_p0_bestRow, .ref a_p0_lanes, .ref a_p0_sizes, .ref a_p0_cells, .int (Int32.ofInt i_p0_torn)])), (a_p0_st, .inl (G 1, 152, .inl (zA v_p0_st))), (a_p0_brings, .inl (G 1, 35, .inl (zA v_p0_brings))), (a_p0_places, .inl (G 1, 7, .inl (zA o_v_p0_places))), (a_p0_ways, .inl (G 2, 49, .inr (.inl (zL o_v_p0_ways)))), (a_p0_waysThen, .inl (G 2, 49, .inr (.inl (zL o_v_p0_waysThen))))] (va_A [(a_p0, .inr (12, [.ref a_p0_st, .ref a_p0_isKept, .int (Int32.ofInt i_p0_seats), .int (Int32.ofInt i_p0_stirs), .ref a_p0_brings, .ref a_p0_need, .ref a_p0_draft, .int (Int32.ofInt i_p0_dSeats), .int (Int32.ofInt i_p0_dStirs), .ref a_p0_dStir, .ref a_p0_dNeed, .int (Int32.ofInt i_p0_told), .int (Int32.ofInt i_p0_highest), .ref a_p0_tape, .int (Int32.ofInt i_p0_taped), .int (Int32.ofInt i_p0_pos), .int (Int32.ofInt i_p0_from), .int (Int32.ofInt i_p0_sort), .int (Int32.ofInt i_p0_value), .int (Int32.ofInt i_p0_fault), .int (Int32.ofInt i_p0_wrongAt), .ref a_p0_places, .ref a_p0_stirred, .ref a_p0_ways, .ref a_p0_waysThen, .ref a_p0_stays, .ref a_p0_fewest, .ref a_p0_bowls, .ref a_p0_has, .ref a_p0_goesOn, .ref a_p0_isThere, .ref a_p0_isThereThen, .ref a_p0_bestRow, .ref a_p0_lanes, .ref a_p0_sizes, .ref a_p0_cells, .int (Int32.ofInt i_p0_torn)])), (a_p0_st, .inl (G 1, 152, .inl (zA v_p0_st))), (a_p0_brings, .inl (G 1, 35, .inl (zA v_p0_brings))), (a_p0_places, .inl (G 1, 7, .inl (zA v_p0_places))), (a_p0_ways, .inl (G 2, 49, .inr (.inl (zL v_p0_ways)))), (a_p0_waysThen, .inl (G 2, 49, .inr (.inl (zL v_p0_waysThen))))] sz)) 0 0 (va_A [(a_p0, .inr (12, [.ref a_p0_st, .ref a_p0_isKept, .int (Int32.ofInt i_p0_seats), .int (Int32.ofInt i_p0_stirs), .ref a_p0_brings, .ref a_p0_need, .ref a_p0_draft, .int (Int32.ofInt i_p0_dSeats), .int (Int32.ofInt i_p0_dStirs), .ref a_p0_dStir, .ref a_p0_dNeed, .int (Int32.ofInt i_p0_told), .int (Int32.ofInt i_p0_highest), .ref a_p0_tape, .int (Int32.ofInt i_p0_taped), .int (Int32.ofInt i_p0_pos), .int (Int32.ofInt i_p0_from), .int (Int32.ofInt i_p0_sort), .int (Int32.ofInt i_p0_value), .int (Int32.ofInt i_p0_fault), .int (Int32.ofInt i_p0_wrongAt), .ref a_p0_places, .ref a_p0_stirred, .ref a_p0_ways, .ref a_p0_waysThen, .ref a_p0_stays, .ref a_p0_fewest, .ref a_p0_bowls, .ref a_p0_has, .ref a_p0_goesOn, .ref a_p0_isThere, .ref a_p0_isThereThen, .ref a_p0_bestRow, .ref a_p0_lanes, .ref a_p0_sizes, .ref a_p0_cells, .int (Int32.ofInt i_p0_torn)])), (a_p0_st, .inl (G 1, 152, .inl (zA v_p0_st))), (a_p0_brings, .inl (G 1, 35, .inl (zA v_p0_brings))), (a_p0_places, .inl (G 1, 7, .inl (zA v_p0_places))), (a_p0_ways, .inl (G 2, 49, .inr (.inl (zL v_p0_ways)))), (a_p0_waysThen, .inl (G 2, 49, .inr (.inl (zL v_p0_waysThen))))] sz) := by
  refine Met.ofW (cc := cX12_chance) (maxL := 7) (ret := (some .long)) (by decide) rfl ?_
  intro p e s m args below meth c s₁ B hml hv
  obtain ⟨rfl, hsz, hP, hK, hD0⟩ := hv
  have hx := B.exec
  have hb := B.bytes
  have hr := B.returns
  have hts := atoms_spec (ws := wsX12_chance) B.pre
  have hown : s.vm.findClass RX12 = some m.cls := findClass_of_methodNamed B.named
  have hlocks := B.notSynchronized
  subst hsz
  have hD := hD0.self (sz := s.heap.size)
  generalize hAe : va_A [(a_p0, .inr (12, [.ref a_p0_st, .ref a_p0_isKept, .int (Int32.ofInt i_p0_seats), .int (Int32.ofInt i_p0_stirs), .ref a_p0_brings, .ref a_p0_need, .ref a_p0_draft, .int (Int32.ofInt i_p0_dSeats), .int (Int32.ofInt i_p0_dStirs), .ref a_p0_dStir, .ref a_p0_dNeed, .int (Int32.ofInt i_p0_told), .int (Int32.ofInt i_p0_highest), .ref a_p0_tape, .int (Int32.ofInt i_p0_taped), .int (Int32.ofInt i_p0_pos), .int (Int32.ofInt i_p0_from), .int (Int32.ofInt i_p0_sort), .int (Int32.ofInt i_p0_value), .int (Int32.ofInt i_p0_fault), .int (Int32.ofInt i_p0_wrongAt), .ref a_p0_places, .ref a_p0_stirred, .ref a_p0_ways, .ref a_p0_waysThen, .ref a_p0_stays, .ref a_p0_fewest, .ref a_p0_bowls, .ref a_p0_has, .ref a_p0_goesOn, .ref a_p0_isThere, .ref a_p0_isThereThen, .ref a_p0_bestRow, .ref a_p0_lanes, .ref a_p0_sizes, .ref a_p0_cells, .int (Int32.ofInt i_p0_torn)])), (a_p0_st, .inl (G 1, 152, .inl (zA v_p0_st))), (a_p0_brings, .inl (G 1, 35, .inl (zA v_p0_brings))), (a_p0_places, .inl (G 1, 7, .inl (zA v_p0_places))), (a_p0_ways, .inl (G 2, 49, .inr (.inl (zL v_p0_ways)))), (a_p0_waysThen, .inl (G 2, 49, .inr (.inl (zL v_p0_waysThen))))] s.heap.size = A at hD ⊢
  have hA : ∀ q : Nat, s.heap.size ≤ q → A q := fun q h => by rw [← hAe]; exact Or.inr h
  clear hAe hD0
  have hS : va_S A s.heap s.heap [] := va_S.rf
  have hl := lv_entry ([.ref a_p0, .int (Int32.ofInt x1), .int (Int32.ofInt x2), .int (Int32.ofInt x3)]) (n := 7) (Nat.le_of_ble_eq_true rfl)
  rw [lg_entry_eq]
  generalize (lg_sl ([.ref a_p0, .int (Int32.ofInt x1), .int (Int32.ofInt x2), .int (Int32.ofInt x3)]) ++ List.replicate (7 - (lg_sl ([.ref a_p0, .int (Int32.ofInt x1), .int (Int32.ofInt x2), .int (Int32.ofInt x3)])).length) Slot.unset).toArray = ls at hl ⊢
  have hl : lv_has ls 7 [(0, .ref a_p0), (1, .int (Int32.ofInt x1)), (2, .int (Int32.ofInt x2)), (3, .int (Int32.ofInt x3))] := hl
  refine W_nameQ (fun Q hQ => ?_)
  obtain ⟨H, hH⟩ : ∃ H, H = s.heap := ⟨_, rfl⟩
  replace hS : va_S A s.heap H [] := by rw [hH]; exact hS
  replace hP : va_P D vwCl [(a_p0, .inr (12, [.ref a_p0_st, .ref a_p0_isKept, .int (Int32.ofInt i_p0_seats), .int (Int32.ofInt i_p0_stirs), .ref a_p0_brings, .ref a_p0_need, .ref a_p0_draft, .int (Int32.ofInt i_p0_dSeats), .int (Int32.ofInt i_p0_dStirs), .ref a_p0_dStir, .ref a_p0_dNeed, .int (Int32.ofInt i_p0_told), .int (Int32.ofInt i_p0_highest), .ref a_p0_tape, .int (Int32.ofInt i_p0_taped), .int (Int32.ofInt i_p0_pos), .int (Int32.ofInt i_p0_from), .int (Int32.ofInt i_p0_sort), .int (Int32.ofInt i_p0_value), .int (Int32.ofInt i_p0_fault), .int (Int32.ofInt i_p0_wrongAt), .ref a_p0_places, .ref a_p0_stirred, .ref a_p0_ways, .ref a_p0_waysThen, .ref a_p0_stays, .ref a_p0_fewest, .ref a_p0_bowls, .ref a_p0_has, .ref a_p0_goesOn, .ref a_p0_isThere, .ref a_p0_isThereThen, .ref a_p0_bestRow, .ref a_p0_lanes, .ref a_p0_sizes, .ref a_p0_cells, .int (Int32.ofInt i_p0_torn)])), (a_p0_st, .inl (G 1, 152, .inl (zA v_p0_st))), (a_p0_brings, .inl (G 1, 35, .inl (zA v_p0_brings))), (a_p0_places, .inl (G 1, 7, .inl (zA v_p0_places))), (a_p0_ways, .inl (G 2, 49, .inr (.inl (zL v_p0_ways)))), (a_p0_waysThen, .inl (G 2, 49, .inr (.inl (zL v_p0_waysThen))))] H := by rw [hH]; exact hP
  rw [← hH]
  clear hH
  unfold f_X12_chance at hf
  refine lv_aload_n hx hb dX12_chance_0 rfl (lv_at hl 0 rfl) ?_
  refine lv_iload_n hx hb dX12_chance_1 rfl (lv_at hl 1 rfl) ?_
  have hq := bd1_s hf
  clear hf
  obtain ⟨z1, hcall, hf⟩ := hq
  refine gnI (va_runV (As := [.int (Int32.ofInt x1)]) (rest := []) ⟨hx, hb, hml, hown, hts⟩ (c_X12_isSeat (l := l) (D := D) (G := G) (sz := H.size) (a_p0 := a_p0) (a_p0_st := a_p0_st) (a_p0_isKept := a_p0_isKept) (a_p0_brings := a_p0_brings) (a_p0_need := a_p0_need) (a_p0_draft := a_p0_draft) (a_p0_dStir := a_p0_dStir) (a_p0_dNeed := a_p0_dNeed) (a_p0_tape := a_p0_tape) (a_p0_places := a_p0_places) (a_p0_stirred := a_p0_stirred) (a_p0_ways := a_p0_ways) (a_p0_waysThen := a_p0_waysThen) (a_p0_stays := a_p0_stays) (a_p0_fewest := a_p0_fewest) (a_p0_bowls := a_p0_bowls) (a_p0_has := a_p0_has) (a_p0_goesOn := a_p0_goesOn) (a_p0_isThere := a_p0_isThere) (a_p0_isThereThen := a_p0_isThereThen) (a_p0_bestRow := a_p0_bestRow) (a_p0_lanes := a_p0_lanes) (a_p0_sizes := a_p0_sizes) (a_p0_cells := a_p0_cells) (i_p0_seats := i_p0_seats) (i_p0_stirs := i_p0_stirs) (i_p0_dSeats := i_p0_dSeats) (i_p0_dStirs := i_p0_dStirs) (i_p0_told := i_p0_told) (i_p0_highest := i_p0_highest) (i_p0_taped := i_p0_taped) (i_p0_pos := i_p0_pos) (i_p0_from := i_p0_from) (i_p0_sort := i_p0_sort) (i_p0_value := i_p0_value) (i_p0_fault := i_p0_fault) (i_p0_wrongAt := i_p0_wrongAt) (i_p0_torn := i_p0_torn) (x1 := x1) (r := z1) (hf := hcall)) (cwV 1 hts gX12_chance_X12_isSeat rfl rfl rfl hdV_yX12_isSeat_RX12 ⟨Nat.le_of_ble_eq_true rfl, Nat.le_of_ble_eq_true rfl⟩) (preG_V (ci := 12) (q := (RX12, TX12, 37)) (hP.sub [0] rfl) (hD.sub [0] rfl rfl) hK rfl rfl) rfl rfl hl.1 rfl (lv_room (Nat.le_of_ble_eq_true rfl)) dX12_chance_2 ⟨Nat.le_of_ble_eq_true rfl, Nat.le_of_ble_eq_true rfl⟩) hP hD hS hA [0] rfl (fun H locs hP hD hS => ?_)
  clear hcall
  have hr1 := ck_c hf
  replace hf := ck_r hf
  refine lv_if_eq (tgt := 27) hx hb dX12_chance_5 (by decide) (fun cc => ?_) (fun cc => ?_)
  ·
    replace hf := ite_t ((z_eq0 hr1).mp cc) hf
    clear cc
    refine lv_ldc2 (v := (-1 : Int64)) hx hb hown (hts _ mwX12_chance_0) dX12_chance_27 (z_cl (show Int64.ofInt (-1 : Int) = _ from by decide) ?_)
    obtain ⟨rfl, rfl, rfl, rfl⟩ := ou4 hf
    rw [hQ]
    exact W.lret hx hb hr (fun t ht hW => ⟨⟨_, (), rfl, rfl, by rw [ht]; exact hP, va_K.moved hW.alike hK, hD⟩, hS.F ht⟩) hS.2.2 dX12_chance_30
  ·
    replace hf := ite_f (fun h9 => cc ((z_eq0 hr1).mpr h9)) hf
    clear cc
    refine lv_iload_n hx hb dX12_chance_8 rfl (lv_at hl 2 rfl) ?_
    have hr2 := ck_c hf
    replace hf := ck_r hf
    refine lv_i2l (v := Int64.ofInt x2) hx hb dX12_chance_9 (z_i2l hr2) ?_
    refine lv_lconst (v := Int64.ofInt (0 : Int)) hx hb dX12_chance_10 (by decide) ?_
    refine lv_ldc2 (v := (10 : Int64)) hx hb hown (hts _ mwX12_chance_1) dX12_chance_11 (z_cl (show Int64.ofInt (10 : Int) = _ from by decide) ?_)
    have hq := bd1_s hf
    clear hf
    obtain ⟨z4, hcall, hf⟩ := hq
    refine gnI (va_runS (As := [.long (Int64.ofInt x2), .long (Int64.ofInt (0 : Int)), .long (Int64.ofInt (10 : Int))]) (rest := []) ⟨hx, hb, hml, hown, hts⟩ (c_X12_in (l := l) (D := D) (G := G) (sz := H.size) (x0 := x2) (x2 := (0 : Int)) (x4 := (10 : Int)) (r := z4) (hf := hcall)) (va_cwS 3 hts gX12_chance_X12_in rfl rfl rfl (by decide +kernel) ⟨Nat.le_of_ble_eq_true rfl, Nat.le_of_ble_eq_true rfl⟩) (preG_S (hP.sub [] rfl) (hD.sub [] rfl rfl) hK) rfl rfl hl.1 rfl (lv_room (Nat.le_of_ble_eq_true rfl)) dX12_chance_14 ⟨Nat.le_of_ble_eq_true rfl, Nat.le_of_ble_eq_true rfl⟩) hP hD hS hA [] rfl (fun H locs hP hD hS => ?_)
    clear hcall
    have hr4 := ck_c hf
    replace hf := ck_r hf
    refine lv_if_eq (tgt := 27) hx hb dX12_chance_17 (by decide) (fun cc => ?_) (fun cc => ?_)
    ·
      replace hf := ite_t ((z_eq0 hr4).mp cc) hf
      clear cc
      refine lv_ldc2 (v := (-1 : Int64)) hx hb hown (hts _ mwX12_chance_0) dX12_chance_27 (z_cl (show Int64.ofInt (-1 : Int) = _ from by decide) ?_)
      obtain ⟨rfl, rfl, rfl, rfl⟩ := ou4 hf
      rw [hQ]
      exact W.lret hx hb hr (fun t ht hW => ⟨⟨_, (), rfl, rfl, by rw [ht]; exact hP, va_K.moved hW.alike hK, hD⟩, hS.F ht⟩) hS.2.2 dX12_chance_30
    ·
      replace hf := ite_f (fun h9 => cc ((z_eq0 hr4).mpr h9)) hf
      clear cc
      refine lv_iload_n hx hb dX12_chance_20 rfl (lv_at hl 3 rfl) ?_
      have hq := bd1_s hf
      clear hf
      obtain ⟨z6, hcall, hf⟩ := hq
      refine gnI (va_runS (As := [.int (Int32.ofInt x3)]) (rest := []) ⟨hx, hb, hml, hown, hts⟩ (c_X12_isTold (l := l) (D := D) (G := G) (sz := H.size) (x0 := x3) (r := z6) (hf := hcall)) (va_cwS 1 hts gX12_chance_X12_isTold rfl rfl rfl (by decide +kernel) ⟨Nat.le_of_ble_eq_true rfl, Nat.le_of_ble_eq_true rfl⟩) (preG_S (hP.sub [] rfl) (hD.sub [] rfl rfl) hK) rfl rfl hl.1 rfl (lv_room (Nat.le_of_ble_eq_true rfl)) dX12_chance_21 ⟨Nat.le_of_ble_eq_true rfl, Nat.le_of_ble_eq_true rfl⟩) hP hD hS hA [] rfl (fun H locs hP hD hS => ?_)
      clear hcall
      have hr6 := ck_c hf
      replace hf := ck_r hf
      refine lv_if_ne (tgt := 31) hx hb dX12_chance_24 (by decide) (fun cc => ?_) (fun cc => ?_)
      ·
        replace hf := ite_f (fun h9 => cc ((z_eq0 hr6).mpr h9)) hf
        clear cc
        refine lv_aload_n hx hb dX12_chance_31 rfl (lv_at hl 0 rfl) ?_
        refine va_get (D := D) (ci := 12) (v := .int (Int32.ofInt i_p0_stirs)) (C := RX12) (T := TX12) (N := 37) hx hb hts inX12_chance_X12 hown hK hP 0 rfl rfl 3 (by decide) (hts _ mwX12_chance_3) (fun _ h9 => h9) rfl dX12_chance_32 ?_
        have hr7 := ck_c hf
        replace hf := ck_r hf
        refine lv_if_ne (tgt := 42) hx hb dX12_chance_35 (by decide) (fun cc => ?_) (fun cc => ?_)
        ·
          replace hf := ite_f (fun h9 => cc ((z_eq0 hr7).mpr h9)) hf
          clear cc
          refine lv_aload_n hx hb dX12_chance_42 rfl (lv_at hl 0 rfl) ?_
          have hq := bd1_s hf
          clear hf
          obtain ⟨w9, hcall, hf⟩ := hq
          refine gsV (ws' := [(a_p0, .inr (12, [.ref a_p0_st, .ref a_p0_isKept, .int (Int32.ofInt i_p0_seats), .int (Int32.ofInt i_p0_stirs), .ref a_p0_brings, .ref a_p0_need, .ref a_p0_draft, .int (Int32.ofInt i_p0_dSeats), .int (Int32.ofInt i_p0_dStirs), .ref a_p0_dStir, .ref a_p0_dNeed, .int (Int32.ofInt i_p0_told), .int (Int32.ofInt i_p0_highest), .ref a_p0_tape, .int (Int32.ofInt i_p0_taped), .int (Int32.ofInt i_p0_pos), .int (Int32.ofInt i_p0_from), .int (Int32.ofInt i_p0_sort), .int (Int32.ofInt i_p0_value), .int (Int32.ofInt i_p0_fault), .int (Int32.ofInt i_p0_wrongAt), .ref a_p0_places, .ref a_p0_stirred, .ref a_p0_ways, .ref a_p0_waysThen, .ref a_p0_stays, .ref a_p0_fewest, .ref a_p0_bowls, .ref a_p0_has, .ref a_p0_goesOn, .ref a_p0_isThere, .ref a_p0_isThereThen, .ref a_p0_bestRow, .ref a_p0_lanes, .ref a_p0_sizes, .ref a_p0_cells, .int (Int32.ofInt i_p0_torn)])), (a_p0_st, .inl (G 1, 152, .inl (zA v_p0_st))), (a_p0_brings, .inl (G 1, 35, .inl (zA v_p0_brings))), (a_p0_places, .inl (G 1, 7, .inl (zA v_p0_places))), (a_p0_ways, .inl (G 2, 49, .inr (.inl (zL w9)))), (a_p0_waysThen, .inl (G 2, 49, .inr (.inl (zL v_p0_waysThen))))]) (va_runV (As := []) (rest := []) ⟨hx, hb, hml, hown, hts⟩ (c_X12_firstWays (l := l) (D := D) (G := G) (sz := H.size) (a_p0 := a_p0) (a_p0_st := a_p0_st) (a_p0_isKept := a_p0_isKept) (a_p0_brings := a_p0_brings) (a_p0_need := a_p0_need) (a_p0_draft := a_p0_draft) (a_p0_dStir := a_p0_dStir) (a_p0_dNeed := a_p0_dNeed) (a_p0_tape := a_p0_tape) (a_p0_places := a_p0_places) (a_p0_stirred := a_p0_stirred) (a_p0_ways := a_p0_ways) (a_p0_waysThen := a_p0_waysThen) (a_p0_stays := a_p0_stays) (a_p0_fewest := a_p0_fewest) (a_p0_bowls := a_p0_bowls) (a_p0_has := a_p0_has) (a_p0_goesOn := a_p0_goesOn) (a_p0_isThere := a_p0_isThere) (a_p0_isThereThen := a_p0_isThereThen) (a_p0_bestRow := a_p0_bestRow) (a_p0_lanes := a_p0_lanes) (a_p0_sizes := a_p0_sizes) (a_p0_cells := a_p0_cells) (i_p0_seats := i_p0_seats) (i_p0_stirs := i_p0_stirs) (i_p0_dSeats := i_p0_dSeats) (i_p0_dStirs := i_p0_dStirs) (i_p0_told := i_p0_told) (i_p0_highest := i_p0_highest) (i_p0_taped := i_p0_taped) (i_p0_pos := i_p0_pos) (i_p0_from := i_p0_from) (i_p0_sort := i_p0_sort) (i_p0_value := i_p0_value) (i_p0_fault := i_p0_fault) (i_p0_wrongAt := i_p0_wrongAt) (i_p0_torn := i_p0_torn) (v_p0_st := v_p0_st) (v_p0_ways := v_p0_ways) (o_v_p0_ways := w9) (hf := hcall)) (cwV 0 hts gX12_chance_X12_firstWays rfl rfl rfl hdV_yX12_firstWays_RX12 ⟨Nat.le_of_ble_eq_true rfl, Nat.le_of_ble_eq_true rfl⟩) (preG_V (ci := 12) (q := (RX12, TX12, 37)) (hP.sub [0, 1, 4] rfl) (hD.sub [0, 1, 4] rfl rfl) hK rfl rfl) rfl rfl hl.1 rfl (lv_room (Nat.le_of_ble_eq_true rfl)) dX12_chance_43 ⟨Nat.le_of_ble_eq_true rfl, Nat.le_of_ble_eq_true rfl⟩) hP hD hS hA [0, 1, 4] rfl rfl rfl (fun H locs hP hD hS => ?_)
          clear hcall
          refine lv_iconst (v := Int32.ofInt (0 : Int)) hx hb dX12_chance_46 (by decide) ?_
          refine z_topi (fun z10 ez => ?_)
          replace hf := bnd_s hf ez
          clear ez
          refine lv_istore (lv' := [(4, .int (Int32.ofInt z10)), (0, .ref a_p0), (1, .int (Int32.ofInt x1)), (2, .int (Int32.ofInt x2)), (3, .int (Int32.ofInt x3))]) hx hb dX12_chance_47 hl (by decide) rfl (fun ls hl => ?_)
          have hq := jn_i hf
          clear hf
          obtain ⟨J14, eJ14, hf⟩ := hq
          have hJ14 : ∀ (w11 : (Int → Int)) (w12 : (Int → Int)) (w13 : (Int → Int)) (ls : Array Slot) (H : Heap) (locs : List Loc), lv_has ls 7 [(0, .ref a_p0), (1, .int (Int32.ofInt x1)), (2, .int (Int32.ofInt x2)), (3, .int (Int32.ofInt x3))] → va_P D vwCl [(a_p0, .inr (12, [.ref a_p0_st, .ref a_p0_isKept, .int (Int32.ofInt i_p0_seats), .int (Int32.ofInt i_p0_stirs), .ref a_p0_brings, .ref a_p0_need, .ref a_p0_draft, .int (Int32.ofInt i_p0_dSeats), .int (Int32.ofInt i_p0_dStirs), .ref a_p0_dStir, .ref a_p0_dNeed, .int (Int32.ofInt i_p0_told), .int (Int32.ofInt i_p0_highest), .ref a_p0_tape, .int (Int32.ofInt i_p0_taped), .int (Int32.ofInt i_p0_pos), .int (Int32.ofInt i_p0_from), .int (Int32.ofInt i_p0_sort), .int (Int32.ofInt i_p0_value), .int (Int32.ofInt i_p0_fault), .int (Int32.ofInt i_p0_wrongAt), .ref a_p0_places, .ref a_p0_stirred, .ref a_p0_ways, .ref a_p0_waysThen, .ref a_p0_stays, .ref a_p0_fewest, .ref a_p0_bowls, .ref a_p0_has, .ref a_p0_goesOn, .ref a_p0_isThere, .ref a_p0_isThereThen, .ref a_p0_bestRow, .ref a_p0_lanes, .ref a_p0_sizes, .ref a_p0_cells, .int (Int32.ofInt i_p0_torn)])), (a_p0_st, .inl (G 1, 152, .inl (zA v_p0_st))), (a_p0_brings, .inl (G 1, 35, .inl (zA v_p0_brings))), (a_p0_places, .inl (G 1, 7, .inl (zA w11))), (a_p0_ways, .inl (G 2, 49, .inr (.inl (zL w12)))), (a_p0_waysThen, .inl (G 2, 49, .inr (.inl (zL w13))))] H → va_D A [(a_p0, .inr (12, [.ref a_p0_st, .ref a_p0_isKept, .int (Int32.ofInt i_p0_seats), .int (Int32.ofInt i_p0_stirs), .ref a_p0_brings, .ref a_p0_need, .ref a_p0_draft, .int (Int32.ofInt i_p0_dSeats), .int (Int32.ofInt i_p0_dStirs), .ref a_p0_dStir, .ref a_p0_dNeed, .int (Int32.ofInt i_p0_told), .int (Int32.ofInt i_p0_highest), .ref a_p0_tape, .int (Int32.ofInt i_p0_taped), .int (Int32.ofInt i_p0_pos), .int (Int32.ofInt i_p0_from), .int (Int32.ofInt i_p0_sort), .int (Int32.ofInt i_p0_value), .int (Int32.ofInt i_p0_fault), .int (Int32.ofInt i_p0_wrongAt), .ref a_p0_places, .ref a_p0_stirred, .ref a_p0_ways, .ref a_p0_waysThen, .ref a_p0_stays, .ref a_p0_fewest, .ref a_p0_bowls, .ref a_p0_has, .ref a_p0_goesOn, .ref a_p0_isThere, .ref a_p0_isThereThen, .ref a_p0_bestRow, .ref a_p0_lanes, .ref a_p0_sizes, .ref a_p0_cells, .int (Int32.ofInt i_p0_torn)])), (a_p0_st, .inl (G 1, 152, .inl (zA v_p0_st))), (a_p0_brings, .inl (G 1, 35, .inl (zA v_p0_brings))), (a_p0_places, .inl (G 1, 7, .inl (zA w11))), (a_p0_ways, .inl (G 2, 49, .inr (.inl (zL w12)))), (a_p0_waysThen, .inl (G 2, 49, .inr (.inl (zL w13))))] → va_S A s.heap H locs → J14 w11 w12 w13 = some (r, o_v_p0_places, o_v_p0_ways, o_v_p0_waysThen) → W p l e rm_X12_chance s m ([.ref a_p0, .int (Int32.ofInt x1), .int (Int32.ofInt x2), .int (Int32.ofInt x3)] : List Value).toArray below meth c H locs 0 0 Q (F0 m 66 ls []) := by
            clear hf hl hP hD hS
            intro w11 w12 w13 ls H locs hl hP hD hS hf
            replace hf := jn3_s eJ14 hf
            refine lv_lconst (v := Int64.ofInt (0 : Int)) hx hb dX12_chance_66 (by decide) ?_
            refine z_topl (fun z15 ez => ?_)
            replace hf := bnd_s hf ez
            clear ez
            refine lv_lstore (lv' := [(4, .long (Int64.ofInt z15)), (0, .ref a_p0), (1, .int (Int32.ofInt x1)), (2, .int (Int32.ofInt x2)), (3, .int (Int32.ofInt x3))]) hx hb dX12_chance_67 hl (by decide) rfl (fun ls hl => ?_)
            refine lv_iconst (v := Int32.ofInt (0 : Int)) hx hb dX12_chance_69 (by decide) ?_
            refine z_topi (fun z16 ez => ?_)
            replace hf := bnd_s hf ez
            clear ez
            refine lv_istore (lv' := [(6, .int (Int32.ofInt z16)), (4, .long (Int64.ofInt z15)), (0, .ref a_p0), (1, .int (Int32.ofInt x1)), (2, .int (Int32.ofInt x2)), (3, .int (Int32.ofInt x3))]) hx hb dX12_chance_70 hl (by decide) rfl (fun ls hl => ?_)
            have hq := jn_i hf
            clear hf
            obtain ⟨J18, eJ18, hf⟩ := hq
            have hJ18 : ∀ (z17 : Int) (ls : Array Slot) (H : Heap) (locs : List Loc), lv_has ls 7 [(4, .long (Int64.ofInt z17)), (0, .ref a_p0), (2, .int (Int32.ofInt x2)), (3, .int (Int32.ofInt x3))] → va_P D vwCl [(a_p0, .inr (12, [.ref a_p0_st, .ref a_p0_isKept, .int (Int32.ofInt i_p0_seats), .int (Int32.ofInt i_p0_stirs), .ref a_p0_brings, .ref a_p0_need, .ref a_p0_draft, .int (Int32.ofInt i_p0_dSeats), .int (Int32.ofInt i_p0_dStirs), .ref a_p0_dStir, .ref a_p0_dNeed, .int (Int32.ofInt i_p0_told), .int (Int32.ofInt i_p0_highest), .ref a_p0_tape, .int (Int32.ofInt i_p0_taped), .int (Int32.ofInt i_p0_pos), .int (Int32.ofInt i_p0_from), .int (Int32.ofInt i_p0_sort), .int (Int32.ofInt i_p0_value), .int (Int32.ofInt i_p0_fault), .int (Int32.ofInt i_p0_wrongAt), .ref a_p0_places, .ref a_p0_stirred, .ref a_p0_ways, .ref a_p0_waysThen, .ref a_p0_stays, .ref a_p0_fewest, .ref a_p0_bowls, .ref a_p0_has, .ref a_p0_goesOn, .ref a_p0_isThere, .ref a_p0_isThereThen, .ref a_p0_bestRow, .ref a_p0_lanes, .ref a_p0_sizes, .ref a_p0_cells, .int (Int32.ofInt i_p0_torn)])), (a_p0_st, .inl (G 1, 152, .inl (zA v_p0_st))), (a_p0_brings, .inl (G 1, 35, .inl (zA v_p0_brings))), (a_p0_places, .inl (G 1, 7, .inl (zA w11))), (a_p0_ways, .inl (G 2, 49, .inr (.inl (zL w12)))), (a_p0_waysThen, .inl (G 2, 49, .inr (.inl (zL w13))))] H → va_D A [(a_p0, .inr (12, [.ref a_p0_st, .ref a_p0_isKept, .int (Int32.ofInt i_p0_seats), .int (Int32.ofInt i_p0_stirs), .ref a_p0_brings, .ref a_p0_need, .ref a_p0_draft, .int (Int32.ofInt i_p0_dSeats), .int (Int32.ofInt i_p0_dStirs), .ref a_p0_dStir, .ref a_p0_dNeed, .int (Int32.ofInt i_p0_told), .int (Int32.ofInt i_p0_highest), .ref a_p0_tape, .int (Int32.ofInt i_p0_taped), .int (Int32.ofInt i_p0_pos), .int (Int32.ofInt i_p0_from), .int (Int32.ofInt i_p0_sort), .int (Int32.ofInt i_p0_value), .int (Int32.ofInt i_p0_fault), .int (Int32.ofInt i_p0_wrongAt), .ref a_p0_places, .ref a_p0_stirred, .ref a_p0_ways, .ref a_p0_waysThen, .ref a_p0_stays, .ref a_p0_fewest, .ref a_p0_bowls, .ref a_p0_has, .ref a_p0_goesOn, .ref a_p0_isThere, .ref a_p0_isThereThen, .ref a_p0_bestRow, .ref a_p0_lanes, .ref a_p0_sizes, .ref a_p0_cells, .int (Int32.ofInt i_p0_torn)])), (a_p0_st, .inl (G 1, 152, .inl (zA v_p0_st))), (a_p0_brings, .inl (G 1, 35, .inl (zA v_p0_brings))), (a_p0_places, .inl (G 1, 7, .inl (zA w11))), (a_p0_ways, .inl (G 2, 49, .inr (.inl (zL w12)))), (a_p0_waysThen, .inl (G 2, 49, .inr (.inl (zL w13))))] → va_S A s.heap H locs → J18 z17 = some (r, o_v_p0_places, o_v_p0_ways, o_v_p0_waysThen) → W p l e rm_X12_chance s m ([.ref a_p0, .int (Int32.ofInt x1), .int (Int32.ofInt x2), .int (Int32.ofInt x3)] : List Value).toArray below meth c H locs 0 0 Q (F0 m 110 ls []) := by
              clear hf hl hP hD hS
              intro z17 ls H locs hl hP hD hS hf
              replace hf := jn1_s eJ18 hf
              refine lv_lload hx hb dX12_chance_110 (lv_at hl 0 rfl) ?_
              refine lv_aload_n hx hb dX12_chance_112 rfl (lv_at hl 1 rfl) ?_
              refine lv_aload_n hx hb dX12_chance_113 rfl (lv_at hl 1 rfl) ?_
              refine va_get (D := D) (ci := 12) (v := .int (Int32.ofInt i_p0_stirs)) (C := RX12) (T := TX12) (N := 37) hx hb hts inX12_chance_X12 hown hK hP 0 rfl rfl 3 (by decide) (hts _ mwX12_chance_3) (fun _ h9 => h9) rfl dX12_chance_114 ?_
              refine lv_i2l (v := Int64.ofInt i_p0_stirs) hx hb dX12_chance_117 (z_i2l hr7) ?_
              refine lv_iload_n hx hb dX12_chance_118 rfl (lv_at hl 2 rfl) ?_
              have hq := bd1_s hf
              clear hf
              obtain ⟨z19, hcall, hf⟩ := hq
              refine gnL (va_runV (As := [.long (Int64.ofInt i_p0_stirs), .int (Int32.ofInt x2)]) (rest := [.long (Int64.ofInt z17)]) ⟨hx, hb, hml, hown, hts⟩ (c_X12_power (l := l) (D := D) (G := G) (sz := H.size) (a_p0 := a_p0) (a_p0_st := a_p0_st) (a_p0_isKept := a_p0_isKept) (a_p0_brings := a_p0_brings) (a_p0_need := a_p0_need) (a_p0_draft := a_p0_draft) (a_p0_dStir := a_p0_dStir) (a_p0_dNeed := a_p0_dNeed) (a_p0_tape := a_p0_tape) (a_p0_places := a_p0_places) (a_p0_stirred := a_p0_stirred) (a_p0_ways := a_p0_ways) (a_p0_waysThen := a_p0_waysThen) (a_p0_stays := a_p0_stays) (a_p0_fewest := a_p0_fewest) (a_p0_bowls := a_p0_bowls) (a_p0_has := a_p0_has) (a_p0_goesOn := a_p0_goesOn) (a_p0_isThere := a_p0_isThere) (a_p0_isThereThen := a_p0_isThereThen) (a_p0_bestRow := a_p0_bestRow) (a_p0_lanes := a_p0_lanes) (a_p0_sizes := a_p0_sizes) (a_p0_cells := a_p0_cells) (i_p0_seats := i_p0_seats) (i_p0_stirs := i_p0_stirs) (i_p0_dSeats := i_p0_dSeats) (i_p0_dStirs := i_p0_dStirs) (i_p0_told := i_p0_told) (i_p0_highest := i_p0_highest) (i_p0_taped := i_p0_taped) (i_p0_pos := i_p0_pos) (i_p0_from := i_p0_from) (i_p0_sort := i_p0_sort) (i_p0_value := i_p0_value) (i_p0_fault := i_p0_fault) (i_p0_wrongAt := i_p0_wrongAt) (i_p0_torn := i_p0_torn) (x1 := i_p0_stirs) (x3 := x2) (r := z19) (hf := hcall)) (cwV 2 hts gX12_chance_X12_power rfl rfl rfl hdV_yX12_power_RX12 ⟨Nat.le_of_ble_eq_true rfl, Nat.le_of_ble_eq_true rfl⟩) (preG_V (ci := 12) (q := (RX12, TX12, 37)) (hP.sub [0] rfl) (hD.sub [0] rfl rfl) hK rfl rfl) rfl rfl hl.1 rfl (lv_room (Nat.le_of_ble_eq_true rfl)) dX12_chance_119 ⟨Nat.le_of_ble_eq_true rfl, Nat.le_of_ble_eq_true rfl⟩) hP hD hS hA [0] rfl (fun H locs hP hD hS => ?_)
              clear hcall
              refine lv_iload_n hx hb dX12_chance_122 rfl (lv_at hl 3 rfl) ?_
              have hq := bd1_s hf
              clear hf
              obtain ⟨z20, hcall, hf⟩ := hq
              refine gnL (va_runS (As := [.long (Int64.ofInt z17), .long (Int64.ofInt z19), .int (Int32.ofInt x3)]) (rest := []) ⟨hx, hb, hml, hown, hts⟩ (c_X12_lowest (l := l) (D := D) (G := G) (sz := H.size) (x0 := z17) (x2 := z19) (x4 := x3) (r := z20) (hf := hcall)) (va_cwS 3 hts gX12_chance_X12_lowest rfl rfl rfl (by decide +kernel) ⟨Nat.le_of_ble_eq_true rfl, Nat.le_of_ble_eq_true rfl⟩) (preG_S (hP.sub [] rfl) (hD.sub [] rfl rfl) hK) rfl rfl hl.1 rfl (lv_room (Nat.le_of_ble_eq_true rfl)) dX12_chance_123 ⟨Nat.le_of_ble_eq_true rfl, Nat.le_of_ble_eq_true rfl⟩) hP hD hS hA [] rfl (fun H locs hP hD hS => ?_)
              clear hcall
              obtain ⟨rfl, rfl, rfl, rfl⟩ := ou4 hf
              rw [hQ]
              exact W.lret hx hb hr (fun t ht hW => ⟨⟨_, (), rfl, rfl, by rw [ht]; exact hP, va_K.moved hW.alike hK, hD⟩, hS.F ht⟩) hS.2.2 dX12_chance_126
            have hq := lq2_i hf
            clear hf
            obtain ⟨B23, eB23, NB23, hf⟩ := hq
            have hB23 : ∀ (n : Nat) (z21 : Int) (z22 : Int) (ls : Array Slot) (H : Heap) (locs : List Loc), lv_has ls 7 [(6, .int (Int32.ofInt z21)), (4, .long (Int64.ofInt z22)), (0, .ref a_p0), (1, .int (Int32.ofInt x1)), (2, .int (Int32.ofInt x2)), (3, .int (Int32.ofInt x3))] → va_P D vwCl [(a_p0, .inr (12, [.ref a_p0_st, .ref a_p0_isKept, .int (Int32.ofInt i_p0_seats), .int (Int32.ofInt i_p0_stirs), .ref a_p0_brings, .ref a_p0_need, .ref a_p0_draft, .int (Int32.ofInt i_p0_dSeats), .int (Int32.ofInt i_p0_dStirs), .ref a_p0_dStir, .ref a_p0_dNeed, .int (Int32.ofInt i_p0_told), .int (Int32.ofInt i_p0_highest), .ref a_p0_tape, .int (Int32.ofInt i_p0_taped), .int (Int32.ofInt i_p0_pos), .int (Int32.ofInt i_p0_from), .int (Int32.ofInt i_p0_sort), .int (Int32.ofInt i_p0_value), .int (Int32.ofInt i_p0_fault), .int (Int32.ofInt i_p0_wrongAt), .ref a_p0_places, .ref a_p0_stirred, .ref a_p0_ways, .ref a_p0_waysThen, .ref a_p0_stays, .ref a_p0_fewest, .ref a_p0_bowls, .ref a_p0_has, .ref a_p0_goesOn, .ref a_p0_isThere, .ref a_p0_isThereThen, .ref a_p0_bestRow, .ref a_p0_lanes, .ref a_p0_sizes, .ref a_p0_cells, .int (Int32.ofInt i_p0_torn)])), (a_p0_st, .inl (G 1, 152, .inl (zA v_p0_st))), (a_p0_brings, .inl (G 1, 35, .inl (zA v_p0_brings))), (a_p0_places, .inl (G 1, 7, .inl (zA w11))), (a_p0_ways, .inl (G 2, 49, .inr (.inl (zL w12)))), (a_p0_waysThen, .inl (G 2, 49, .inr (.inl (zL w13))))] H → va_D A [(a_p0, .inr (12, [.ref a_p0_st, .ref a_p0_isKept, .int (Int32.ofInt i_p0_seats), .int (Int32.ofInt i_p0_stirs), .ref a_p0_brings, .ref a_p0_need, .ref a_p0_draft, .int (Int32.ofInt i_p0_dSeats), .int (Int32.ofInt i_p0_dStirs), .ref a_p0_dStir, .ref a_p0_dNeed, .int (Int32.ofInt i_p0_told), .int (Int32.ofInt i_p0_highest), .ref a_p0_tape, .int (Int32.ofInt i_p0_taped), .int (Int32.ofInt i_p0_pos), .int (Int32.ofInt i_p0_from), .int (Int32.ofInt i_p0_sort), .int (Int32.ofInt i_p0_value), .int (Int32.ofInt i_p0_fault), .int (Int32.ofInt i_p0_wrongAt), .ref a_p0_places, .ref a_p0_stirred, .ref a_p0_ways, .ref a_p0_waysThen, .ref a_p0_stays, .ref a_p0_fewest, .ref a_p0_bowls, .ref a_p0_has, .ref a_p0_goesOn, .ref a_p0_isThere, .ref a_p0_isThereThen, .ref a_p0_bestRow, .ref a_p0_lanes, .ref a_p0_sizes, .ref a_p0_cells, .int (Int32.ofInt i_p0_torn)])), (a_p0_st, .inl (G 1, 152, .inl (zA v_p0_st))), (a_p0_brings, .inl (G 1, 35, .inl (zA v_p0_brings))), (a_p0_places, .inl (G 1, 7, .inl (zA w11))), (a_p0_ways, .inl (G 2, 49, .inr (.inl (zL w12)))), (a_p0_waysThen, .inl (G 2, 49, .inr (.inl (zL w13))))] → va_S A s.heap H locs → lq2 B23 n z21 z22 = some (r, o_v_p0_places, o_v_p0_ways, o_v_p0_waysThen) → W p l e rm_X12_chance s m ([.ref a_p0, .int (Int32.ofInt x1), .int (Int32.ofInt x2), .int (Int32.ofInt x3)] : List Value).toArray below meth c H locs 0 0 Q (F0 m 72 ls []) := by
              clear hf hl hP hD hS
              intro n
              induction n with
              | zero =>
                intro z21 z22 ls H locs hl hP hD hS hf
                exact (lq2_0 hf).elim
              | succ n ih72 =>
                intro z21 z22 ls H locs hl hP hD hS hf
                replace hf := lq2_s eB23 hf
                unfold B_X12_chance_72 at hf
                refine lv_iload hx hb dX12_chance_72 (lv_at hl 0 rfl) ?_
                refine lv_bipush (v := Int32.ofInt (49 : Int)) hx hb dX12_chance_74 (by decide) ?_
                have hr23 := ck_c hf
                replace hf := ck_r hf
                refine lv_icmp_ge (tgt := 110) hx hb dX12_chance_76 (by decide) (fun cc => ?_) (fun cc => ?_)
                ·
                  replace hf := ite_t ((z_le (by decide) hr23).mp cc) hf
                  clear cc
                  exact hJ18 _ _ _ _ (lv_sub hl [1, 2, 4, 5] rfl) hP hD hS hf
                ·
                  replace hf := ite_f (fun h9 => cc ((z_le (by decide) hr23).mpr h9)) hf
                  clear cc
                  refine lv_lload hx hb dX12_chance_79 (lv_at hl 1 rfl) ?_
                  refine lv_iload hx hb dX12_chance_81 (lv_at hl 0 rfl) ?_
                  refine lv_bipush (v := Int32.ofInt (7 : Int)) hx hb dX12_chance_83 (by decide) ?_
                  have hc := ck_c hf
                  replace hf := ck_r hf
                  refine lv_irem hx hb dX12_chance_85 (z_nz hc) (z_ci (z_rem hc) ?_)
                  clear hc
                  refine lv_iload_n hx hb dX12_chance_86 rfl (lv_at hl 3 rfl) ?_
                  have hr24 := ck_c hf
                  replace hf := ck_r hf
                  have hr25 := ck_c hf
                  replace hf := ck_r hf
                  refine lv_icmp_ne (tgt := 100) hx hb dX12_chance_87 (by decide) (fun cc => ?_) (fun cc => ?_)
                  ·
                    replace hf := ite_f (fun h9 => cc ((z_eq hr24 hr25).mpr h9)) hf
                    clear cc
                    refine lv_lconst (v := Int64.ofInt (0 : Int)) hx hb dX12_chance_100 (by decide) ?_
                    refine lv_ladd hx hb dX12_chance_101 (z_cl (Int64.ofInt_add z22 (0 : Int)) ?_)
                    refine z_topl (fun z27 ez => ?_)
                    replace hf := bnd_s hf ez
                    clear ez
                    refine lv_lstore (lv' := [(4, .long (Int64.ofInt z27)), (6, .int (Int32.ofInt z21)), (0, .ref a_p0), (1, .int (Int32.ofInt x1)), (2, .int (Int32.ofInt x2)), (3, .int (Int32.ofInt x3))]) hx hb dX12_chance_102 hl (by decide) rfl (fun ls hl => ?_)
                    obtain ⟨z28, ez⟩ : ∃ y : Int, y = (z21 + (1 : Int)) := ⟨_, rfl⟩
                    replace hf := bnd_s hf ez
                    refine lv_iinc (v := Int32.ofInt z28) (lv' := [(6, .int (Int32.ofInt z28)), (4, .long (Int64.ofInt z27)), (0, .ref a_p0), (1, .int (Int32.ofInt x1)), (2, .int (Int32.ofInt x2)), (3, .int (Int32.ofInt x3))]) hx hb dX12_chance_104 hl (k := 1) rfl (by rw [ez]; exact (Int32.ofInt_add _ _).symm) (by decide) rfl (fun ls hl => ?_)
                    clear ez
                    refine lv_goto (tgt := 72) hx hb dX12_chance_107 (by decide) ?_
                    exact ih72 _ _ _ _ _ (lv_sub hl [0, 1, 2, 3, 4, 5] rfl) hP hD hS hf
                  ·
                    replace hf := ite_t ((z_eq hr24 hr25).mp cc) hf
                    clear cc
                    refine lv_aload_n hx hb dX12_chance_90 rfl (lv_at hl 2 rfl) ?_
                    refine va_get (D := D) (ci := 12) (v := .ref a_p0_ways) (C := RX12) (T := TX12) (N := 37) hx hb hts inX12_chance_X12 hown hK hP 0 rfl rfl 23 (by decide) (hts _ mwX12_chance_6) (fun _ h9 => h9) rfl dX12_chance_91 ?_
                    refine lv_iload hx hb dX12_chance_94 (lv_at hl 0 rfl) ?_
                    have hc := ck_c hf
                    replace hf := ck_r hf
                    refine va_lald hx hb hK hP 4 2 rfl rfl (z_ix_in hc) dX12_chance_96 (z_cl (z_aldL w12 hc) ?_)
                    clear hc
                    refine lv_goto (tgt := 101) hx hb dX12_chance_97 (by decide) ?_
                    refine lv_ladd hx hb dX12_chance_101 (z_cl (Int64.ofInt_add z22 (w12 z21)) ?_)
                    refine z_topl (fun z29 ez => ?_)
                    replace hf := bnd_s hf ez
                    clear ez
                    refine lv_lstore (lv' := [(4, .long (Int64.ofInt z29)), (6, .int (Int32.ofInt z21)), (0, .ref a_p0), (1, .int (Int32.ofInt x1)), (2, .int (Int32.ofInt x2)), (3, .int (Int32.ofInt x3))]) hx hb dX12_chance_102 hl (by decide) rfl (fun ls hl => ?_)
                    obtain ⟨z30, ez⟩ : ∃ y : Int, y = (z21 + (1 : Int)) := ⟨_, rfl⟩
                    replace hf := bnd_s hf ez
                    refine lv_iinc (v := Int32.ofInt z30) (lv' := [(6, .int (Int32.ofInt z30)), (4, .long (Int64.ofInt z29)), (0, .ref a_p0), (1, .int (Int32.ofInt x1)), (2, .int (Int32.ofInt x2)), (3, .int (Int32.ofInt x3))]) hx hb dX12_chance_104 hl (k := 1) rfl (by rw [ez]; exact (Int32.ofInt_add _ _).symm) (by decide) rfl (fun ls hl => ?_)
                    clear ez
                    refine lv_goto (tgt := 72) hx hb dX12_chance_107 (by decide) ?_
                    exact ih72 _ _ _ _ _ (lv_sub hl [0, 1, 2, 3, 4, 5] rfl) hP hD hS hf
            exact hB23 _ _ _ _ _ _ (lv_sub hl [0, 1, 2, 3, 4, 5] rfl) hP hD hS hf
          have hq := lq4_i hf
          clear hf
          obtain ⟨B35, eB35, NB35, hf⟩ := hq
          have hB35 : ∀ (n : Nat) (z31 : Int) (w32 : (Int → Int)) (w33 : (Int → Int)) (w34 : (Int → Int)) (ls : Array Slot) (H : Heap) (locs : List Loc), lv_has ls 7 [(4, .int (Int32.ofInt z31)), (0, .ref a_p0), (1, .int (Int32.ofInt x1)), (2, .int (Int32.ofInt x2)), (3, .int (Int32.ofInt x3))] → va_P D vwCl [(a_p0, .inr (12, [.ref a_p0_st, .ref a_p0_isKept, .int (Int32.ofInt i_p0_seats), .int (Int32.ofInt i_p0_stirs), .ref a_p0_brings, .ref a_p0_need, .ref a_p0_draft, .int (Int32.ofInt i_p0_dSeats), .int (Int32.ofInt i_p0_dStirs), .ref a_p0_dStir, .ref a_p0_dNeed, .int (Int32.ofInt i_p0_told), .int (Int32.ofInt i_p0_highest), .ref a_p0_tape, .int (Int32.ofInt i_p0_taped), .int (Int32.ofInt i_p0_pos), .int (Int32.ofInt i_p0_from), .int (Int32.ofInt i_p0_sort), .int (Int32.ofInt i_p0_value), .int (Int32.ofInt i_p0_fault), .int (Int32.ofInt i_p0_wrongAt), .ref a_p0_places, .ref a_p0_stirred, .ref a_p0_ways, .ref a_p0_waysThen, .ref a_p0_stays, .ref a_p0_fewest, .ref a_p0_bowls, .ref a_p0_has, .ref a_p0_goesOn, .ref a_p0_isThere, .ref a_p0_isThereThen, .ref a_p0_bestRow, .ref a_p0_lanes, .ref a_p0_sizes, .ref a_p0_cells, .int (Int32.ofInt i_p0_torn)])), (a_p0_st, .inl (G 1, 152, .inl (zA v_p0_st))), (a_p0_brings, .inl (G 1, 35, .inl (zA v_p0_brings))), (a_p0_places, .inl (G 1, 7, .inl (zA w32))), (a_p0_ways, .inl (G 2, 49, .inr (.inl (zL w33)))), (a_p0_waysThen, .inl (G 2, 49, .inr (.inl (zL w34))))] H → va_D A [(a_p0, .inr (12, [.ref a_p0_st, .ref a_p0_isKept, .int (Int32.ofInt i_p0_seats), .int (Int32.ofInt i_p0_stirs), .ref a_p0_brings, .ref a_p0_need, .ref a_p0_draft, .int (Int32.ofInt i_p0_dSeats), .int (Int32.ofInt i_p0_dStirs), .ref a_p0_dStir, .ref a_p0_dNeed, .int (Int32.ofInt i_p0_told), .int (Int32.ofInt i_p0_highest), .ref a_p0_tape, .int (Int32.ofInt i_p0_taped), .int (Int32.ofInt i_p0_pos), .int (Int32.ofInt i_p0_from), .int (Int32.ofInt i_p0_sort), .int (Int32.ofInt i_p0_value), .int (Int32.ofInt i_p0_fault), .int (Int32.ofInt i_p0_wrongAt), .ref a_p0_places, .ref a_p0_stirred, .ref a_p0_ways, .ref a_p0_waysThen, .ref a_p0_stays, .ref a_p0_fewest, .ref a_p0_bowls, .ref a_p0_has, .ref a_p0_goesOn, .ref a_p0_isThere, .ref a_p0_isThereThen, .ref a_p0_bestRow, .ref a_p0_lanes, .ref a_p0_sizes, .ref a_p0_cells, .int (Int32.ofInt i_p0_torn)])), (a_p0_st, .inl (G 1, 152, .inl (zA v_p0_st))), (a_p0_brings, .inl (G 1, 35, .inl (zA v_p0_brings))), (a_p0_places, .inl (G 1, 7, .inl (zA w32))), (a_p0_ways, .inl (G 2, 49, .inr (.inl (zL w33)))), (a_p0_waysThen, .inl (G 2, 49, .inr (.inl (zL w34))))] → va_S A s.heap H locs → lq4 B35 n z31 w32 w33 w34 = some (r, o_v_p0_places, o_v_p0_ways, o_v_p0_waysThen) → W p l e rm_X12_chance s m ([.ref a_p0, .int (Int32.ofInt x1), .int (Int32.ofInt x2), .int (Int32.ofInt x3)] : List Value).toArray below meth c H locs 0 0 Q (F0 m 49 ls []) := by
            clear hf hl hP hD hS
            intro n
            induction n with
            | zero =>
              intro z31 w32 w33 w34 ls H locs hl hP hD hS hf
              exact (lq4_0 hf).elim
            | succ n ih49 =>
              intro z31 w32 w33 w34 ls H locs hl hP hD hS hf
              replace hf := lq4_s eB35 hf
              unfold B_X12_chance_49 at hf
              refine lv_iload hx hb dX12_chance_49 (lv_at hl 0 rfl) ?_
              refine lv_iload_n hx hb dX12_chance_51 rfl (lv_at hl 3 rfl) ?_
              have hr35 := ck_c hf
              replace hf := ck_r hf
              refine lv_icmp_ge (tgt := 66) hx hb dX12_chance_52 (by decide) (fun cc => ?_) (fun cc => ?_)
              ·
                replace hf := ite_t ((z_le hr2 hr35).mp cc) hf
                clear cc
                exact hJ14 _ _ _ _ _ _ (lv_sub hl [1, 2, 3, 4] rfl) hP hD hS hf
              ·
                replace hf := ite_f (fun h9 => cc ((z_le hr2 hr35).mpr h9)) hf
                clear cc
                refine lv_aload_n hx hb dX12_chance_55 rfl (lv_at hl 1 rfl) ?_
                refine lv_iconst (v := Int32.ofInt (0 : Int)) hx hb dX12_chance_56 (by decide) ?_
                have hq := bd3_s hf
                clear hf
                obtain ⟨w37, w38, w39, hcall, hf⟩ := hq
                refine gsV (ws' := [(a_p0, .inr (12, [.ref a_p0_st, .ref a_p0_isKept, .int (Int32.ofInt i_p0_seats), .int (Int32.ofInt i_p0_stirs), .ref a_p0_brings, .ref a_p0_need, .ref a_p0_draft, .int (Int32.ofInt i_p0_dSeats), .int (Int32.ofInt i_p0_dStirs), .ref a_p0_dStir, .ref a_p0_dNeed, .int (Int32.ofInt i_p0_told), .int (Int32.ofInt i_p0_highest), .ref a_p0_tape, .int (Int32.ofInt i_p0_taped), .int (Int32.ofInt i_p0_pos), .int (Int32.ofInt i_p0_from), .int (Int32.ofInt i_p0_sort), .int (Int32.ofInt i_p0_value), .int (Int32.ofInt i_p0_fault), .int (Int32.ofInt i_p0_wrongAt), .ref a_p0_places, .ref a_p0_stirred, .ref a_p0_ways, .ref a_p0_waysThen, .ref a_p0_stays, .ref a_p0_fewest, .ref a_p0_bowls, .ref a_p0_has, .ref a_p0_goesOn, .ref a_p0_isThere, .ref a_p0_isThereThen, .ref a_p0_bestRow, .ref a_p0_lanes, .ref a_p0_sizes, .ref a_p0_cells, .int (Int32.ofInt i_p0_torn)])), (a_p0_st, .inl (G 1, 152, .inl (zA v_p0_st))), (a_p0_brings, .inl (G 1, 35, .inl (zA v_p0_brings))), (a_p0_places, .inl (G 1, 7, .inl (zA w37))), (a_p0_ways, .inl (G 2, 49, .inr (.inl (zL w38)))), (a_p0_waysThen, .inl (G 2, 49, .inr (.inl (zL w39))))]) (va_runV (As := [.int (Int32.ofInt (0 : Int))]) (rest := []) ⟨hx, hb, hml, hown, hts⟩ (c_X12_nextWays (l := l) (D := D) (G := G) (sz := H.size) (a_p0 := a_p0) (a_p0_st := a_p0_st) (a_p0_isKept := a_p0_isKept) (a_p0_brings := a_p0_brings) (a_p0_need := a_p0_need) (a_p0_draft := a_p0_draft) (a_p0_dStir := a_p0_dStir) (a_p0_dNeed := a_p0_dNeed) (a_p0_tape := a_p0_tape) (a_p0_places := a_p0_places) (a_p0_stirred := a_p0_stirred) (a_p0_ways := a_p0_ways) (a_p0_waysThen := a_p0_waysThen) (a_p0_stays := a_p0_stays) (a_p0_fewest := a_p0_fewest) (a_p0_bowls := a_p0_bowls) (a_p0_has := a_p0_has) (a_p0_goesOn := a_p0_goesOn) (a_p0_isThere := a_p0_isThere) (a_p0_isThereThen := a_p0_isThereThen) (a_p0_bestRow := a_p0_bestRow) (a_p0_lanes := a_p0_lanes) (a_p0_sizes := a_p0_sizes) (a_p0_cells := a_p0_cells) (i_p0_seats := i_p0_seats) (i_p0_stirs := i_p0_stirs) (i_p0_dSeats := i_p0_dSeats) (i_p0_dStirs := i_p0_dStirs) (i_p0_told := i_p0_told) (i_p0_highest := i_p0_highest) (i_p0_taped := i_p0_taped) (i_p0_pos := i_p0_pos) (i_p0_from := i_p0_from) (i_p0_sort := i_p0_sort) (i_p0_value := i_p0_value) (i_p0_fault := i_p0_fault) (i_p0_wrongAt := i_p0_wrongAt) (i_p0_torn := i_p0_torn) (v_p0_st := v_p0_st) (v_p0_brings := v_p0_brings) (v_p0_places := w32) (v_p0_ways := w33) (v_p0_waysThen := w34) (x1 := (0 : Int)) (o_v_p0_places := w37) (o_v_p0_ways := w38) (o_v_p0_waysThen := w39) (hf := hcall)) (cwV 1 hts gX12_chance_X12_nextWays rfl rfl rfl hdV_yX12_nextWays_RX12 ⟨Nat.le_of_ble_eq_true rfl, Nat.le_of_ble_eq_true rfl⟩) (preG_V (ci := 12) (q := (RX12, TX12, 37)) (hP.sub [0, 1, 2, 3, 4, 5] rfl) (hD.sub [0, 1, 2, 3, 4, 5] rfl rfl) hK rfl rfl) rfl rfl hl.1 rfl (lv_room (Nat.le_of_ble_eq_true rfl)) dX12_chance_57 ⟨Nat.le_of_ble_eq_true rfl, Nat.le_of_ble_eq_true rfl⟩) hP hD hS hA [0, 1, 2, 3, 4, 5] rfl rfl rfl (fun H locs hP hD hS => ?_)
                clear hcall
                obtain ⟨z40, ez⟩ : ∃ y : Int, y = (z31 + (1 : Int)) := ⟨_, rfl⟩
                replace hf := bnd_s hf ez
                refine lv_iinc (v := Int32.ofInt z40) (lv' := [(4, .int (Int32.ofInt z40)), (0, .ref a_p0), (1, .int (Int32.ofInt x1)), (2, .int (Int32.ofInt x2)), (3, .int (Int32.ofInt x3))]) hx hb dX12_chance_60 hl (k := 0) rfl (by rw [ez]; exact (Int32.ofInt_add _ _).symm) (by decide) rfl (fun ls hl => ?_)
                clear ez
                refine lv_goto (tgt := 49) hx hb dX12_chance_63 (by decide) ?_
                exact ih49 _ _ _ _ _ _ _ (lv_sub hl [0, 1, 2, 3, 4] rfl) hP hD hS hf
          exact hB35 _ _ _ _ _ _ _ _ (lv_sub hl [0, 1, 2, 3, 4] rfl) hP hD hS hf
        ·
          replace hf := ite_t ((z_eq0 hr7).mp cc) hf
          clear cc
          refine lv_ldc2 (v := (-2 : Int64)) hx hb hown (hts _ mwX12_chance_8) dX12_chance_38 (z_cl (show Int64.ofInt (-2 : Int) = _ from by decide) ?_)
          obtain ⟨rfl, rfl, rfl, rfl⟩ := ou4 hf
          rw [hQ]
          exact W.lret hx hb hr (fun t ht hW => ⟨⟨_, (), rfl, rfl, by rw [ht]; exact hP, va_K.moved hW.alike hK, hD⟩, hS.F ht⟩) hS.2.2 dX12_chance_41
      ·
        replace hf := ite_t ((z_eq0 hr6).mp cc) hf
        clear cc
        refine lv_ldc2 (v := (-1 : Int64)) hx hb hown (hts _ mwX12_chance_0) dX12_chance_27 (z_cl (show Int64.ofInt (-1 : Int) = _ from by decide) ?_)
        obtain ⟨rfl, rfl, rfl, rfl⟩ := ou4 hf
        rw [hQ]
        exact W.lret hx hb hr (fun t ht hW => ⟨⟨_, (), rfl, rfl, by rw [ht]; exact hP, va_K.moved hW.alike hK, hD⟩, hS.F ht⟩) hS.2.2 dX12_chance_30

noncomputable def B_X12_lasts_61 (J16 : Int → Option (Int × (Int → Int) × (Int → Int) × (Int → Int))) (w10 : (Int → Int)) (again61 : Int → Int → Option (Int × (Int → Int) × (Int → Int) × (Int → Int))) (z19 : Int) (z20 : Int) : Option (Int × (Int → Int) × (Int → Int) × (Int → Int)) := (ck (z_r32 z19) (if (49 : Int) ≤ z19 then (J16 z20) else (ck (z_ix z19 49) (bnd (z20 + (w10 z19)) (fun (z23 : Int) => (bnd (z19 + (1 : Int)) (fun (z24 : Int) => (again61 z24 z23))))))))
noncomputable def B_X12_lasts_40 (x1 : Int) (J12 : (Int → Int) → (Int → Int) → (Int → Int) → Option (Int × (Int → Int) × (Int → Int) × (Int → Int))) (i_p0_seats : Int) (i_p0_stirs : Int) (v_p0_st : (Int → Int)) (v_p0_brings : (Int → Int)) (again40 : Int → (Int → Int) → (Int → Int) → (Int → Int) → Option (Int × (Int → Int) × (Int → Int) × (Int → Int))) (z25 : Int) (w26 : (Int → Int)) (w27 : (Int → Int)) (w28 : (Int → Int)) : Option (Int × (Int → Int) × (Int → Int) × (Int → Int)) := (ck (z_r32 z25) (if x1 ≤ z25 then (J12 w26 w27 w28) else (bd3 (f_X12_nextWays i_p0_seats i_p0_stirs v_p0_st v_p0_brings w26 w27 w28 (1 : Int)) (fun (w31 : (Int → Int)) (w32 : (Int → Int)) (w33 : (Int → Int)) => (bnd (z25 + (1 : Int)) (fun (z34 : Int) => (again40 z34 w31 w32 w33)))))))
noncomputable def f_X12_lasts (i_p0_seats : Int) (i_p0_stirs : Int) (v_p0_st : (Int → Int)) (v_p0_brings : (Int → Int)) (v_p0_places : (Int → Int)) (v_p0_ways : (Int → Int)) (v_p0_waysThen : (Int → Int)) (x1 : Int) (x2 : Int) : Option (Int × (Int → Int) × (Int → Int) × (Int → Int)) := (ck (z_r32 x1) (bd1 (f_X12_in x1 (0 : Int) (10 : Int)) (fun (z2 : Int) => (ck (z_r32 z2) (if z2 = (0 : Int) then (some ((-1 : Int), v_p0_places, v_p0_ways, v_p0_waysThen)) else (bd1 (f_X12_isTold x2) (fun (z4 : Int) => (ck (z_r32 z4) (if z4 = (0 : Int) then (some ((-1 : Int), v_p0_places, v_p0_ways, v_p0_waysThen)) else (ck (z_r32 i_p0_stirs) (if i_p0_stirs = (0 : Int) then (some ((-2 : Int), v_p0_places, v_p0_ways, v_p0_waysThen)) else (bd1 (f_X12_firstWays v_p0_st v_p0_ways) (fun (w7 : (Int → Int)) => (bnd (0 : Int) (fun (z8 : Int) => (jn (fun (w9 : (Int → Int)) (w10 : (Int → Int)) (w11 : (Int → Int)) => (bnd (0 : Int) (fun (z13 : Int) => (bnd (0 : Int) (fun (z14 : Int) => (jn (fun (z15 : Int) => (bd1 (f_X12_power i_p0_stirs x1) (fun (z17 : Int) => (bd1 (f_X12_lowest z15 z17 x2) (fun (z18 : Int) => (some (z18, w9, w10, w11))))))) (fun (J16 : Int → Option (Int × (Int → Int) × (Int → Int) × (Int → Int))) => (lq2 (B_X12_lasts_61 J16 w10) 1000 z14 z13)))))))) (fun (J12 : (Int → Int) → (Int → Int) → (Int → Int) → Option (Int × (Int → Int) × (Int → Int) × (Int → Int))) => (lq4 (B_X12_lasts_40 x1 J12 i_p0_seats i_p0_stirs v_p0_st v_p0_brings) 1000 z8 v_p0_places w7 v_p0_waysThen))))))))))))))))))
abbrev rm_X12_lasts : Room := { frames := 5, cells := 0, slots := 0, locals := 116 }
theorem mwX12_lasts_0 : Cond.constantLong RX12 236 (10) ∈ wsX12_lasts := by first | exact List.mem_of_getElem? (i := 1) rfl | decide +kernel
theorem mwX12_lasts_1 : Cond.constantLong RX12 241 (-1) ∈ wsX12_lasts := by first | exact List.mem_of_getElem? (i := 2) rfl | decide +kernel
theorem inX12_lasts_X12 : ∀ w ∈ wsX120, w ∈ wsX12_lasts := by first | exact fun w h => List.mem_cons_of_mem _ (List.mem_append_right _ h) | decide +kernel
theorem mwX12_lasts_3 : Cond.fieldLink RX12 103 "LadleKingsModel" "stirs" "I" ∈ wsX12_lasts := by first | exact List.mem_of_getElem? (i := 3) rfl | decide +kernel
theorem mwX12_lasts_4 : Cond.fieldLink RX12 41 "LadleKingsModel" "ways" "[J" ∈ wsX12_lasts := by first | exact List.mem_of_getElem? (i := 5) rfl | decide +kernel
theorem mwX12_lasts_5 : Cond.constantLong RX12 243 (-2) ∈ wsX12_lasts := by first | exact List.mem_of_getElem? (i := 4) rfl | decide +kernel
set_option maxHeartbeats 8000000 in
set_option maxRecDepth 100000 in
theorem c_X12_lasts (l : Launch) (D : va_G) (G : Nat → ClassId) (sz : Nat) (a_p0 : Nat) (a_p0_st : Nat) (a_p0_isKept : Nat) (a_p0_brings : Nat) (a_p0_need : Nat) (a_p0_draft : Nat) (a_p0_dStir : Nat) (a_p0_dNeed : Nat) (a_p0_tape : Nat) (a_p0_places : Nat) (a_p0_stirred : Nat) (a_p0_ways : Nat) (a_p0_waysThen : Nat) (a_p0_stays : Nat) (a_p0_fewest : Nat) (a_p0_bowls : Nat) (a_p0_has : Nat) (a_p0_goesOn : Nat) (a_p0_isThere : Nat) (a_p0_isThereThen : Nat) (a_p0_bestRow : Nat) (a_p0_lanes : Nat) (a_p0_sizes : Nat) (a_p0_cells : Nat) (i_p0_seats : Int) (i_p0_stirs : Int) (i_p0_dSeats : Int) (i_p0_dStirs : Int) (i_p0_told : Int) (i_p0_highest : Int) (i_p0_taped : Int) (i_p0_pos : Int) (i_p0_from : Int) (i_p0_sort : Int) (i_p0_value : Int) (i_p0_fault : Int) (i_p0_wrongAt : Int) (i_p0_torn : Int) (v_p0_st : (Int → Int)) (v_p0_brings : (Int → Int)) (v_p0_places : (Int → Int)) (v_p0_ways : (Int → Int)) (v_p0_waysThen : (Int → Int)) (x1 : Int) (x2 : Int) (r : Int) (o_v_p0_places : (Int → Int)) (o_v_p0_ways : (Int → Int)) (o_v_p0_waysThen : (Int → Int)) (hf : f_X12_lasts i_p0_seats i_p0_stirs v_p0_st v_p0_brings v_p0_places v_p0_ways v_p0_waysThen x1 x2 = some (r, o_v_p0_places, o_v_p0_ways, o_v_p0_waysThen)) : Met l yX12_lasts wsX12_lasts rm_X12_lasts (pcG D G [.ref a_p0, .int (Int32.ofInt x1), .int (Int32.ofInt x2)] sz [(a_p0, .inr (12, [.ref a_p0_st, .ref a_p0_isKept, .int (Int32.ofInt i_p0_seats), .int (Int32.ofInt i_p0_stirs), .ref a_p0_brings, .ref a_p0_need, .ref a_p0_draft, .int (Int32.ofInt i_p0_dSeats), .int (Int32.ofInt i_p0_dStirs), .ref a_p0_dStir, .ref a_p0_dNeed, .int (Int32.ofInt i_p0_told), .int (Int32.ofInt i_p0_highest), .ref a_p0_tape, .int (Int32.ofInt i_p0_taped), .int (Int32.ofInt i_p0_pos), .int (Int32.ofInt i_p0_from), .int (Int32.ofInt i_p0_sort), .int (Int32.ofInt i_p0_value), .int (Int32.ofInt i_p0_fault), .int (Int32.ofInt i_p0_wrongAt), .ref a_p0_places, .ref a_p0_stirred, .ref a_p0_ways, .ref a_p0_waysThen, .ref a_p0_stays, .ref a_p0_fewest, .ref a_p0_bowls, .ref a_p0_has, .ref a_p0_goesOn, .ref a_p0_isThere, .ref a_p0_isThereThen, .ref a_p0_bestRow, .ref a_p0_lanes, .ref a_p0_sizes, .ref a_p0_cells, .int (Int32.ofInt i_p0_torn)])), (a_p0_st, .inl (G 1, 152, .inl (zA v_p0_st))), (a_p0_brings, .inl (G 1, 35, .inl (zA v_p0_brings))), (a_p0_places, .inl (G 1, 7, .inl (zA v_p0_places))), (a_p0_ways, .inl (G 2, 49, .inr (.inl (zL v_p0_ways)))), (a_p0_waysThen, .inl (G 2, 49, .inr (.inl (zL v_p0_waysThen))))]) (qcL D G (Int64.ofInt r) [(a_p0, .inr (12, [.ref a_p0_st, .ref a_p0_isKept, .int (Int32.ofInt i_p0_seats), .int (Int32.ofInt i_p0_stirs), .ref a_p0_brings, .ref a_p0_need, .ref a_p0_draft, .int (Int32.ofInt i_p0_dSeats), .int (Int32.ofInt i_p0_dStirs), .ref a_p0_dStir, .ref a_p0_dNeed, .int (Int32.ofInt i_p0_told), .int (Int32.ofInt i_p0_highest), .ref a_p0_tape, .int (Int32.ofInt i_p0_taped), .int (Int32.ofInt i_p0_pos), .int (Int32.ofInt i_p0_from), .int (Int32.ofInt i_p0_sort), .int (Int32.ofInt i_p0_value), .int (Int32.ofInt i_p0_fault), .int (Int32.ofInt i_p0_wrongAt), .ref a_p0_places, .ref a_p0_stirred, .ref a_p0_ways, .ref a_p0_waysThen, .ref a_p0_stays, .ref a_p0_fewest, .ref a_p0_bowls, .ref a_p0_has, .ref a_p0_goesOn, .ref a_p0_isThere, .ref a_p0_isThereThen, .ref a_p0_bestRow, .ref a_p0_lanes, .ref a_p0_sizes, .ref a_p0_cells, .int (Int32.ofInt i_p0_torn)])), (a_p0_st, .inl (G 1, 152, .inl (zA v_p0_st))), (a_p0_brings, .inl (G 1, 35, .inl (zA v_p0_brings))), (a_p0_places, .inl (G 1, 7, .inl (zA o_v_p0_places))), (a_p0_ways, .inl (G 2, 49, .inr (.inl (zL o_v_p0_ways)))), (a_p0_waysThen, .inl (G 2, 49, .inr (.inl (zL o_v_p0_waysThen))))] (va_A [(a_p0, .inr (12, [.ref a_p0_st, .ref a_p0_isKept, .int (Int32.ofInt i_p0_seats), .int (Int32.ofInt i_p0_stirs), .ref a_p0_brings, .ref a_p0_need, .ref a_p0_draft, .int (Int32.ofInt i_p0_dSeats), .int (Int32.ofInt i_p0_dStirs), .ref a_p0_dStir, .ref a_p0_dNeed, .int (Int32.ofInt i_p0_told), .int (Int32.ofInt i_p0_highest), .ref a_p0_tape, .int (Int32.ofInt i_p0_taped), .int (Int32.ofInt i_p0_pos), .int (Int32.ofInt i_p0_from), .int (Int32.ofInt i_p0_sort), .int (Int32.ofInt i_p0_value), .int (Int32.ofInt i_p0_fault), .int (Int32.ofInt i_p0_wrongAt), .ref a_p0_places, .ref a_p0_stirred, .ref a_p0_ways, .ref a_p0_waysThen, .ref a_p0_stays, .ref a_p0_fewest, .ref a_p0_bowls, .ref a_p0_has, .ref a_p0_goesOn, .ref a_p0_isThere, .ref a_p0_isThereThen, .ref a_p0_bestRow, .ref a_p0_lanes, .ref a_p0_sizes, .ref a_p0_cells, .int (Int32.ofInt i_p0_torn)])), (a_p0_st, .inl (G 1, 152, .inl (zA v_p0_st))), (a_p0_brings, .inl (G 1, 35, .inl (zA v_p0_brings))), (a_p0_places, .inl (G 1, 7, .inl (zA v_p0_places))), (a_p0_ways, .inl (G 2, 49, .inr (.inl (zL v_p0_ways)))), (a_p0_waysThen, .inl (G 2, 49, .inr (.inl (zL v_p0_waysThen))))] sz)) 0 0 (va_A [(a_p0, .inr (12, [.ref a_p0_st, .ref a_p0_isKept, .int (Int32.ofInt i_p0_seats), .int (Int32.ofInt i_p0_stirs), .ref a_p0_brings, .ref a_p0_need, .ref a_p0_draft, .int (Int32.ofInt i_p0_dSeats), .int (Int32.ofInt i_p0_dStirs), .ref a_p0_dStir, .ref a_p0_dNeed, .int (Int32.ofInt i_p0_told), .int (Int32.ofInt i_p0_highest), .ref a_p0_tape, .int (Int32.ofInt i_p0_taped), .int (Int32.ofInt i_p0_pos), .int (Int32.ofInt i_p0_from), .int (Int32.ofInt i_p0_sort), .int (Int32.ofInt i_p0_value), .int (Int32.ofInt i_p0_fault), .int (Int32.ofInt i_p0_wrongAt), .ref a_p0_places, .ref a_p0_stirred, .ref a_p0_ways, .ref a_p0_waysThen, .ref a_p0_stays, .ref a_p0_fewest, .ref a_p0_bowls, .ref a_p0_has, .ref a_p0_goesOn, .ref a_p0_isThere, .ref a_p0_isThereThen, .ref a_p0_bestRow, .ref a_p0_lanes, .ref a_p0_sizes, .ref a_p0_cells, .int (Int32.ofInt i_p0_torn)])), (a_p0_st, .inl (G 1, 152, .inl (zA v_p0_st))), (a_p0_brings, .inl (G 1, 35, .inl (zA v_p0_brings))), (a_p0_places, .inl (G 1, 7, .inl (zA v_p0_places))), (a_p0_ways, .inl (G 2, 49, .inr (.inl (zL v_p0_ways)))), (a_p0_waysThen, .inl (G 2, 49, .inr (.inl (zL v_p0_waysThen))))] sz) := by
  refine Met.ofW (cc := cX12_lasts) (maxL := 6) (ret := (some .long)) (by decide) rfl ?_
  intro p e s m args below meth c s₁ B hml hv
  obtain ⟨rfl, hsz, hP, hK, hD0⟩ := hv
  have hx := B.exec
  have hb := B.bytes
  have hr := B.returns
  have hts := atoms_spec (ws := wsX12_lasts) B.pre
  have hown : s.vm.findClass RX12 = some m.cls := findClass_of_methodNamed B.named
  have hlocks := B.notSynchronized
  subst hsz
  have hD := hD0.self (sz := s.heap.size)
  generalize hAe : va_A [(a_p0, .inr (12, [.ref a_p0_st, .ref a_p0_isKept, .int (Int32.ofInt i_p0_seats), .int (Int32.ofInt i_p0_stirs), .ref a_p0_brings, .ref a_p0_need, .ref a_p0_draft, .int (Int32.ofInt i_p0_dSeats), .int (Int32.ofInt i_p0_dStirs), .ref a_p0_dStir, .ref a_p0_dNeed, .int (Int32.ofInt i_p0_told), .int (Int32.ofInt i_p0_highest), .ref a_p0_tape, .int (Int32.ofInt i_p0_taped), .int (Int32.ofInt i_p0_pos), .int (Int32.ofInt i_p0_from), .int (Int32.ofInt i_p0_sort), .int (Int32.ofInt i_p0_value), .int (Int32.ofInt i_p0_fault), .int (Int32.ofInt i_p0_wrongAt), .ref a_p0_places, .ref a_p0_stirred, .ref a_p0_ways, .ref a_p0_waysThen, .ref a_p0_stays, .ref a_p0_fewest, .ref a_p0_bowls, .ref a_p0_has, .ref a_p0_goesOn, .ref a_p0_isThere, .ref a_p0_isThereThen, .ref a_p0_bestRow, .ref a_p0_lanes, .ref a_p0_sizes, .ref a_p0_cells, .int (Int32.ofInt i_p0_torn)])), (a_p0_st, .inl (G 1, 152, .inl (zA v_p0_st))), (a_p0_brings, .inl (G 1, 35, .inl (zA v_p0_brings))), (a_p0_places, .inl (G 1, 7, .inl (zA v_p0_places))), (a_p0_ways, .inl (G 2, 49, .inr (.inl (zL v_p0_ways)))), (a_p0_waysThen, .inl (G 2, 49, .inr (.inl (zL v_p0_waysThen))))] s.heap.size = A at hD ⊢
  have hA : ∀ q : Nat, s.heap.size ≤ q → A q := fun q h => by rw [← hAe]; exact Or.inr h
  clear hAe hD0
  have hS : va_S A s.heap s.heap [] := va_S.rf
  have hl := lv_entry ([.ref a_p0, .int (Int32.ofInt x1), .int (Int32.ofInt x2)]) (n := 6) (Nat.le_of_ble_eq_true rfl)
  rw [lg_entry_eq]
  generalize (lg_sl ([.ref a_p0, .int (Int32.ofInt x1), .int (Int32.ofInt x2)]) ++ List.replicate (6 - (lg_sl ([.ref a_p0, .int (Int32.ofInt x1), .int (Int32.ofInt x2)])).length) Slot.unset).toArray = ls at hl ⊢
  have hl : lv_has ls 6 [(0, .ref a_p0), (1, .int (Int32.ofInt x1)), (2, .int (Int32.ofInt x2))] := hl
  refine W_nameQ (fun Q hQ => ?_)
  obtain ⟨H, hH⟩ : ∃ H, H = s.heap := ⟨_, rfl⟩
  replace hS : va_S A s.heap H [] := by rw [hH]; exact hS
  replace hP : va_P D vwCl [(a_p0, .inr (12, [.ref a_p0_st, .ref a_p0_isKept, .int (Int32.ofInt i_p0_seats), .int (Int32.ofInt i_p0_stirs), .ref a_p0_brings, .ref a_p0_need, .ref a_p0_draft, .int (Int32.ofInt i_p0_dSeats), .int (Int32.ofInt i_p0_dStirs), .ref a_p0_dStir, .ref a_p0_dNeed, .int (Int32.ofInt i_p0_told), .int (Int32.ofInt i_p0_highest), .ref a_p0_tape, .int (Int32.ofInt i_p0_taped), .int (Int32.ofInt i_p0_pos), .int (Int32.ofInt i_p0_from), .int (Int32.ofInt i_p0_sort), .int (Int32.ofInt i_p0_value), .int (Int32.ofInt i_p0_fault), .int (Int32.ofInt i_p0_wrongAt), .ref a_p0_places, .ref a_p0_stirred, .ref a_p0_ways, .ref a_p0_waysThen, .ref a_p0_stays, .ref a_p0_fewest, .ref a_p0_bowls, .ref a_p0_has, .ref a_p0_goesOn, .ref a_p0_isThere, .ref a_p0_isThereThen, .ref a_p0_bestRow, .ref a_p0_lanes, .ref a_p0_sizes, .ref a_p0_cells, .int (Int32.ofInt i_p0_torn)])), (a_p0_st, .inl (G 1, 152, .inl (zA v_p0_st))), (a_p0_brings, .inl (G 1, 35, .inl (zA v_p0_brings))), (a_p0_places, .inl (G 1, 7, .inl (zA v_p0_places))), (a_p0_ways, .inl (G 2, 49, .inr (.inl (zL v_p0_ways)))), (a_p0_waysThen, .inl (G 2, 49, .inr (.inl (zL v_p0_waysThen))))] H := by rw [hH]; exact hP
  rw [← hH]
  clear hH
  unfold f_X12_lasts at hf
  refine lv_iload_n hx hb dX12_lasts_0 rfl (lv_at hl 1 rfl) ?_
  have hr0 := ck_c hf
  replace hf := ck_r hf
  refine lv_i2l (v := Int64.ofInt x1) hx hb dX12_lasts_1 (z_i2l hr0) ?_
  refine lv_lconst (v := Int64.ofInt (0 : Int)) hx hb dX12_lasts_2 (by decide) ?_
  refine lv_ldc2 (v := (10 : Int64)) hx hb hown (hts _ mwX12_lasts_0) dX12_lasts_3 (z_cl (show Int64.ofInt (10 : Int) = _ from by decide) ?_)
  have hq := bd1_s hf
  clear hf
  obtain ⟨z2, hcall, hf⟩ := hq
  refine gnI (va_runS (As := [.long (Int64.ofInt x1), .long (Int64.ofInt (0 : Int)), .long (Int64.ofInt (10 : Int))]) (rest := []) ⟨hx, hb, hml, hown, hts⟩ (c_X12_in (l := l) (D := D) (G := G) (sz := H.size) (x0 := x1) (x2 := (0 : Int)) (x4 := (10 : Int)) (r := z2) (hf := hcall)) (va_cwS 3 hts gX12_lasts_X12_in rfl rfl rfl (by decide +kernel) ⟨Nat.le_of_ble_eq_true rfl, Nat.le_of_ble_eq_true rfl⟩) (preG_S (hP.sub [] rfl) (hD.sub [] rfl rfl) hK) rfl rfl hl.1 rfl (lv_room (Nat.le_of_ble_eq_true rfl)) dX12_lasts_6 ⟨Nat.le_of_ble_eq_true rfl, Nat.le_of_ble_eq_true rfl⟩) hP hD hS hA [] rfl (fun H locs hP hD hS => ?_)
  clear hcall
  have hr2 := ck_c hf
  replace hf := ck_r hf
  refine lv_if_eq (tgt := 19) hx hb dX12_lasts_9 (by decide) (fun cc => ?_) (fun cc => ?_)
  ·
    replace hf := ite_t ((z_eq0 hr2).mp cc) hf
    clear cc
    refine lv_ldc2 (v := (-1 : Int64)) hx hb hown (hts _ mwX12_lasts_1) dX12_lasts_19 (z_cl (show Int64.ofInt (-1 : Int) = _ from by decide) ?_)
    obtain ⟨rfl, rfl, rfl, rfl⟩ := ou4 hf
    rw [hQ]
    exact W.lret hx hb hr (fun t ht hW => ⟨⟨_, (), rfl, rfl, by rw [ht]; exact hP, va_K.moved hW.alike hK, hD⟩, hS.F ht⟩) hS.2.2 dX12_lasts_22
  ·
    replace hf := ite_f (fun h9 => cc ((z_eq0 hr2).mpr h9)) hf
    clear cc
    refine lv_iload_n hx hb dX12_lasts_12 rfl (lv_at hl 2 rfl) ?_
    have hq := bd1_s hf
    clear hf
    obtain ⟨z4, hcall, hf⟩ := hq
    refine gnI (va_runS (As := [.int (Int32.ofInt x2)]) (rest := []) ⟨hx, hb, hml, hown, hts⟩ (c_X12_isTold (l := l) (D := D) (G := G) (sz := H.size) (x0 := x2) (r := z4) (hf := hcall)) (va_cwS 1 hts gX12_lasts_X12_isTold rfl rfl rfl (by decide +kernel) ⟨Nat.le_of_ble_eq_true rfl, Nat.le_of_ble_eq_true rfl⟩) (preG_S (hP.sub [] rfl) (hD.sub [] rfl rfl) hK) rfl rfl hl.1 rfl (lv_room (Nat.le_of_ble_eq_true rfl)) dX12_lasts_13 ⟨Nat.le_of_ble_eq_true rfl, Nat.le_of_ble_eq_true rfl⟩) hP hD hS hA [] rfl (fun H locs hP hD hS => ?_)
    clear hcall
    have hr4 := ck_c hf
    replace hf := ck_r hf
    refine lv_if_ne (tgt := 23) hx hb dX12_lasts_16 (by decide) (fun cc => ?_) (fun cc => ?_)
    ·
      replace hf := ite_f (fun h9 => cc ((z_eq0 hr4).mpr h9)) hf
      clear cc
      refine lv_aload_n hx hb dX12_lasts_23 rfl (lv_at hl 0 rfl) ?_
      refine va_get (D := D) (ci := 12) (v := .int (Int32.ofInt i_p0_stirs)) (C := RX12) (T := TX12) (N := 37) hx hb hts inX12_lasts_X12 hown hK hP 0 rfl rfl 3 (by decide) (hts _ mwX12_lasts_3) (fun _ h9 => h9) rfl dX12_lasts_24 ?_
      have hr5 := ck_c hf
      replace hf := ck_r hf
      refine lv_if_ne (tgt := 34) hx hb dX12_lasts_27 (by decide) (fun cc => ?_) (fun cc => ?_)
      ·
        replace hf := ite_f (fun h9 => cc ((z_eq0 hr5).mpr h9)) hf
        clear cc
        refine lv_aload_n hx hb dX12_lasts_34 rfl (lv_at hl 0 rfl) ?_
        have hq := bd1_s hf
        clear hf
        obtain ⟨w7, hcall, hf⟩ := hq
        refine gsV (ws' := [(a_p0, .inr (12, [.ref a_p0_st, .ref a_p0_isKept, .int (Int32.ofInt i_p0_seats), .int (Int32.ofInt i_p0_stirs), .ref a_p0_brings, .ref a_p0_need, .ref a_p0_draft, .int (Int32.ofInt i_p0_dSeats), .int (Int32.ofInt i_p0_dStirs), .ref a_p0_dStir, .ref a_p0_dNeed, .int (Int32.ofInt i_p0_told), .int (Int32.ofInt i_p0_highest), .ref a_p0_tape, .int (Int32.ofInt i_p0_taped), .int (Int32.ofInt i_p0_pos), .int (Int32.ofInt i_p0_from), .int (Int32.ofInt i_p0_sort), .int (Int32.ofInt i_p0_value), .int (Int32.ofInt i_p0_fault), .int (Int32.ofInt i_p0_wrongAt), .ref a_p0_places, .ref a_p0_stirred, .ref a_p0_ways, .ref a_p0_waysThen, .ref a_p0_stays, .ref a_p0_fewest, .ref a_p0_bowls, .ref a_p0_has, .ref a_p0_goesOn, .ref a_p0_isThere, .ref a_p0_isThereThen, .ref a_p0_bestRow, .ref a_p0_lanes, .ref a_p0_sizes, .ref a_p0_cells, .int (Int32.ofInt i_p0_torn)])), (a_p0_st, .inl (G 1, 152, .inl (zA v_p0_st))), (a_p0_brings, .inl (G 1, 35, .inl (zA v_p0_brings))), (a_p0_places, .inl (G 1, 7, .inl (zA v_p0_places))), (a_p0_ways, .inl (G 2, 49, .inr (.inl (zL w7)))), (a_p0_waysThen, .inl (G 2, 49, .inr (.inl (zL v_p0_waysThen))))]) (va_runV (As := []) (rest := []) ⟨hx, hb, hml, hown, hts⟩ (c_X12_firstWays (l := l) (D := D) (G := G) (sz := H.size) (a_p0 := a_p0) (a_p0_st := a_p0_st) (a_p0_isKept := a_p0_isKept) (a_p0_brings := a_p0_brings) (a_p0_need := a_p0_need) (a_p0_draft := a_p0_draft) (a_p0_dStir := a_p0_dStir) (a_p0_dNeed := a_p0_dNeed) (a_p0_tape := a_p0_tape) (a_p0_places := a_p0_places) (a_p0_stirred := a_p0_stirred) (a_p0_ways := a_p0_ways) (a_p0_waysThen := a_p0_waysThen) (a_p0_stays := a_p0_stays) (a_p0_fewest := a_p0_fewest) (a_p0_bowls := a_p0_bowls) (a_p0_has := a_p0_has) (a_p0_goesOn := a_p0_goesOn) (a_p0_isThere := a_p0_isThere) (a_p0_isThereThen := a_p0_isThereThen) (a_p0_bestRow := a_p0_bestRow) (a_p0_lanes := a_p0_lanes) (a_p0_sizes := a_p0_sizes) (a_p0_cells := a_p0_cells) (i_p0_seats := i_p0_seats) (i_p0_stirs := i_p0_stirs) (i_p0_dSeats := i_p0_dSeats) (i_p0_dStirs := i_p0_dStirs) (i_p0_told := i_p0_told) (i_p0_highest := i_p0_highest) (i_p0_taped := i_p0_taped) (i_p0_pos := i_p0_pos) (i_p0_from := i_p0_from) (i_p0_sort := i_p0_sort) (i_p0_value := i_p0_value) (i_p0_fault := i_p0_fault) (i_p0_wrongAt := i_p0_wrongAt) (i_p0_torn := i_p0_torn) (v_p0_st := v_p0_st) (v_p0_ways := v_p0_ways) (o_v_p0_ways := w7) (hf := hcall)) (cwV 0 hts gX12_lasts_X12_firstWays rfl rfl rfl hdV_yX12_firstWays_RX12 ⟨Nat.le_of_ble_eq_true rfl, Nat.le_of_ble_eq_true rfl⟩) (preG_V (ci := 12) (q := (RX12, TX12, 37)) (hP.sub [0, 1, 4] rfl) (hD.sub [0, 1, 4] rfl rfl) hK rfl rfl) rfl rfl hl.1 rfl (lv_room (Nat.le_of_ble_eq_true rfl)) dX12_lasts_35 ⟨Nat.le_of_ble_eq_true rfl, Nat.le_of_ble_eq_true rfl⟩) hP hD hS hA [0, 1, 4] rfl rfl rfl (fun H locs hP hD hS => ?_)
        clear hcall
        refine lv_iconst (v := Int32.ofInt (0 : Int)) hx hb dX12_lasts_38 (by decide) ?_
        refine z_topi (fun z8 ez => ?_)
        replace hf := bnd_s hf ez
        clear ez
        refine lv_istore_n (lv' := [(3, .int (Int32.ofInt z8)), (0, .ref a_p0), (1, .int (Int32.ofInt x1)), (2, .int (Int32.ofInt x2))]) hx hb dX12_lasts_39 rfl hl (by decide) rfl (fun ls hl => ?_)
        have hq := jn_i hf
        clear hf
        obtain ⟨J12, eJ12, hf⟩ := hq
        have hJ12 : ∀ (w9 : (Int → Int)) (w10 : (Int → Int)) (w11 : (Int → Int)) (ls : Array Slot) (H : Heap) (locs : List Loc), lv_has ls 6 [(0, .ref a_p0), (1, .int (Int32.ofInt x1)), (2, .int (Int32.ofInt x2))] → va_P D vwCl [(a_p0, .inr (12, [.ref a_p0_st, .ref a_p0_isKept, .int (Int32.ofInt i_p0_seats), .int (Int32.ofInt i_p0_stirs), .ref a_p0_brings, .ref a_p0_need, .ref a_p0_draft, .int (Int32.ofInt i_p0_dSeats), .int (Int32.ofInt i_p0_dStirs), .ref a_p0_dStir, .ref a_p0_dNeed, .int (Int32.ofInt i_p0_told), .int (Int32.ofInt i_p0_highest), .ref a_p0_tape, .int (Int32.ofInt i_p0_taped), .int (Int32.ofInt i_p0_pos), .int (Int32.ofInt i_p0_from), .int (Int32.ofInt i_p0_sort), .int (Int32.ofInt i_p0_value), .int (Int32.ofInt i_p0_fault), .int (Int32.ofInt i_p0_wrongAt), .ref a_p0_places, .ref a_p0_stirred, .ref a_p0_ways, .ref a_p0_waysThen, .ref a_p0_stays, .ref a_p0_fewest, .ref a_p0_bowls, .ref a_p0_has, .ref a_p0_goesOn, .ref a_p0_isThere, .ref a_p0_isThereThen, .ref a_p0_bestRow, .ref a_p0_lanes, .ref a_p0_sizes, .ref a_p0_cells, .int (Int32.ofInt i_p0_torn)])), (a_p0_st, .inl (G 1, 152, .inl (zA v_p0_st))), (a_p0_brings, .inl (G 1, 35, .inl (zA v_p0_brings))), (a_p0_places, .inl (G 1, 7, .inl (zA w9))), (a_p0_ways, .inl (G 2, 49, .inr (.inl (zL w10)))), (a_p0_waysThen, .inl (G 2, 49, .inr (.inl (zL w11))))] H → va_D A [(a_p0, .inr (12, [.ref a_p0_st, .ref a_p0_isKept, .int (Int32.ofInt i_p0_seats), .int (Int32.ofInt i_p0_stirs), .ref a_p0_brings, .ref a_p0_need, .ref a_p0_draft, .int (Int32.ofInt i_p0_dSeats), .int (Int32.ofInt i_p0_dStirs), .ref a_p0_dStir, .ref a_p0_dNeed, .int (Int32.ofInt i_p0_told), .int (Int32.ofInt i_p0_highest), .ref a_p0_tape, .int (Int32.ofInt i_p0_taped), .int (Int32.ofInt i_p0_pos), .int (Int32.ofInt i_p0_from), .int (Int32.ofInt i_p0_sort), .int (Int32.ofInt i_p0_value), .int (Int32.ofInt i_p0_fault), .int (Int32.ofInt i_p0_wrongAt), .ref a_p0_places, .ref a_p0_stirred, .ref a_p0_ways, .ref a_p0_waysThen, .ref a_p0_stays, .ref a_p0_fewest, .ref a_p0_bowls, .ref a_p0_has, .ref a_p0_goesOn, .ref a_p0_isThere, .ref a_p0_isThereThen, .ref a_p0_bestRow, .ref a_p0_lanes, .ref a_p0_sizes, .ref a_p0_cells, .int (Int32.ofInt i_p0_torn)])), (a_p0_st, .inl (G 1, 152, .inl (zA v_p0_st))), (a_p0_brings, .inl (G 1, 35, .inl (zA v_p0_brings))), (a_p0_places, .inl (G 1, 7, .inl (zA w9))), (a_p0_ways, .inl (G 2, 49, .inr (.inl (zL w10)))), (a_p0_waysThen, .inl (G 2, 49, .inr (.inl (zL w11))))] → va_S A s.heap H locs → J12 w9 w10 w11 = some (r, o_v_p0_places, o_v_p0_ways, o_v_p0_waysThen) → W p l e rm_X12_lasts s m ([.ref a_p0, .int (Int32.ofInt x1), .int (Int32.ofInt x2)] : List Value).toArray below meth c H locs 0 0 Q (F0 m 56 ls []) := by
          clear hf hl hP hD hS
          intro w9 w10 w11 ls H locs hl hP hD hS hf
          replace hf := jn3_s eJ12 hf
          refine lv_lconst (v := Int64.ofInt (0 : Int)) hx hb dX12_lasts_56 (by decide) ?_
          refine z_topl (fun z13 ez => ?_)
          replace hf := bnd_s hf ez
          clear ez
          refine lv_lstore_n (lv' := [(3, .long (Int64.ofInt z13)), (0, .ref a_p0), (1, .int (Int32.ofInt x1)), (2, .int (Int32.ofInt x2))]) hx hb dX12_lasts_57 rfl hl (by decide) rfl (fun ls hl => ?_)
          refine lv_iconst (v := Int32.ofInt (0 : Int)) hx hb dX12_lasts_58 (by decide) ?_
          refine z_topi (fun z14 ez => ?_)
          replace hf := bnd_s hf ez
          clear ez
          refine lv_istore (lv' := [(5, .int (Int32.ofInt z14)), (3, .long (Int64.ofInt z13)), (0, .ref a_p0), (1, .int (Int32.ofInt x1)), (2, .int (Int32.ofInt x2))]) hx hb dX12_lasts_59 hl (by decide) rfl (fun ls hl => ?_)
          have hq := jn_i hf
          clear hf
          obtain ⟨J16, eJ16, hf⟩ := hq
          have hJ16 : ∀ (z15 : Int) (ls : Array Slot) (H : Heap) (locs : List Loc), lv_has ls 6 [(3, .long (Int64.ofInt z15)), (0, .ref a_p0), (1, .int (Int32.ofInt x1)), (2, .int (Int32.ofInt x2))] → va_P D vwCl [(a_p0, .inr (12, [.ref a_p0_st, .ref a_p0_isKept, .int (Int32.ofInt i_p0_seats), .int (Int32.ofInt i_p0_stirs), .ref a_p0_brings, .ref a_p0_need, .ref a_p0_draft, .int (Int32.ofInt i_p0_dSeats), .int (Int32.ofInt i_p0_dStirs), .ref a_p0_dStir, .ref a_p0_dNeed, .int (Int32.ofInt i_p0_told), .int (Int32.ofInt i_p0_highest), .ref a_p0_tape, .int (Int32.ofInt i_p0_taped), .int (Int32.ofInt i_p0_pos), .int (Int32.ofInt i_p0_from), .int (Int32.ofInt i_p0_sort), .int (Int32.ofInt i_p0_value), .int (Int32.ofInt i_p0_fault), .int (Int32.ofInt i_p0_wrongAt), .ref a_p0_places, .ref a_p0_stirred, .ref a_p0_ways, .ref a_p0_waysThen, .ref a_p0_stays, .ref a_p0_fewest, .ref a_p0_bowls, .ref a_p0_has, .ref a_p0_goesOn, .ref a_p0_isThere, .ref a_p0_isThereThen, .ref a_p0_bestRow, .ref a_p0_lanes, .ref a_p0_sizes, .ref a_p0_cells, .int (Int32.ofInt i_p0_torn)])), (a_p0_st, .inl (G 1, 152, .inl (zA v_p0_st))), (a_p0_brings, .inl (G 1, 35, .inl (zA v_p0_brings))), (a_p0_places, .inl (G 1, 7, .inl (zA w9))), (a_p0_ways, .inl (G 2, 49, .inr (.inl (zL w10)))), (a_p0_waysThen, .inl (G 2, 49, .inr (.inl (zL w11))))] H → va_D A [(a_p0, .inr (12, [.ref a_p0_st, .ref a_p0_isKept, .int (Int32.ofInt i_p0_seats), .int (Int32.ofInt i_p0_stirs), .ref a_p0_brings, .ref a_p0_need, .ref a_p0_draft, .int (Int32.ofInt i_p0_dSeats), .int (Int32.ofInt i_p0_dStirs), .ref a_p0_dStir, .ref a_p0_dNeed, .int (Int32.ofInt i_p0_told), .int (Int32.ofInt i_p0_highest), .ref a_p0_tape, .int (Int32.ofInt i_p0_taped), .int (Int32.ofInt i_p0_pos), .int (Int32.ofInt i_p0_from), .int (Int32.ofInt i_p0_sort), .int (Int32.ofInt i_p0_value), .int (Int32.ofInt i_p0_fault), .int (Int32.ofInt i_p0_wrongAt), .ref a_p0_places, .ref a_p0_stirred, .ref a_p0_ways, .ref a_p0_waysThen, .ref a_p0_stays, .ref a_p0_fewest, .ref a_p0_bowls, .ref a_p0_has, .ref a_p0_goesOn, .ref a_p0_isThere, .ref a_p0_isThereThen, .ref a_p0_bestRow, .ref a_p0_lanes, .ref a_p0_sizes, .ref a_p0_cells, .int (Int32.ofInt i_p0_torn)])), (a_p0_st, .inl (G 1, 152, .inl (zA v_p0_st))), (a_p0_brings, .inl (G 1, 35, .inl (zA v_p0_brings))), (a_p0_places, .inl (G 1, 7, .inl (zA w9))), (a_p0_ways, .inl (G 2, 49, .inr (.inl (zL w10)))), (a_p0_waysThen, .inl (G 2, 49, .inr (.inl (zL w11))))] → va_S A s.heap H locs → J16 z15 = some (r, o_v_p0_places, o_v_p0_ways, o_v_p0_waysThen) → W p l e rm_X12_lasts s m ([.ref a_p0, .int (Int32.ofInt x1), .int (Int32.ofInt x2)] : List Value).toArray below meth c H locs 0 0 Q (F0 m 84 ls []) := by
            clear hf hl hP hD hS
            intro z15 ls H locs hl hP hD hS hf
            replace hf := jn1_s eJ16 hf
            refine lv_lload_n hx hb dX12_lasts_84 rfl (lv_at hl 0 rfl) ?_
            refine lv_aload_n hx hb dX12_lasts_85 rfl (lv_at hl 1 rfl) ?_
            refine lv_aload_n hx hb dX12_lasts_86 rfl (lv_at hl 1 rfl) ?_
            refine va_get (D := D) (ci := 12) (v := .int (Int32.ofInt i_p0_stirs)) (C := RX12) (T := TX12) (N := 37) hx hb hts inX12_lasts_X12 hown hK hP 0 rfl rfl 3 (by decide) (hts _ mwX12_lasts_3) (fun _ h9 => h9) rfl dX12_lasts_87 ?_
            refine lv_i2l (v := Int64.ofInt i_p0_stirs) hx hb dX12_lasts_90 (z_i2l hr5) ?_
            refine lv_iload_n hx hb dX12_lasts_91 rfl (lv_at hl 2 rfl) ?_
            have hq := bd1_s hf
            clear hf
            obtain ⟨z17, hcall, hf⟩ := hq
            refine gnL (va_runV (As := [.long (Int64.ofInt i_p0_stirs), .int (Int32.ofInt x1)]) (rest := [.long (Int64.ofInt z15)]) ⟨hx, hb, hml, hown, hts⟩ (c_X12_power (l := l) (D := D) (G := G) (sz := H.size) (a_p0 := a_p0) (a_p0_st := a_p0_st) (a_p0_isKept := a_p0_isKept) (a_p0_brings := a_p0_brings) (a_p0_need := a_p0_need) (a_p0_draft := a_p0_draft) (a_p0_dStir := a_p0_dStir) (a_p0_dNeed := a_p0_dNeed) (a_p0_tape := a_p0_tape) (a_p0_places := a_p0_places) (a_p0_stirred := a_p0_stirred) (a_p0_ways := a_p0_ways) (a_p0_waysThen := a_p0_waysThen) (a_p0_stays := a_p0_stays) (a_p0_fewest := a_p0_fewest) (a_p0_bowls := a_p0_bowls) (a_p0_has := a_p0_has) (a_p0_goesOn := a_p0_goesOn) (a_p0_isThere := a_p0_isThere) (a_p0_isThereThen := a_p0_isThereThen) (a_p0_bestRow := a_p0_bestRow) (a_p0_lanes := a_p0_lanes) (a_p0_sizes := a_p0_sizes) (a_p0_cells := a_p0_cells) (i_p0_seats := i_p0_seats) (i_p0_stirs := i_p0_stirs) (i_p0_dSeats := i_p0_dSeats) (i_p0_dStirs := i_p0_dStirs) (i_p0_told := i_p0_told) (i_p0_highest := i_p0_highest) (i_p0_taped := i_p0_taped) (i_p0_pos := i_p0_pos) (i_p0_from := i_p0_from) (i_p0_sort := i_p0_sort) (i_p0_value := i_p0_value) (i_p0_fault := i_p0_fault) (i_p0_wrongAt := i_p0_wrongAt) (i_p0_torn := i_p0_torn) (x1 := i_p0_stirs) (x3 := x1) (r := z17) (hf := hcall)) (cwV 2 hts gX12_lasts_X12_power rfl rfl rfl hdV_yX12_power_RX12 ⟨Nat.le_of_ble_eq_true rfl, Nat.le_of_ble_eq_true rfl⟩) (preG_V (ci := 12) (q := (RX12, TX12, 37)) (hP.sub [0] rfl) (hD.sub [0] rfl rfl) hK rfl rfl) rfl rfl hl.1 rfl (lv_room (Nat.le_of_ble_eq_true rfl)) dX12_lasts_92 ⟨Nat.le_of_ble_eq_true rfl, Nat.le_of_ble_eq_true rfl⟩) hP hD hS hA [0] rfl (fun H locs hP hD hS => ?_)
            clear hcall
            refine lv_iload_n hx hb dX12_lasts_95 rfl (lv_at hl 3 rfl) ?_
            have hq := bd1_s hf
            clear hf
            obtain ⟨z18, hcall, hf⟩ := hq
            refine gnL (va_runS (As := [.long (Int64.ofInt z15), .long (Int64.ofInt z17), .int (Int32.ofInt x2)]) (rest := []) ⟨hx, hb, hml, hown, hts⟩ (c_X12_lowest (l := l) (D := D) (G := G) (sz := H.size) (x0 := z15) (x2 := z17) (x4 := x2) (r := z18) (hf := hcall)) (va_cwS 3 hts gX12_lasts_X12_lowest rfl rfl rfl (by decide +kernel) ⟨Nat.le_of_ble_eq_true rfl, Nat.le_of_ble_eq_true rfl⟩) (preG_S (hP.sub [] rfl) (hD.sub [] rfl rfl) hK) rfl rfl hl.1 rfl (lv_room (Nat.le_of_ble_eq_true rfl)) dX12_lasts_96 ⟨Nat.le_of_ble_eq_true rfl, Nat.le_of_ble_eq_true rfl⟩) hP hD hS hA [] rfl (fun H locs hP hD hS => ?_)
            clear hcall
            obtain ⟨rfl, rfl, rfl, rfl⟩ := ou4 hf
            rw [hQ]
            exact W.lret hx hb hr (fun t ht hW => ⟨⟨_, (), rfl, rfl, by rw [ht]; exact hP, va_K.moved hW.alike hK, hD⟩, hS.F ht⟩) hS.2.2 dX12_lasts_99
          have hq := lq2_i hf
          clear hf
          obtain ⟨B21, eB21, NB21, hf⟩ := hq
          have hB21 : ∀ (n : Nat) (z19 : Int) (z20 : Int) (ls : Array Slot) (H : Heap) (locs : List Loc), lv_has ls 6 [(5, .int (Int32.ofInt z19)), (3, .long (Int64.ofInt z20)), (0, .ref a_p0), (1, .int (Int32.ofInt x1)), (2, .int (Int32.ofInt x2))] → va_P D vwCl [(a_p0, .inr (12, [.ref a_p0_st, .ref a_p0_isKept, .int (Int32.ofInt i_p0_seats), .int (Int32.ofInt i_p0_stirs), .ref a_p0_brings, .ref a_p0_need, .ref a_p0_draft, .int (Int32.ofInt i_p0_dSeats), .int (Int32.ofInt i_p0_dStirs), .ref a_p0_dStir, .ref a_p0_dNeed, .int (Int32.ofInt i_p0_told), .int (Int32.ofInt i_p0_highest), .ref a_p0_tape, .int (Int32.ofInt i_p0_taped), .int (Int32.ofInt i_p0_pos), .int (Int32.ofInt i_p0_from), .int (Int32.ofInt i_p0_sort), .int (Int32.ofInt i_p0_value), .int (Int32.ofInt i_p0_fault), .int (Int32.ofInt i_p0_wrongAt), .ref a_p0_places, .ref a_p0_stirred, .ref a_p0_ways, .ref a_p0_waysThen, .ref a_p0_stays, .ref a_p0_fewest, .ref a_p0_bowls, .ref a_p0_has, .ref a_p0_goesOn, .ref a_p0_isThere, .ref a_p0_isThereThen, .ref a_p0_bestRow, .ref a_p0_lanes, .ref a_p0_sizes, .ref a_p0_cells, .int (Int32.ofInt i_p0_torn)])), (a_p0_st, .inl (G 1, 152, .inl (zA v_p0_st))), (a_p0_brings, .inl (G 1, 35, .inl (zA v_p0_brings))), (a_p0_places, .inl (G 1, 7, .inl (zA w9))), (a_p0_ways, .inl (G 2, 49, .inr (.inl (zL w10)))), (a_p0_waysThen, .inl (G 2, 49, .inr (.inl (zL w11))))] H → va_D A [(a_p0, .inr (12, [.ref a_p0_st, .ref a_p0_isKept, .int (Int32.ofInt i_p0_seats), .int (Int32.ofInt i_p0_stirs), .ref a_p0_brings, .ref a_p0_need, .ref a_p0_draft, .int (Int32.ofInt i_p0_dSeats), .int (Int32.ofInt i_p0_dStirs), .ref a_p0_dStir, .ref a_p0_dNeed, .int (Int32.ofInt i_p0_told), .int (Int32.ofInt i_p0_highest), .ref a_p0_tape, .int (Int32.ofInt i_p0_taped), .int (Int32.ofInt i_p0_pos), .int (Int32.ofInt i_p0_from), .int (Int32.ofInt i_p0_sort), .int (Int32.ofInt i_p0_value), .int (Int32.ofInt i_p0_fault), .int (Int32.ofInt i_p0_wrongAt), .ref a_p0_places, .ref a_p0_stirred, .ref a_p0_ways, .ref a_p0_waysThen, .ref a_p0_stays, .ref a_p0_fewest, .ref a_p0_bowls, .ref a_p0_has, .ref a_p0_goesOn, .ref a_p0_isThere, .ref a_p0_isThereThen, .ref a_p0_bestRow, .ref a_p0_lanes, .ref a_p0_sizes, .ref a_p0_cells, .int (Int32.ofInt i_p0_torn)])), (a_p0_st, .inl (G 1, 152, .inl (zA v_p0_st))), (a_p0_brings, .inl (G 1, 35, .inl (zA v_p0_brings))), (a_p0_places, .inl (G 1, 7, .inl (zA w9))), (a_p0_ways, .inl (G 2, 49, .inr (.inl (zL w10)))), (a_p0_waysThen, .inl (G 2, 49, .inr (.inl (zL w11))))] → va_S A s.heap H locs → lq2 B21 n z19 z20 = some (r, o_v_p0_places, o_v_p0_ways, o_v_p0_waysThen) → W p l e rm_X12_lasts s m ([.ref a_p0, .int (Int32.ofInt x1), .int (Int32.ofInt x2)] : List Value).toArray below meth c H locs 0 0 Q (F0 m 61 ls []) := by
            clear hf hl hP hD hS
            intro n
            induction n with
            | zero =>
              intro z19 z20 ls H locs hl hP hD hS hf
              exact (lq2_0 hf).elim
            | succ n ih61 =>
              intro z19 z20 ls H locs hl hP hD hS hf
              replace hf := lq2_s eB21 hf
              unfold B_X12_lasts_61 at hf
              refine lv_iload hx hb dX12_lasts_61 (lv_at hl 0 rfl) ?_
              refine lv_bipush (v := Int32.ofInt (49 : Int)) hx hb dX12_lasts_63 (by decide) ?_
              have hr21 := ck_c hf
              replace hf := ck_r hf
              refine lv_icmp_ge (tgt := 84) hx hb dX12_lasts_65 (by decide) (fun cc => ?_) (fun cc => ?_)
              ·
                replace hf := ite_t ((z_le (by decide) hr21).mp cc) hf
                clear cc
                exact hJ16 _ _ _ _ (lv_sub hl [1, 2, 3, 4] rfl) hP hD hS hf
              ·
                replace hf := ite_f (fun h9 => cc ((z_le (by decide) hr21).mpr h9)) hf
                clear cc
                refine lv_lload_n hx hb dX12_lasts_68 rfl (lv_at hl 1 rfl) ?_
                refine lv_aload_n hx hb dX12_lasts_69 rfl (lv_at hl 2 rfl) ?_
                refine va_get (D := D) (ci := 12) (v := .ref a_p0_ways) (C := RX12) (T := TX12) (N := 37) hx hb hts inX12_lasts_X12 hown hK hP 0 rfl rfl 23 (by decide) (hts _ mwX12_lasts_4) (fun _ h9 => h9) rfl dX12_lasts_70 ?_
                refine lv_iload hx hb dX12_lasts_73 (lv_at hl 0 rfl) ?_
                have hc := ck_c hf
                replace hf := ck_r hf
                refine va_lald hx hb hK hP 4 2 rfl rfl (z_ix_in hc) dX12_lasts_75 (z_cl (z_aldL w10 hc) ?_)
                clear hc
                refine lv_ladd hx hb dX12_lasts_76 (z_cl (Int64.ofInt_add z20 (w10 z19)) ?_)
                refine z_topl (fun z23 ez => ?_)
                replace hf := bnd_s hf ez
                clear ez
                refine lv_lstore_n (lv' := [(3, .long (Int64.ofInt z23)), (5, .int (Int32.ofInt z19)), (0, .ref a_p0), (1, .int (Int32.ofInt x1)), (2, .int (Int32.ofInt x2))]) hx hb dX12_lasts_77 rfl hl (by decide) rfl (fun ls hl => ?_)
                obtain ⟨z24, ez⟩ : ∃ y : Int, y = (z19 + (1 : Int)) := ⟨_, rfl⟩
                replace hf := bnd_s hf ez
                refine lv_iinc (v := Int32.ofInt z24) (lv' := [(5, .int (Int32.ofInt z24)), (3, .long (Int64.ofInt z23)), (0, .ref a_p0), (1, .int (Int32.ofInt x1)), (2, .int (Int32.ofInt x2))]) hx hb dX12_lasts_78 hl (k := 1) rfl (by rw [ez]; exact (Int32.ofInt_add _ _).symm) (by decide) rfl (fun ls hl => ?_)
                clear ez
                refine lv_goto (tgt := 61) hx hb dX12_lasts_81 (by decide) ?_
                exact ih61 _ _ _ _ _ (lv_sub hl [0, 1, 2, 3, 4] rfl) hP hD hS hf
          exact hB21 _ _ _ _ _ _ (lv_sub hl [0, 1, 2, 3, 4] rfl) hP hD hS hf
        have hq := lq4_i hf
        clear hf
        obtain ⟨B29, eB29, NB29, hf⟩ := hq
        have hB29 : ∀ (n : Nat) (z25 : Int) (w26 : (Int → Int)) (w27 : (Int → Int)) (w28 : (Int → Int)) (ls : Array Slot) (H : Heap) (locs : List Loc), lv_has ls 6 [(3, .int (Int32.ofInt z25)), (0, .ref a_p0), (1, .int (Int32.ofInt x1)), (2, .int (Int32.ofInt x2))] → va_P D vwCl [(a_p0, .inr (12, [.ref a_p0_st, .ref a_p0_isKept, .int (Int32.ofInt i_p0_seats), .int (Int32.ofInt i_p0_stirs), .ref a_p0_brings, .ref a_p0_need, .ref a_p0_draft, .int (Int32.ofInt i_p0_dSeats), .int (Int32.ofInt i_p0_dStirs), .ref a_p0_dStir, .ref a_p0_dNeed, .int (Int32.ofInt i_p0_told), .int (Int32.ofInt i_p0_highest), .ref a_p0_tape, .int (Int32.ofInt i_p0_taped), .int (Int32.ofInt i_p0_pos), .int (Int32.ofInt i_p0_from), .int (Int32.ofInt i_p0_sort), .int (Int32.ofInt i_p0_value), .int (Int32.ofInt i_p0_fault), .int (Int32.ofInt i_p0_wrongAt), .ref a_p0_places, .ref a_p0_stirred, .ref a_p0_ways, .ref a_p0_waysThen, .ref a_p0_stays, .ref a_p0_fewest, .ref a_p0_bowls, .ref a_p0_has, .ref a_p0_goesOn, .ref a_p0_isThere, .ref a_p0_isThereThen, .ref a_p0_bestRow, .ref a_p0_lanes, .ref a_p0_sizes, .ref a_p0_cells, .int (Int32.ofInt i_p0_torn)])), (a_p0_st, .inl (G 1, 152, .inl (zA v_p0_st))), (a_p0_brings, .inl (G 1, 35, .inl (zA v_p0_brings))), (a_p0_places, .inl (G 1, 7, .inl (zA w26))), (a_p0_ways, .inl (G 2, 49, .inr (.inl (zL w27)))), (a_p0_waysThen, .inl (G 2, 49, .inr (.inl (zL w28))))] H → va_D A [(a_p0, .inr (12, [.ref a_p0_st, .ref a_p0_isKept, .int (Int32.ofInt i_p0_seats), .int (Int32.ofInt i_p0_stirs), .ref a_p0_brings, .ref a_p0_need, .ref a_p0_draft, .int (Int32.ofInt i_p0_dSeats), .int (Int32.ofInt i_p0_dStirs), .ref a_p0_dStir, .ref a_p0_dNeed, .int (Int32.ofInt i_p0_told), .int (Int32.ofInt i_p0_highest), .ref a_p0_tape, .int (Int32.ofInt i_p0_taped), .int (Int32.ofInt i_p0_pos), .int (Int32.ofInt i_p0_from), .int (Int32.ofInt i_p0_sort), .int (Int32.ofInt i_p0_value), .int (Int32.ofInt i_p0_fault), .int (Int32.ofInt i_p0_wrongAt), .ref a_p0_places, .ref a_p0_stirred, .ref a_p0_ways, .ref a_p0_waysThen, .ref a_p0_stays, .ref a_p0_fewest, .ref a_p0_bowls, .ref a_p0_has, .ref a_p0_goesOn, .ref a_p0_isThere, .ref a_p0_isThereThen, .ref a_p0_bestRow, .ref a_p0_lanes, .ref a_p0_sizes, .ref a_p0_cells, .int (Int32.ofInt i_p0_torn)])), (a_p0_st, .inl (G 1, 152, .inl (zA v_p0_st))), (a_p0_brings, .inl (G 1, 35, .inl (zA v_p0_brings))), (a_p0_places, .inl (G 1, 7, .inl (zA w26))), (a_p0_ways, .inl (G 2, 49, .inr (.inl (zL w27)))), (a_p0_waysThen, .inl (G 2, 49, .inr (.inl (zL w28))))] → va_S A s.heap H locs → lq4 B29 n z25 w26 w27 w28 = some (r, o_v_p0_places, o_v_p0_ways, o_v_p0_waysThen) → W p l e rm_X12_lasts s m ([.ref a_p0, .int (Int32.ofInt x1), .int (Int32.ofInt x2)] : List Value).toArray below meth c H locs 0 0 Q (F0 m 40 ls []) := by
          clear hf hl hP hD hS
          intro n
          induction n with
          | zero =>
            intro z25 w26 w27 w28 ls H locs hl hP hD hS hf
            exact (lq4_0 hf).elim
          | succ n ih40 =>
            intro z25 w26 w27 w28 ls H locs hl hP hD hS hf
            replace hf := lq4_s eB29 hf
            unfold B_X12_lasts_40 at hf
            refine lv_iload_n hx hb dX12_lasts_40 rfl (lv_at hl 0 rfl) ?_
            refine lv_iload_n hx hb dX12_lasts_41 rfl (lv_at hl 2 rfl) ?_
            have hr29 := ck_c hf
            replace hf := ck_r hf
            refine lv_icmp_ge (tgt := 56) hx hb dX12_lasts_42 (by decide) (fun cc => ?_) (fun cc => ?_)
            ·
              replace hf := ite_t ((z_le hr0 hr29).mp cc) hf
              clear cc
              exact hJ12 _ _ _ _ _ _ (lv_sub hl [1, 2, 3] rfl) hP hD hS hf
            ·
              replace hf := ite_f (fun h9 => cc ((z_le hr0 hr29).mpr h9)) hf
              clear cc
              refine lv_aload_n hx hb dX12_lasts_45 rfl (lv_at hl 1 rfl) ?_
              refine lv_iconst (v := Int32.ofInt (1 : Int)) hx hb dX12_lasts_46 (by decide) ?_
              have hq := bd3_s hf
              clear hf
              obtain ⟨w31, w32, w33, hcall, hf⟩ := hq
              refine gsV (ws' := [(a_p0, .inr (12, [.ref a_p0_st, .ref a_p0_isKept, .int (Int32.ofInt i_p0_seats), .int (Int32.ofInt i_p0_stirs), .ref a_p0_brings, .ref a_p0_need, .ref a_p0_draft, .int (Int32.ofInt i_p0_dSeats), .int (Int32.ofInt i_p0_dStirs), .ref a_p0_dStir, .ref a_p0_dNeed, .int (Int32.ofInt i_p0_told), .int (Int32.ofInt i_p0_highest), .ref a_p0_tape, .int (Int32.ofInt i_p0_taped), .int (Int32.ofInt i_p0_pos), .int (Int32.ofInt i_p0_from), .int (Int32.ofInt i_p0_sort), .int (Int32.ofInt i_p0_value), .int (Int32.ofInt i_p0_fault), .int (Int32.ofInt i_p0_wrongAt), .ref a_p0_places, .ref a_p0_stirred, .ref a_p0_ways, .ref a_p0_waysThen, .ref a_p0_stays, .ref a_p0_fewest, .ref a_p0_bowls, .ref a_p0_has, .ref a_p0_goesOn, .ref a_p0_isThere, .ref a_p0_isThereThen, .ref a_p0_bestRow, .ref a_p0_lanes, .ref a_p0_sizes, .ref a_p0_cells, .int (Int32.ofInt i_p0_torn)])), (a_p0_st, .inl (G 1, 152, .inl (zA v_p0_st))), (a_p0_brings, .inl (G 1, 35, .inl (zA v_p0_brings))), (a_p0_places, .inl (G 1, 7, .inl (zA w31))), (a_p0_ways, .inl (G 2, 49, .inr (.inl (zL w32)))), (a_p0_waysThen, .inl (G 2, 49, .inr (.inl (zL w33))))]) (va_runV (As := [.int (Int32.ofInt (1 : Int))]) (rest := []) ⟨hx, hb, hml, hown, hts⟩ (c_X12_nextWays (l := l) (D := D) (G := G) (sz := H.size) (a_p0 := a_p0) (a_p0_st := a_p0_st) (a_p0_isKept := a_p0_isKept) (a_p0_brings := a_p0_brings) (a_p0_need := a_p0_need) (a_p0_draft := a_p0_draft) (a_p0_dStir := a_p0_dStir) (a_p0_dNeed := a_p0_dNeed) (a_p0_tape := a_p0_tape) (a_p0_places := a_p0_places) (a_p0_stirred := a_p0_stirred) (a_p0_ways := a_p0_ways) (a_p0_waysThen := a_p0_waysThen) (a_p0_stays := a_p0_stays) (a_p0_fewest := a_p0_fewest) (a_p0_bowls := a_p0_bowls) (a_p0_has := a_p0_has) (a_p0_goesOn := a_p0_goesOn) (a_p0_isThere := a_p0_isThere) (a_p0_isThereThen := a_p0_isThereThen) (a_p0_bestRow := a_p0_bestRow) (a_p0_lanes := a_p0_lanes) (a_p0_sizes := a_p0_sizes) (a_p0_cells := a_p0_cells) (i_p0_seats := i_p0_seats) (i_p0_stirs := i_p0_stirs) (i_p0_dSeats := i_p0_dSeats) (i_p0_dStirs := i_p0_dStirs) (i_p0_told := i_p0_told) (i_p0_highest := i_p0_highest) (i_p0_taped := i_p0_taped) (i_p0_pos := i_p0_pos) (i_p0_from := i_p0_from) (i_p0_sort := i_p0_sort) (i_p0_value := i_p0_value) (i_p0_fault := i_p0_fault) (i_p0_wrongAt := i_p0_wrongAt) (i_p0_torn := i_p0_torn) (v_p0_st := v_p0_st) (v_p0_brings := v_p0_brings) (v_p0_places := w26) (v_p0_ways := w27) (v_p0_waysThen := w28) (x1 := (1 : Int)) (o_v_p0_places := w31) (o_v_p0_ways := w32) (o_v_p0_waysThen := w33) (hf := hcall)) (cwV 1 hts gX12_lasts_X12_nextWays rfl rfl rfl hdV_yX12_nextWays_RX12 ⟨Nat.le_of_ble_eq_true rfl, Nat.le_of_ble_eq_true rfl⟩) (preG_V (ci := 12) (q := (RX12, TX12, 37)) (hP.sub [0, 1, 2, 3, 4, 5] rfl) (hD.sub [0, 1, 2, 3, 4, 5] rfl rfl) hK rfl rfl) rfl rfl hl.1 rfl (lv_room (Nat.le_of_ble_eq_true rfl)) dX12_lasts_47 ⟨Nat.le_of_ble_eq_true rfl, Nat.le_of_ble_eq_true rfl⟩) hP hD hS hA [0, 1, 2, 3, 4, 5] rfl rfl rfl (fun H locs hP hD hS => ?_)
              clear hcall
              obtain ⟨z34, ez⟩ : ∃ y : Int, y = (z25 + (1 : Int)) := ⟨_, rfl⟩
              replace hf := bnd_s hf ez
              refine lv_iinc (v := Int32.ofInt z34) (lv' := [(3, .int (Int32.ofInt z34)), (0, .ref a_p0), (1, .int (Int32.ofInt x1)), (2, .int (Int32.ofInt x2))]) hx hb dX12_lasts_50 hl (k := 0) rfl (by rw [ez]; exact (Int32.ofInt_add _ _).symm) (by decide) rfl (fun ls hl => ?_)
              clear ez
              refine lv_goto (tgt := 40) hx hb dX12_lasts_53 (by decide) ?_
              exact ih40 _ _ _ _ _ _ _ (lv_sub hl [0, 1, 2, 3] rfl) hP hD hS hf
        exact hB29 _ _ _ _ _ _ _ _ (lv_sub hl [0, 1, 2, 3] rfl) hP hD hS hf
      ·
        replace hf := ite_t ((z_eq0 hr5).mp cc) hf
        clear cc
        refine lv_ldc2 (v := (-2 : Int64)) hx hb hown (hts _ mwX12_lasts_5) dX12_lasts_30 (z_cl (show Int64.ofInt (-2 : Int) = _ from by decide) ?_)
        obtain ⟨rfl, rfl, rfl, rfl⟩ := ou4 hf
        rw [hQ]
        exact W.lret hx hb hr (fun t ht hW => ⟨⟨_, (), rfl, rfl, by rw [ht]; exact hP, va_K.moved hW.alike hK, hD⟩, hS.F ht⟩) hS.2.2 dX12_lasts_33
    ·
      replace hf := ite_t ((z_eq0 hr4).mp cc) hf
      clear cc
      refine lv_ldc2 (v := (-1 : Int64)) hx hb hown (hts _ mwX12_lasts_1) dX12_lasts_19 (z_cl (show Int64.ofInt (-1 : Int) = _ from by decide) ?_)
      obtain ⟨rfl, rfl, rfl, rfl⟩ := ou4 hf
      rw [hQ]
      exact W.lret hx hb hr (fun t ht hW => ⟨⟨_, (), rfl, rfl, by rw [ht]; exact hP, va_K.moved hW.alike hK, hD⟩, hS.F ht⟩) hS.2.2 dX12_lasts_22

noncomputable def f_X12_longestFrom (v_p0_stays : (Int → Int)) (x1 : Int) (x2 : Int) : Option (Int) := (ck (z_ix (((49 : Int) * x2) + x1) 539) (some (v_p0_stays (((49 : Int) * x2) + x1))))
abbrev rm_X12_longestFrom : Room := { frames := 0, cells := 0, slots := 0, locals := 0 }
theorem inX12_longestFrom_X12 : ∀ w ∈ wsX120, w ∈ wsX12_longestFrom := by first | exact fun w h => List.mem_cons_of_mem _ (List.mem_append_right _ h) | decide +kernel
theorem mwX12_longestFrom_1 : Cond.fieldLink RX12 48 "LadleKingsModel" "stays" "[I" ∈ wsX12_longestFrom := by first | exact List.mem_of_getElem? (i := 1) rfl | decide +kernel
set_option maxHeartbeats 8000000 in
set_option maxRecDepth 100000 in
theorem c_X12_longestFrom (l : Launch) (D : va_G) (G : Nat → ClassId) (sz : Nat) (a_p0 : Nat) (a_p0_st : Nat) (a_p0_isKept : Nat) (a_p0_brings : Nat) (a_p0_need : Nat) (a_p0_draft : Nat) (a_p0_dStir : Nat) (a_p0_dNeed : Nat) (a_p0_tape : Nat) (a_p0_places : Nat) (a_p0_stirred : Nat) (a_p0_ways : Nat) (a_p0_waysThen : Nat) (a_p0_stays : Nat) (a_p0_fewest : Nat) (a_p0_bowls : Nat) (a_p0_has : Nat) (a_p0_goesOn : Nat) (a_p0_isThere : Nat) (a_p0_isThereThen : Nat) (a_p0_bestRow : Nat) (a_p0_lanes : Nat) (a_p0_sizes : Nat) (a_p0_cells : Nat) (i_p0_seats : Int) (i_p0_stirs : Int) (i_p0_dSeats : Int) (i_p0_dStirs : Int) (i_p0_told : Int) (i_p0_highest : Int) (i_p0_taped : Int) (i_p0_pos : Int) (i_p0_from : Int) (i_p0_sort : Int) (i_p0_value : Int) (i_p0_fault : Int) (i_p0_wrongAt : Int) (i_p0_torn : Int) (v_p0_stays : (Int → Int)) (x1 : Int) (x2 : Int) (r : Int) (hf : f_X12_longestFrom v_p0_stays x1 x2 = some r) : Met l yX12_longestFrom wsX12_longestFrom rm_X12_longestFrom (pcG D G [.ref a_p0, .int (Int32.ofInt x1), .int (Int32.ofInt x2)] sz [(a_p0, .inr (12, [.ref a_p0_st, .ref a_p0_isKept, .int (Int32.ofInt i_p0_seats), .int (Int32.ofInt i_p0_stirs), .ref a_p0_brings, .ref a_p0_need, .ref a_p0_draft, .int (Int32.ofInt i_p0_dSeats), .int (Int32.ofInt i_p0_dStirs), .ref a_p0_dStir, .ref a_p0_dNeed, .int (Int32.ofInt i_p0_told), .int (Int32.ofInt i_p0_highest), .ref a_p0_tape, .int (Int32.ofInt i_p0_taped), .int (Int32.ofInt i_p0_pos), .int (Int32.ofInt i_p0_from), .int (Int32.ofInt i_p0_sort), .int (Int32.ofInt i_p0_value), .int (Int32.ofInt i_p0_fault), .int (Int32.ofInt i_p0_wrongAt), .ref a_p0_places, .ref a_p0_stirred, .ref a_p0_ways, .ref a_p0_waysThen, .ref a_p0_stays, .ref a_p0_fewest, .ref a_p0_bowls, .ref a_p0_has, .ref a_p0_goesOn, .ref a_p0_isThere, .ref a_p0_isThereThen, .ref a_p0_bestRow, .ref a_p0_lanes, .ref a_p0_sizes, .ref a_p0_cells, .int (Int32.ofInt i_p0_torn)])), (a_p0_stays, .inl (G 1, 539, .inl (zA v_p0_stays)))]) (qcI D G (Int32.ofInt r) [(a_p0, .inr (12, [.ref a_p0_st, .ref a_p0_isKept, .int (Int32.ofInt i_p0_seats), .int (Int32.ofInt i_p0_stirs), .ref a_p0_brings, .ref a_p0_need, .ref a_p0_draft, .int (Int32.ofInt i_p0_dSeats), .int (Int32.ofInt i_p0_dStirs), .ref a_p0_dStir, .ref a_p0_dNeed, .int (Int32.ofInt i_p0_told), .int (Int32.ofInt i_p0_highest), .ref a_p0_tape, .int (Int32.ofInt i_p0_taped), .int (Int32.ofInt i_p0_pos), .int (Int32.ofInt i_p0_from), .int (Int32.ofInt i_p0_sort), .int (Int32.ofInt i_p0_value), .int (Int32.ofInt i_p0_fault), .int (Int32.ofInt i_p0_wrongAt), .ref a_p0_places, .ref a_p0_stirred, .ref a_p0_ways, .ref a_p0_waysThen, .ref a_p0_stays, .ref a_p0_fewest, .ref a_p0_bowls, .ref a_p0_has, .ref a_p0_goesOn, .ref a_p0_isThere, .ref a_p0_isThereThen, .ref a_p0_bestRow, .ref a_p0_lanes, .ref a_p0_sizes, .ref a_p0_cells, .int (Int32.ofInt i_p0_torn)])), (a_p0_stays, .inl (G 1, 539, .inl (zA v_p0_stays)))] (va_A [(a_p0, .inr (12, [.ref a_p0_st, .ref a_p0_isKept, .int (Int32.ofInt i_p0_seats), .int (Int32.ofInt i_p0_stirs), .ref a_p0_brings, .ref a_p0_need, .ref a_p0_draft, .int (Int32.ofInt i_p0_dSeats), .int (Int32.ofInt i_p0_dStirs), .ref a_p0_dStir, .ref a_p0_dNeed, .int (Int32.ofInt i_p0_told), .int (Int32.ofInt i_p0_highest), .ref a_p0_tape, .int (Int32.ofInt i_p0_taped), .int (Int32.ofInt i_p0_pos), .int (Int32.ofInt i_p0_from), .int (Int32.ofInt i_p0_sort), .int (Int32.ofInt i_p0_value), .int (Int32.ofInt i_p0_fault), .int (Int32.ofInt i_p0_wrongAt), .ref a_p0_places, .ref a_p0_stirred, .ref a_p0_ways, .ref a_p0_waysThen, .ref a_p0_stays, .ref a_p0_fewest, .ref a_p0_bowls, .ref a_p0_has, .ref a_p0_goesOn, .ref a_p0_isThere, .ref a_p0_isThereThen, .ref a_p0_bestRow, .ref a_p0_lanes, .ref a_p0_sizes, .ref a_p0_cells, .int (Int32.ofInt i_p0_torn)])), (a_p0_stays, .inl (G 1, 539, .inl (zA v_p0_stays)))] sz)) 0 0 (va_A [(a_p0, .inr (12, [.ref a_p0_st, .ref a_p0_isKept, .int (Int32.ofInt i_p0_seats), .int (Int32.ofInt i_p0_stirs), .ref a_p0_brings, .ref a_p0_need, .ref a_p0_draft, .int (Int32.ofInt i_p0_dSeats), .int (Int32.ofInt i_p0_dStirs), .ref a_p0_dStir, .ref a_p0_dNeed, .int (Int32.ofInt i_p0_told), .int (Int32.ofInt i_p0_highest), .ref a_p0_tape, .int (Int32.ofInt i_p0_taped), .int (Int32.ofInt i_p0_pos), .int (Int32.ofInt i_p0_from), .int (Int32.ofInt i_p0_sort), .int (Int32.ofInt i_p0_value), .int (Int32.ofInt i_p0_fault), .int (Int32.ofInt i_p0_wrongAt), .ref a_p0_places, .ref a_p0_stirred, .ref a_p0_ways, .ref a_p0_waysThen, .ref a_p0_stays, .ref a_p0_fewest, .ref a_p0_bowls, .ref a_p0_has, .ref a_p0_goesOn, .ref a_p0_isThere, .ref a_p0_isThereThen, .ref a_p0_bestRow, .ref a_p0_lanes, .ref a_p0_sizes, .ref a_p0_cells, .int (Int32.ofInt i_p0_torn)])), (a_p0_stays, .inl (G 1, 539, .inl (zA v_p0_stays)))] sz) := by
  refine Met.ofW (cc := cX12_longestFrom) (maxL := 3) (ret := (some .int)) (by decide) rfl ?_
  intro p e s m args below meth c s₁ B hml hv
  obtain ⟨rfl, hsz, hP, hK, hD0⟩ := hv
  have hx := B.exec
  have hb := B.bytes
  have hr := B.returns
  have hts := atoms_spec (ws := wsX12_longestFrom) B.pre
  have hown : s.vm.findClass RX12 = some m.cls := findClass_of_methodNamed B.named
  have hlocks := B.notSynchronized
  subst hsz
  have hD := hD0.self (sz := s.heap.size)
  generalize hAe : va_A [(a_p0, .inr (12, [.ref a_p0_st, .ref a_p0_isKept, .int (Int32.ofInt i_p0_seats), .int (Int32.ofInt i_p0_stirs), .ref a_p0_brings, .ref a_p0_need, .ref a_p0_draft, .int (Int32.ofInt i_p0_dSeats), .int (Int32.ofInt i_p0_dStirs), .ref a_p0_dStir, .ref a_p0_dNeed, .int (Int32.ofInt i_p0_told), .int (Int32.ofInt i_p0_highest), .ref a_p0_tape, .int (Int32.ofInt i_p0_taped), .int (Int32.ofInt i_p0_pos), .int (Int32.ofInt i_p0_from), .int (Int32.ofInt i_p0_sort), .int (Int32.ofInt i_p0_value), .int (Int32.ofInt i_p0_fault), .int (Int32.ofInt i_p0_wrongAt), .ref a_p0_places, .ref a_p0_stirred, .ref a_p0_ways, .ref a_p0_waysThen, .ref a_p0_stays, .ref a_p0_fewest, .ref a_p0_bowls, .ref a_p0_has, .ref a_p0_goesOn, .ref a_p0_isThere, .ref a_p0_isThereThen, .ref a_p0_bestRow, .ref a_p0_lanes, .ref a_p0_sizes, .ref a_p0_cells, .int (Int32.ofInt i_p0_torn)])), (a_p0_stays, .inl (G 1, 539, .inl (zA v_p0_stays)))] s.heap.size = A at hD ⊢
  have hA : ∀ q : Nat, s.heap.size ≤ q → A q := fun q h => by rw [← hAe]; exact Or.inr h
  clear hAe hD0
  have hS : va_S A s.heap s.heap [] := va_S.rf
  have hl := lv_entry ([.ref a_p0, .int (Int32.ofInt x1), .int (Int32.ofInt x2)]) (n := 3) (Nat.le_of_ble_eq_true rfl)
  rw [lg_entry_eq]
  generalize (lg_sl ([.ref a_p0, .int (Int32.ofInt x1), .int (Int32.ofInt x2)]) ++ List.replicate (3 - (lg_sl ([.ref a_p0, .int (Int32.ofInt x1), .int (Int32.ofInt x2)])).length) Slot.unset).toArray = ls at hl ⊢
  have hl : lv_has ls 3 [(0, .ref a_p0), (1, .int (Int32.ofInt x1)), (2, .int (Int32.ofInt x2))] := hl
  refine W_nameQ (fun Q hQ => ?_)
  obtain ⟨H, hH⟩ : ∃ H, H = s.heap := ⟨_, rfl⟩
  replace hS : va_S A s.heap H [] := by rw [hH]; exact hS
  replace hP : va_P D vwCl [(a_p0, .inr (12, [.ref a_p0_st, .ref a_p0_isKept, .int (Int32.ofInt i_p0_seats), .int (Int32.ofInt i_p0_stirs), .ref a_p0_brings, .ref a_p0_need, .ref a_p0_draft, .int (Int32.ofInt i_p0_dSeats), .int (Int32.ofInt i_p0_dStirs), .ref a_p0_dStir, .ref a_p0_dNeed, .int (Int32.ofInt i_p0_told), .int (Int32.ofInt i_p0_highest), .ref a_p0_tape, .int (Int32.ofInt i_p0_taped), .int (Int32.ofInt i_p0_pos), .int (Int32.ofInt i_p0_from), .int (Int32.ofInt i_p0_sort), .int (Int32.ofInt i_p0_value), .int (Int32.ofInt i_p0_fault), .int (Int32.ofInt i_p0_wrongAt), .ref a_p0_places, .ref a_p0_stirred, .ref a_p0_ways, .ref a_p0_waysThen, .ref a_p0_stays, .ref a_p0_fewest, .ref a_p0_bowls, .ref a_p0_has, .ref a_p0_goesOn, .ref a_p0_isThere, .ref a_p0_isThereThen, .ref a_p0_bestRow, .ref a_p0_lanes, .ref a_p0_sizes, .ref a_p0_cells, .int (Int32.ofInt i_p0_torn)])), (a_p0_stays, .inl (G 1, 539, .inl (zA v_p0_stays)))] H := by rw [hH]; exact hP
  rw [← hH]
  clear hH
  unfold f_X12_longestFrom at hf
  refine lv_aload_n hx hb dX12_longestFrom_0 rfl (lv_at hl 0 rfl) ?_
  refine va_get (D := D) (ci := 12) (v := .ref a_p0_stays) (C := RX12) (T := TX12) (N := 37) hx hb hts inX12_longestFrom_X12 hown hK hP 0 rfl rfl 25 (by decide) (hts _ mwX12_longestFrom_1) (fun _ h9 => h9) rfl dX12_longestFrom_1 ?_
  refine lv_bipush (v := Int32.ofInt (49 : Int)) hx hb dX12_longestFrom_4 (by decide) ?_
  refine lv_iload_n hx hb dX12_longestFrom_6 rfl (lv_at hl 2 rfl) ?_
  refine lv_imul hx hb dX12_longestFrom_7 (z_ci (Int32.ofInt_mul (49 : Int) x2) ?_)
  refine lv_iload_n hx hb dX12_longestFrom_8 rfl (lv_at hl 1 rfl) ?_
  refine lv_iadd hx hb dX12_longestFrom_9 (z_ci (Int32.ofInt_add ((49 : Int) * x2) x1) ?_)
  have hc := ck_c hf
  replace hf := ck_r hf
  refine va_iald hx hb hK hP 1 1 rfl rfl (z_ix_in hc) dX12_longestFrom_10 (z_ci (z_ald v_p0_stays hc) ?_)
  clear hc
  obtain rfl := ou1 hf
  rw [hQ]
  exact W.iret hx hb hr (fun t ht hW => ⟨⟨_, (), rfl, rfl, by rw [ht]; exact hP, va_K.moved hW.alike hK, hD⟩, hS.F ht⟩) hS.2.2 dX12_longestFrom_11

noncomputable def B_X12_findStays_42 (i_p0_stirs : Int) (J22 : Int → (Int → Int) → Option ((Int → Int) × (Int → Int))) (z12 : Int) (i_p0_seats : Int) (v_p0_st : (Int → Int)) (v_p0_brings : (Int → Int)) (w14 : (Int → Int)) (z5 : Int) (again42 : Int → Int → (Int → Int) → Option ((Int → Int) × (Int → Int))) (z25 : Int) (z26 : Int) (w27 : (Int → Int)) : Option ((Int → Int) × (Int → Int)) := (ck (z_r32 z25) (ck (z_r32 i_p0_stirs) (if i_p0_stirs ≤ z25 then (J22 z26 w27) else (ck (z_dv z12 (7 : Int)) (ck (z_r32 (z12 % (7 : Int))) (ck (z_r32 i_p0_seats) (if i_p0_seats ≤ (z12 % (7 : Int)) then (J22 z26 w27) else (ck (z_dv z12 (7 : Int)) (ck (z_r32 (z12 / (7 : Int))) (if i_p0_seats ≤ (z12 / (7 : Int)) then (J22 z26 w27) else (bd2 (f_X12_then i_p0_seats v_p0_st v_p0_brings w27 z12 z25) (fun (z34 : Int) (w35 : (Int → Int)) => (bnd z34 (fun (z36 : Int) => (ck (z_dv z36 (7 : Int)) (ck (z_dv z12 (7 : Int)) (ck (z_r32 (z36 % (7 : Int))) (jn (fun (z38 : Int) => (bnd z38 (fun (z40 : Int) => (ck (z_r32 z40) (ck (z_r32 z26) (if z40 ≤ z26 then (bnd z26 (fun (z43 : Int) => (bnd (z25 + (1 : Int)) (fun (z44 : Int) => (again42 z44 z43 w35))))) else (bnd z40 (fun (z45 : Int) => (bnd (z25 + (1 : Int)) (fun (z46 : Int) => (again42 z46 z45 w35))))))))))) (fun (J39 : Int → Option ((Int → Int) × (Int → Int))) => (if (z36 % (7 : Int)) = (z12 % (7 : Int)) then (bd1 (f_X12_longestFrom w14 z36 (z5 - (1 : Int))) (fun (z47 : Int) => (J39 ((1 : Int) + z47)))) else (J39 (0 : Int))))))))))))))))))))))
noncomputable def B_X12_findStays_30 (z5 : Int) (again23 : Int → (Int → Int) → (Int → Int) → Option ((Int → Int) × (Int → Int))) (i_p0_stirs : Int) (i_p0_seats : Int) (v_p0_st : (Int → Int)) (v_p0_brings : (Int → Int)) (again30 : Int → (Int → Int) → (Int → Int) → Option ((Int → Int) × (Int → Int))) (z12 : Int) (w13 : (Int → Int)) (w14 : (Int → Int)) : Option ((Int → Int) × (Int → Int)) := (ck (z_r32 z12) (if (49 : Int) ≤ z12 then (bnd (z5 + (1 : Int)) (fun (z17 : Int) => (again23 z17 w13 w14))) else (bnd (0 : Int) (fun (z18 : Int) => (bnd (0 : Int) (fun (z19 : Int) => (jn (fun (z20 : Int) (w21 : (Int → Int)) => (ck (z_ix (((49 : Int) * z5) + z12) 539) (bnd (z_up w14 (((49 : Int) * z5) + z12) z20) (fun (w23 : (Int → Int)) => (bnd (z12 + (1 : Int)) (fun (z24 : Int) => (again30 z24 w21 w23))))))) (fun (J22 : Int → (Int → Int) → Option ((Int → Int) × (Int → Int))) => (lq3 (B_X12_findStays_42 i_p0_stirs J22 z12 i_p0_seats v_p0_st v_p0_brings w14 z5) 1000 z19 z18 w13)))))))))
noncomputable def B_X12_findStays_23 (x1 : Int) (i_p0_stirs : Int) (i_p0_seats : Int) (v_p0_st : (Int → Int)) (v_p0_brings : (Int → Int)) (again23 : Int → (Int → Int) → (Int → Int) → Option ((Int → Int) × (Int → Int))) (z5 : Int) (w6 : (Int → Int)) (w7 : (Int → Int)) : Option ((Int → Int) × (Int → Int)) := (ck (z_r32 z5) (ck (z_r32 x1) (if x1 < z5 then (some (w6, w7)) else (bnd (0 : Int) (fun (z11 : Int) => (lq3 (B_X12_findStays_30 z5 again23 i_p0_stirs i_p0_seats v_p0_st v_p0_brings) 1000 z11 w6 w7))))))
noncomputable def B_X12_findStays_2 (J3 : (Int → Int) → Option ((Int → Int) × (Int → Int))) (again2 : Int → (Int → Int) → Option ((Int → Int) × (Int → Int))) (z48 : Int) (w49 : (Int → Int)) : Option ((Int → Int) × (Int → Int)) := (ck (z_r32 z48) (if (49 : Int) ≤ z48 then (J3 w49) else (ck (z_ix z48 539) (bnd (z_up w49 z48 (0 : Int)) (fun (w52 : (Int → Int)) => (bnd (z48 + (1 : Int)) (fun (z53 : Int) => (again2 z53 w52))))))))
noncomputable def f_X12_findStays (i_p0_seats : Int) (i_p0_stirs : Int) (v_p0_st : (Int → Int)) (v_p0_brings : (Int → Int)) (v_p0_places : (Int → Int)) (v_p0_stays : (Int → Int)) (x1 : Int) : Option ((Int → Int) × (Int → Int)) := (bnd (0 : Int) (fun (z1 : Int) => (jn (fun (w2 : (Int → Int)) => (bnd (1 : Int) (fun (z4 : Int) => (lq3 (B_X12_findStays_23 x1 i_p0_stirs i_p0_seats v_p0_st v_p0_brings) 1000 z4 v_p0_places w2)))) (fun (J3 : (Int → Int) → Option ((Int → Int) × (Int → Int))) => (lq2 (B_X12_findStays_2 J3) 1000 z1 v_p0_stays)))))
abbrev rm_X12_findStays : Room := { frames := 4, cells := 0, slots := 0, locals := 92 }
theorem inX12_findStays_X12 : ∀ w ∈ wsX120, w ∈ wsX12_findStays := by first | exact fun w h => List.mem_cons_of_mem _ (List.mem_append_right _ h) | decide +kernel
theorem mwX12_findStays_1 : Cond.fieldLink RX12 48 "LadleKingsModel" "stays" "[I" ∈ wsX12_findStays := by first | exact List.mem_of_getElem? (i := 1) rfl | decide +kernel
theorem mwX12_findStays_2 : Cond.fieldLink RX12 103 "LadleKingsModel" "stirs" "I" ∈ wsX12_findStays := by first | exact List.mem_of_getElem? (i := 2) rfl | decide +kernel
theorem mwX12_findStays_3 : Cond.fieldLink RX12 100 "LadleKingsModel" "seats" "I" ∈ wsX12_findStays := by first | exact List.mem_of_getElem? (i := 3) rfl | decide +kernel
theorem hdV_yX12_longestFrom_RX12 : yX12_longestFrom.cls = RX12 ∧ yX12_longestFrom.cls ≠ "java/lang/invoke/MethodHandle" ∧ yX12_longestFrom.cls ≠ "java/lang/invoke/VarHandle" ∧ (parseMethodDescriptor yX12_longestFrom.desc).map (fun d => d.parameters.length) = some 2 := by decide +kernel
set_option maxHeartbeats 8000000 in
set_option maxRecDepth 100000 in
theorem c_X12_findStays (l : Launch) (D : va_G) (G : Nat → ClassId) (sz : Nat) (a_p0 : Nat) (a_p0_st : Nat) (a_p0_isKept : Nat) (a_p0_brings : Nat) (a_p0_need : Nat) (a_p0_draft : Nat) (a_p0_dStir : Nat) (a_p0_dNeed : Nat) (a_p0_tape : Nat) (a_p0_places : Nat) (a_p0_stirred : Nat) (a_p0_ways : Nat) (a_p0_waysThen : Nat) (a_p0_stays : Nat) (a_p0_fewest : Nat) (a_p0_bowls : Nat) (a_p0_has : Nat) (a_p0_goesOn : Nat) (a_p0_isThere : Nat) (a_p0_isThereThen : Nat) (a_p0_bestRow : Nat) (a_p0_lanes : Nat) (a_p0_sizes : Nat) (a_p0_cells : Nat) (i_p0_seats : Int) (i_p0_stirs : Int) (i_p0_dSeats : Int) (i_p0_dStirs : Int) (i_p0_told : Int) (i_p0_highest : Int) (i_p0_taped : Int) (i_p0_pos : Int) (i_p0_from : Int) (i_p0_sort : Int) (i_p0_value : Int) (i_p0_fault : Int) (i_p0_wrongAt : Int) (i_p0_torn : Int) (v_p0_st : (Int → Int)) (v_p0_brings : (Int → Int)) (v_p0_places : (Int → Int)) (v_p0_stays : (Int → Int)) (x1 : Int) (o_v_p0_places : (Int → Int)) (o_v_p0_stays : (Int → Int)) (hf : f_X12_findStays i_p0_seats i_p0_stirs v_p0_st v_p0_brings v_p0_places v_p0_stays x1 = some (o_v_p0_places, o_v_p0_stays)) : Met l yX12_findStays wsX12_findStays rm_X12_findStays (pcG D G [.ref a_p0, .int (Int32.ofInt x1)] sz [(a_p0, .inr (12, [.ref a_p0_st, .ref a_p0_isKept, .int (Int32.ofInt i_p0_seats), .int (Int32.ofInt i_p0_stirs), .ref a_p0_brings, .ref a_p0_need, .ref a_p0_draft, .int (Int32.ofInt i_p0_dSeats), .int (Int32.ofInt i_p0_dStirs), .ref a_p0_dStir, .ref a_p0_dNeed, .int (Int32.ofInt i_p0_told), .int (Int32.ofInt i_p0_highest), .ref a_p0_tape, .int (Int32.ofInt i_p0_taped), .int (Int32.ofInt i_p0_pos), .int (Int32.ofInt i_p0_from), .int (Int32.ofInt i_p0_sort), .int (Int32.ofInt i_p0_value), .int (Int32.ofInt i_p0_fault), .int (Int32.ofInt i_p0_wrongAt), .ref a_p0_places, .ref a_p0_stirred, .ref a_p0_ways, .ref a_p0_waysThen, .ref a_p0_stays, .ref a_p0_fewest, .ref a_p0_bowls, .ref a_p0_has, .ref a_p0_goesOn, .ref a_p0_isThere, .ref a_p0_isThereThen, .ref a_p0_bestRow, .ref a_p0_lanes, .ref a_p0_sizes, .ref a_p0_cells, .int (Int32.ofInt i_p0_torn)])), (a_p0_st, .inl (G 1, 152, .inl (zA v_p0_st))), (a_p0_brings, .inl (G 1, 35, .inl (zA v_p0_brings))), (a_p0_places, .inl (G 1, 7, .inl (zA v_p0_places))), (a_p0_stays, .inl (G 1, 539, .inl (zA v_p0_stays)))]) (qcV D G [(a_p0, .inr (12, [.ref a_p0_st, .ref a_p0_isKept, .int (Int32.ofInt i_p0_seats), .int (Int32.ofInt i_p0_stirs), .ref a_p0_brings, .ref a_p0_need, .ref a_p0_draft, .int (Int32.ofInt i_p0_dSeats), .int (Int32.ofInt i_p0_dStirs), .ref a_p0_dStir, .ref a_p0_dNeed, .int (Int32.ofInt i_p0_told), .int (Int32.ofInt i_p0_highest), .ref a_p0_tape, .int (Int32.ofInt i_p0_taped), .int (Int32.ofInt i_p0_pos), .int (Int32.ofInt i_p0_from), .int (Int32.ofInt i_p0_sort), .int (Int32.ofInt i_p0_value), .int (Int32.ofInt i_p0_fault), .int (Int32.ofInt i_p0_wrongAt), .ref a_p0_places, .ref a_p0_stirred, .ref a_p0_ways, .ref a_p0_waysThen, .ref a_p0_stays, .ref a_p0_fewest, .ref a_p0_bowls, .ref a_p0_has, .ref a_p0_goesOn, .ref a_p0_isThere, .ref a_p0_isThereThen, .ref a_p0_bestRow, .ref a_p0_lanes, .ref a_p0_sizes, .ref a_p0_cells, .int (Int32.ofInt i_p0_torn)])), (a_p0_st, .inl (G 1, 152, .inl (zA v_p0_st))), (a_p0_brings, .inl (G 1, 35, .inl (zA v_p0_brings))), (a_p0_places, .inl (G 1, 7, .inl (zA o_v_p0_places))), (a_p0_stays, .inl (G 1, 539, .inl (zA o_v_p0_stays)))] (va_A [(a_p0, .inr (12, [.ref a_p0_st, .ref a_p0_isKept, .int (Int32.ofInt i_p0_seats), .int (Int32.ofInt i_p0_stirs), .ref a_p0_brings, .ref a_p0_need, .ref a_p0_draft, .int (Int32.ofInt i_p0_dSeats), .int (Int32.ofInt i_p0_dStirs), .ref a_p0_dStir, .ref a_p0_dNeed, .int (Int32.ofInt i_p0_told), .int (Int32.ofInt i_p0_highest), .ref a_p0_tape, .int (Int32.ofInt i_p0_taped), .int (Int32.ofInt i_p0_pos), .int (Int32.ofInt i_p0_from), .int (Int32.ofInt i_p0_sort), .int (Int32.ofInt i_p0_value), .int (Int32.ofInt i_p0_fault), .int (Int32.ofInt i_p0_wrongAt), .ref a_p0_places, .ref a_p0_stirred, .ref a_p0_ways, .ref a_p0_waysThen, .ref a_p0_stays, .ref a_p0_fewest, .ref a_p0_bowls, .ref a_p0_has, .ref a_p0_goesOn, .ref a_p0_isThere, .ref a_p0_isThereThen, .ref a_p0_bestRow, .ref a_p0_lanes, .ref a_p0_sizes, .ref a_p0_cells, .int (Int32.ofInt i_p0_torn)])), (a_p0_st, .inl (G 1, 152, .inl (zA v_p0_st))), (a_p0_brings, .inl (G 1, 35, .inl (zA v_p0_brings))), (a_p0_places, .inl (G 1, 7, .inl (zA v_p0_places))), (a_p0_stays, .inl (G 1, 539, .inl (zA v_p0_stays)))] sz)) 0 0 (va_A [(a_p0, .inr (12, [.ref a_p0_st, .ref a_p0_isKept, .int (Int32.ofInt i_p0_seats), .int (Int32.ofInt i_p0_stirs), .ref a_p0_brings, .ref a_p0_need, .ref a_p0_draft, .int (Int32.ofInt i_p0_dSeats), .int (Int32.ofInt i_p0_dStirs), .ref a_p0_dStir, .ref a_p0_dNeed, .int (Int32.ofInt i_p0_told), .int (Int32.ofInt i_p0_highest), .ref a_p0_tape, .int (Int32.ofInt i_p0_taped), .int (Int32.ofInt i_p0_pos), .int (Int32.ofInt i_p0_from), .int (Int32.ofInt i_p0_sort), .int (Int32.ofInt i_p0_value), .int (Int32.ofInt i_p0_fault), .int (Int32.ofInt i_p0_wrongAt), .ref a_p0_places, .ref a_p0_stirred, .ref a_p0_ways, .ref a_p0_waysThen, .ref a_p0_stays, .ref a_p0_fewest, .ref a_p0_bowls, .ref a_p0_has, .ref a_p0_goesOn, .ref a_p0_isThere, .ref a_p0_isThereThen, .ref a_p0_bestRow, .ref a_p0_lanes, .ref a_p0_sizes, .ref a_p0_cells, .int (Int32.ofInt i_p0_torn)])), (a_p0_st, .inl (G 1, 152, .inl (zA v_p0_st))), (a_p0_brings, .inl (G 1, 35, .inl (zA v_p0_brings))), (a_p0_places, .inl (G 1, 7, .inl (zA v_p0_places))), (a_p0_stays, .inl (G 1, 539, .inl (zA v_p0_stays)))] sz) := by
  refine Met.ofW (cc := cX12_findStays) (maxL := 8) (ret := none) (by decide) rfl ?_
  intro p e s m args below meth c s₁ B hml hv
  obtain ⟨rfl, hsz, hP, hK, hD0⟩ := hv
  have hx := B.exec
  have hb := B.bytes
  have hr := B.returns
  have hts := atoms_spec (ws := wsX12_findStays) B.pre
  have hown : s.vm.findClass RX12 = some m.cls := findClass_of_methodNamed B.named
  have hlocks := B.notSynchronized
  subst hsz
  have hD := hD0.self (sz := s.heap.size)
  generalize hAe : va_A [(a_p0, .inr (12, [.ref a_p0_st, .ref a_p0_isKept, .int (Int32.ofInt i_p0_seats), .int (Int32.ofInt i_p0_stirs), .ref a_p0_brings, .ref a_p0_need, .ref a_p0_draft, .int (Int32.ofInt i_p0_dSeats), .int (Int32.ofInt i_p0_dStirs), .ref a_p0_dStir, .ref a_p0_dNeed, .int (Int32.ofInt i_p0_told), .int (Int32.ofInt i_p0_highest), .ref a_p0_tape, .int (Int32.ofInt i_p0_taped), .int (Int32.ofInt i_p0_pos), .int (Int32.ofInt i_p0_from), .int (Int32.ofInt i_p0_sort), .int (Int32.ofInt i_p0_value), .int (Int32.ofInt i_p0_fault), .int (Int32.ofInt i_p0_wrongAt), .ref a_p0_places, .ref a_p0_stirred, .ref a_p0_ways, .ref a_p0_waysThen, .ref a_p0_stays, .ref a_p0_fewest, .ref a_p0_bowls, .ref a_p0_has, .ref a_p0_goesOn, .ref a_p0_isThere, .ref a_p0_isThereThen, .ref a_p0_bestRow, .ref a_p0_lanes, .ref a_p0_sizes, .ref a_p0_cells, .int (Int32.ofInt i_p0_torn)])), (a_p0_st, .inl (G 1, 152, .inl (zA v_p0_st))), (a_p0_brings, .inl (G 1, 35, .inl (zA v_p0_brings))), (a_p0_places, .inl (G 1, 7, .inl (zA v_p0_places))), (a_p0_stays, .inl (G 1, 539, .inl (zA v_p0_stays)))] s.heap.size = A at hD ⊢
  have hA : ∀ q : Nat, s.heap.size ≤ q → A q := fun q h => by rw [← hAe]; exact Or.inr h
  clear hAe hD0
  have hS : va_S A s.heap s.heap [] := va_S.rf
  have hl := lv_entry ([.ref a_p0, .int (Int32.ofInt x1)]) (n := 8) (Nat.le_of_ble_eq_true rfl)
  rw [lg_entry_eq]
  generalize (lg_sl ([.ref a_p0, .int (Int32.ofInt x1)]) ++ List.replicate (8 - (lg_sl ([.ref a_p0, .int (Int32.ofInt x1)])).length) Slot.unset).toArray = ls at hl ⊢
  have hl : lv_has ls 8 [(0, .ref a_p0), (1, .int (Int32.ofInt x1))] := hl
  refine W_nameQ (fun Q hQ => ?_)
  obtain ⟨H, hH⟩ : ∃ H, H = s.heap := ⟨_, rfl⟩
  replace hS : va_S A s.heap H [] := by rw [hH]; exact hS
  replace hP : va_P D vwCl [(a_p0, .inr (12, [.ref a_p0_st, .ref a_p0_isKept, .int (Int32.ofInt i_p0_seats), .int (Int32.ofInt i_p0_stirs), .ref a_p0_brings, .ref a_p0_need, .ref a_p0_draft, .int (Int32.ofInt i_p0_dSeats), .int (Int32.ofInt i_p0_dStirs), .ref a_p0_dStir, .ref a_p0_dNeed, .int (Int32.ofInt i_p0_told), .int (Int32.ofInt i_p0_highest), .ref a_p0_tape, .int (Int32.ofInt i_p0_taped), .int (Int32.ofInt i_p0_pos), .int (Int32.ofInt i_p0_from), .int (Int32.ofInt i_p0_sort), .int (Int32.ofInt i_p0_value), .int (Int32.ofInt i_p0_fault), .int (Int32.ofInt i_p0_wrongAt), .ref a_p0_places, .ref a_p0_stirred, .ref a_p0_ways, .ref a_p0_waysThen, .ref a_p0_stays, .ref a_p0_fewest, .ref a_p0_bowls, .ref a_p0_has, .ref a_p0_goesOn, .ref a_p0_isThere, .ref a_p0_isThereThen, .ref a_p0_bestRow, .ref a_p0_lanes, .ref a_p0_sizes, .ref a_p0_cells, .int (Int32.ofInt i_p0_torn)])), (a_p0_st, .inl (G 1, 152, .inl (zA v_p0_st))), (a_p0_brings, .inl (G 1, 35, .inl (zA v_p0_brings))), (a_p0_places, .inl (G 1, 7, .inl (zA v_p0_places))), (a_p0_stays, .inl (G 1, 539, .inl (zA v_p0_stays)))] H := by rw [hH]; exact hP
  rw [← hH]
  clear hH
  unfold f_X12_findStays at hf
  refine lv_iconst (v := Int32.ofInt (0 : Int)) hx hb dX12_findStays_0 (by decide) ?_
  refine z_topi (fun z1 ez => ?_)
  replace hf := bnd_s hf ez
  clear ez
  refine lv_istore_n (lv' := [(2, .int (Int32.ofInt z1)), (0, .ref a_p0), (1, .int (Int32.ofInt x1))]) hx hb dX12_findStays_1 rfl hl (by decide) rfl (fun ls hl => ?_)
  have hq := jn_i hf
  clear hf
  obtain ⟨J3, eJ3, hf⟩ := hq
  have hJ3 : ∀ (w2 : (Int → Int)) (ls : Array Slot) (H : Heap) (locs : List Loc), lv_has ls 8 [(0, .ref a_p0), (1, .int (Int32.ofInt x1))] → va_P D vwCl [(a_p0, .inr (12, [.ref a_p0_st, .ref a_p0_isKept, .int (Int32.ofInt i_p0_seats), .int (Int32.ofInt i_p0_stirs), .ref a_p0_brings, .ref a_p0_need, .ref a_p0_draft, .int (Int32.ofInt i_p0_dSeats), .int (Int32.ofInt i_p0_dStirs), .ref a_p0_dStir, .ref a_p0_dNeed, .int (Int32.ofInt i_p0_told), .int (Int32.ofInt i_p0_highest), .ref a_p0_tape, .int (Int32.ofInt i_p0_taped), .int (Int32.ofInt i_p0_pos), .int (Int32.ofInt i_p0_from), .int (Int32.ofInt i_p0_sort), .int (Int32.ofInt i_p0_value), .int (Int32.ofInt i_p0_fault), .int (Int32.ofInt i_p0_wrongAt), .ref a_p0_places, .ref a_p0_stirred, .ref a_p0_ways, .ref a_p0_waysThen, .ref a_p0_stays, .ref a_p0_fewest, .ref a_p0_bowls, .ref a_p0_has, .ref a_p0_goesOn, .ref a_p0_isThere, .ref a_p0_isThereThen, .ref a_p0_bestRow, .ref a_p0_lanes, .ref a_p0_sizes, .ref a_p0_cells, .int (Int32.ofInt i_p0_torn)])), (a_p0_st, .inl (G 1, 152, .inl (zA v_p0_st))), (a_p0_brings, .inl (G 1, 35, .inl (zA v_p0_brings))), (a_p0_places, .inl (G 1, 7, .inl (zA v_p0_places))), (a_p0_stays, .inl (G 1, 539, .inl (zA w2)))] H → va_D A [(a_p0, .inr (12, [.ref a_p0_st, .ref a_p0_isKept, .int (Int32.ofInt i_p0_seats), .int (Int32.ofInt i_p0_stirs), .ref a_p0_brings, .ref a_p0_need, .ref a_p0_draft, .int (Int32.ofInt i_p0_dSeats), .int (Int32.ofInt i_p0_dStirs), .ref a_p0_dStir, .ref a_p0_dNeed, .int (Int32.ofInt i_p0_told), .int (Int32.ofInt i_p0_highest), .ref a_p0_tape, .int (Int32.ofInt i_p0_taped), .int (Int32.ofInt i_p0_pos), .int (Int32.ofInt i_p0_from), .int (Int32.ofInt i_p0_sort), .int (Int32.ofInt i_p0_value), .int (Int32.ofInt i_p0_fault), .int (Int32.ofInt i_p0_wrongAt), .ref a_p0_places, .ref a_p0_stirred, .ref a_p0_ways, .ref a_p0_waysThen, .ref a_p0_stays, .ref a_p0_fewest, .ref a_p0_bowls, .ref a_p0_has, .ref a_p0_goesOn, .ref a_p0_isThere, .ref a_p0_isThereThen, .ref a_p0_bestRow, .ref a_p0_lanes, .ref a_p0_sizes, .ref a_p0_cells, .int (Int32.ofInt i_p0_torn)])), (a_p0_st, .inl (G 1, 152, .inl (zA v_p0_st))), (a_p0_brings, .inl (G 1, 35, .inl (zA v_p0_brings))), (a_p0_places, .inl (G 1, 7, .inl (zA v_p0_places))), (a_p0_stays, .inl (G 1, 539, .inl (zA w2)))] → va_S A s.heap H locs → J3 w2 = some (o_v_p0_places, o_v_p0_stays) → W p l e rm_X12_findStays s m ([.ref a_p0, .int (Int32.ofInt x1)] : List Value).toArray below meth c H locs 0 0 Q (F0 m 21 ls []) := by
    clear hf hl hP hD hS
    intro w2 ls H locs hl hP hD hS hf
    replace hf := jn1_s eJ3 hf
    refine lv_iconst (v := Int32.ofInt (1 : Int)) hx hb dX12_findStays_21 (by decide) ?_
    refine z_topi (fun z4 ez => ?_)
    replace hf := bnd_s hf ez
    clear ez
    refine lv_istore_n (lv' := [(2, .int (Int32.ofInt z4)), (0, .ref a_p0), (1, .int (Int32.ofInt x1))]) hx hb dX12_findStays_22 rfl hl (by decide) rfl (fun ls hl => ?_)
    have hq := lq3_i hf
    clear hf
    obtain ⟨B8, eB8, NB8, hf⟩ := hq
    have hB8 : ∀ (n : Nat) (z5 : Int) (w6 : (Int → Int)) (w7 : (Int → Int)) (ls : Array Slot) (H : Heap) (locs : List Loc), lv_has ls 8 [(2, .int (Int32.ofInt z5)), (0, .ref a_p0), (1, .int (Int32.ofInt x1))] → va_P D vwCl [(a_p0, .inr (12, [.ref a_p0_st, .ref a_p0_isKept, .int (Int32.ofInt i_p0_seats), .int (Int32.ofInt i_p0_stirs), .ref a_p0_brings, .ref a_p0_need, .ref a_p0_draft, .int (Int32.ofInt i_p0_dSeats), .int (Int32.ofInt i_p0_dStirs), .ref a_p0_dStir, .ref a_p0_dNeed, .int (Int32.ofInt i_p0_told), .int (Int32.ofInt i_p0_highest), .ref a_p0_tape, .int (Int32.ofInt i_p0_taped), .int (Int32.ofInt i_p0_pos), .int (Int32.ofInt i_p0_from), .int (Int32.ofInt i_p0_sort), .int (Int32.ofInt i_p0_value), .int (Int32.ofInt i_p0_fault), .int (Int32.ofInt i_p0_wrongAt), .ref a_p0_places, .ref a_p0_stirred, .ref a_p0_ways, .ref a_p0_waysThen, .ref a_p0_stays, .ref a_p0_fewest, .ref a_p0_bowls, .ref a_p0_has, .ref a_p0_goesOn, .ref a_p0_isThere, .ref a_p0_isThereThen, .ref a_p0_bestRow, .ref a_p0_lanes, .ref a_p0_sizes, .ref a_p0_cells, .int (Int32.ofInt i_p0_torn)])), (a_p0_st, .inl (G 1, 152, .inl (zA v_p0_st))), (a_p0_brings, .inl (G 1, 35, .inl (zA v_p0_brings))), (a_p0_places, .inl (G 1, 7, .inl (zA w6))), (a_p0_stays, .inl (G 1, 539, .inl (zA w7)))] H → va_D A [(a_p0, .inr (12, [.ref a_p0_st, .ref a_p0_isKept, .int (Int32.ofInt i_p0_seats), .int (Int32.ofInt i_p0_stirs), .ref a_p0_brings, .ref a_p0_need, .ref a_p0_draft, .int (Int32.ofInt i_p0_dSeats), .int (Int32.ofInt i_p0_dStirs), .ref a_p0_dStir, .ref a_p0_dNeed, .int (Int32.ofInt i_p0_told), .int (Int32.ofInt i_p0_highest), .ref a_p0_tape, .int (Int32.ofInt i_p0_taped), .int (Int32.ofInt i_p0_pos), .int (Int32.ofInt i_p0_from), .int (Int32.ofInt i_p0_sort), .int (Int32.ofInt i_p0_value), .int (Int32.ofInt i_p0_fault), .int (Int32.ofInt i_p0_wrongAt), .ref a_p0_places, .ref a_p0_stirred, .ref a_p0_ways, .ref a_p0_waysThen, .ref a_p0_stays, .ref a_p0_fewest, .ref a_p0_bowls, .ref a_p0_has, .ref a_p0_goesOn, .ref a_p0_isThere, .ref a_p0_isThereThen, .ref a_p0_bestRow, .ref a_p0_lanes, .ref a_p0_sizes, .ref a_p0_cells, .int (Int32.ofInt i_p0_torn)])), (a_p0_st, .inl (G 1, 152, .inl (zA v_p0_st))), (a_p0_brings, .inl (G 1, 35, .inl (zA v_p0_brings))), (a_p0_places, .inl (G 1, 7, .inl (zA w6))), (a_p0_stays, .inl (G 1, 539, .inl (zA w7)))] → va_S A s.heap H locs → lq3 B8 n z5 w6 w7 = some (o_v_p0_places, o_v_p0_stays) → W p l e rm_X12_findStays s m ([.ref a_p0, .int (Int32.ofInt x1)] : List Value).toArray below meth c H locs 0 0 Q (F0 m 23 ls []) := by
      clear hf hl hP hD hS
      intro n
      induction n with
      | zero =>
        intro z5 w6 w7 ls H locs hl hP hD hS hf
        exact (lq3_0 hf).elim
      | succ n ih23 =>
        intro z5 w6 w7 ls H locs hl hP hD hS hf
        replace hf := lq3_s eB8 hf
        unfold B_X12_findStays_23 at hf
        refine lv_iload_n hx hb dX12_findStays_23 rfl (lv_at hl 0 rfl) ?_
        refine lv_iload_n hx hb dX12_findStays_24 rfl (lv_at hl 2 rfl) ?_
        have hr8 := ck_c hf
        replace hf := ck_r hf
        have hr9 := ck_c hf
        replace hf := ck_r hf
        refine lv_icmp_gt (tgt := 158) hx hb dX12_findStays_25 (by decide) (fun cc => ?_) (fun cc => ?_)
        ·
          replace hf := ite_t ((z_lt hr9 hr8).mp cc) hf
          clear cc
          obtain ⟨rfl, rfl⟩ := ou2 hf
          rw [hQ]
          exact W.vret hx hb hr (fun t ht hW => ⟨⟨(), rfl, trivial, by rw [ht]; exact hP, va_K.moved hW.alike hK, hD⟩, hS.F ht⟩) hS.2.2 dX12_findStays_158
        ·
          replace hf := ite_f (fun h9 => cc ((z_lt hr9 hr8).mpr h9)) hf
          clear cc
          refine lv_iconst (v := Int32.ofInt (0 : Int)) hx hb dX12_findStays_28 (by decide) ?_
          refine z_topi (fun z11 ez => ?_)
          replace hf := bnd_s hf ez
          clear ez
          refine lv_istore_n (lv' := [(3, .int (Int32.ofInt z11)), (2, .int (Int32.ofInt z5)), (0, .ref a_p0), (1, .int (Int32.ofInt x1))]) hx hb dX12_findStays_29 rfl hl (by decide) rfl (fun ls hl => ?_)
          have hq := lq3_i hf
          clear hf
          obtain ⟨B15, eB15, NB15, hf⟩ := hq
          have hB15 : ∀ (n : Nat) (z12 : Int) (w13 : (Int → Int)) (w14 : (Int → Int)) (ls : Array Slot) (H : Heap) (locs : List Loc), lv_has ls 8 [(3, .int (Int32.ofInt z12)), (2, .int (Int32.ofInt z5)), (0, .ref a_p0), (1, .int (Int32.ofInt x1))] → va_P D vwCl [(a_p0, .inr (12, [.ref a_p0_st, .ref a_p0_isKept, .int (Int32.ofInt i_p0_seats), .int (Int32.ofInt i_p0_stirs), .ref a_p0_brings, .ref a_p0_need, .ref a_p0_draft, .int (Int32.ofInt i_p0_dSeats), .int (Int32.ofInt i_p0_dStirs), .ref a_p0_dStir, .ref a_p0_dNeed, .int (Int32.ofInt i_p0_told), .int (Int32.ofInt i_p0_highest), .ref a_p0_tape, .int (Int32.ofInt i_p0_taped), .int (Int32.ofInt i_p0_pos), .int (Int32.ofInt i_p0_from), .int (Int32.ofInt i_p0_sort), .int (Int32.ofInt i_p0_value), .int (Int32.ofInt i_p0_fault), .int (Int32.ofInt i_p0_wrongAt), .ref a_p0_places, .ref a_p0_stirred, .ref a_p0_ways, .ref a_p0_waysThen, .ref a_p0_stays, .ref a_p0_fewest, .ref a_p0_bowls, .ref a_p0_has, .ref a_p0_goesOn, .ref a_p0_isThere, .ref a_p0_isThereThen, .ref a_p0_bestRow, .ref a_p0_lanes, .ref a_p0_sizes, .ref a_p0_cells, .int (Int32.ofInt i_p0_torn)])), (a_p0_st, .inl (G 1, 152, .inl (zA v_p0_st))), (a_p0_brings, .inl (G 1, 35, .inl (zA v_p0_brings))), (a_p0_places, .inl (G 1, 7, .inl (zA w13))), (a_p0_stays, .inl (G 1, 539, .inl (zA w14)))] H → va_D A [(a_p0, .inr (12, [.ref a_p0_st, .ref a_p0_isKept, .int (Int32.ofInt i_p0_seats), .int (Int32.ofInt i_p0_stirs), .ref a_p0_brings, .ref a_p0_need, .ref a_p0_draft, .int (Int32.ofInt i_p0_dSeats), .int (Int32.ofInt i_p0_dStirs), .ref a_p0_dStir, .ref a_p0_dNeed, .int (Int32.ofInt i_p0_told), .int (Int32.ofInt i_p0_highest), .ref a_p0_tape, .int (Int32.ofInt i_p0_taped), .int (Int32.ofInt i_p0_pos), .int (Int32.ofInt i_p0_from), .int (Int32.ofInt i_p0_sort), .int (Int32.ofInt i_p0_value), .int (Int32.ofInt i_p0_fault), .int (Int32.ofInt i_p0_wrongAt), .ref a_p0_places, .ref a_p0_stirred, .ref a_p0_ways, .ref a_p0_waysThen, .ref a_p0_stays, .ref a_p0_fewest, .ref a_p0_bowls, .ref a_p0_has, .ref a_p0_goesOn, .ref a_p0_isThere, .ref a_p0_isThereThen, .ref a_p0_bestRow, .ref a_p0_lanes, .ref a_p0_sizes, .ref a_p0_cells, .int (Int32.ofInt i_p0_torn)])), (a_p0_st, .inl (G 1, 152, .inl (zA v_p0_st))), (a_p0_brings, .inl (G 1, 35, .inl (zA v_p0_brings))), (a_p0_places, .inl (G 1, 7, .inl (zA w13))), (a_p0_stays, .inl (G 1, 539, .inl (zA w14)))] → va_S A s.heap H locs → lq3 B15 n z12 w13 w14 = some (o_v_p0_places, o_v_p0_stays) → W p l e rm_X12_findStays s m ([.ref a_p0, .int (Int32.ofInt x1)] : List Value).toArray below meth c H locs 0 0 Q (F0 m 30 ls []) := by
            clear hf hl hP hD hS
            intro n
            induction n with
            | zero =>
              intro z12 w13 w14 ls H locs hl hP hD hS hf
              exact (lq3_0 hf).elim
            | succ n ih30 =>
              intro z12 w13 w14 ls H locs hl hP hD hS hf
              replace hf := lq3_s eB15 hf
              unfold B_X12_findStays_30 at hf
              refine lv_iload_n hx hb dX12_findStays_30 rfl (lv_at hl 0 rfl) ?_
              refine lv_bipush (v := Int32.ofInt (49 : Int)) hx hb dX12_findStays_31 (by decide) ?_
              have hr15 := ck_c hf
              replace hf := ck_r hf
              refine lv_icmp_ge (tgt := 152) hx hb dX12_findStays_33 (by decide) (fun cc => ?_) (fun cc => ?_)
              ·
                replace hf := ite_t ((z_le (by decide) hr15).mp cc) hf
                clear cc
                obtain ⟨z17, ez⟩ : ∃ y : Int, y = (z5 + (1 : Int)) := ⟨_, rfl⟩
                replace hf := bnd_s hf ez
                refine lv_iinc (v := Int32.ofInt z17) (lv' := [(2, .int (Int32.ofInt z17)), (3, .int (Int32.ofInt z12)), (0, .ref a_p0), (1, .int (Int32.ofInt x1))]) hx hb dX12_findStays_152 hl (k := 1) rfl (by rw [ez]; exact (Int32.ofInt_add _ _).symm) (by decide) rfl (fun ls hl => ?_)
                clear ez
                refine lv_goto (tgt := 23) hx hb dX12_findStays_155 (by decide) ?_
                exact ih23 _ _ _ _ _ _ (lv_sub hl [0, 2, 3] rfl) hP hD hS hf
              ·
                replace hf := ite_f (fun h9 => cc ((z_le (by decide) hr15).mpr h9)) hf
                clear cc
                refine lv_iconst (v := Int32.ofInt (0 : Int)) hx hb dX12_findStays_36 (by decide) ?_
                refine z_topi (fun z18 ez => ?_)
                replace hf := bnd_s hf ez
                clear ez
                refine lv_istore (lv' := [(4, .int (Int32.ofInt z18)), (3, .int (Int32.ofInt z12)), (2, .int (Int32.ofInt z5)), (0, .ref a_p0), (1, .int (Int32.ofInt x1))]) hx hb dX12_findStays_37 hl (by decide) rfl (fun ls hl => ?_)
                refine lv_iconst (v := Int32.ofInt (0 : Int)) hx hb dX12_findStays_39 (by decide) ?_
                refine z_topi (fun z19 ez => ?_)
                replace hf := bnd_s hf ez
                clear ez
                refine lv_istore (lv' := [(5, .int (Int32.ofInt z19)), (4, .int (Int32.ofInt z18)), (3, .int (Int32.ofInt z12)), (2, .int (Int32.ofInt z5)), (0, .ref a_p0), (1, .int (Int32.ofInt x1))]) hx hb dX12_findStays_40 hl (by decide) rfl (fun ls hl => ?_)
                have hq := jn_i hf
                clear hf
                obtain ⟨J22, eJ22, hf⟩ := hq
                have hJ22 : ∀ (z20 : Int) (w21 : (Int → Int)) (ls : Array Slot) (H : Heap) (locs : List Loc), lv_has ls 8 [(4, .int (Int32.ofInt z20)), (3, .int (Int32.ofInt z12)), (2, .int (Int32.ofInt z5)), (0, .ref a_p0), (1, .int (Int32.ofInt x1))] → va_P D vwCl [(a_p0, .inr (12, [.ref a_p0_st, .ref a_p0_isKept, .int (Int32.ofInt i_p0_seats), .int (Int32.ofInt i_p0_stirs), .ref a_p0_brings, .ref a_p0_need, .ref a_p0_draft, .int (Int32.ofInt i_p0_dSeats), .int (Int32.ofInt i_p0_dStirs), .ref a_p0_dStir, .ref a_p0_dNeed, .int (Int32.ofInt i_p0_told), .int (Int32.ofInt i_p0_highest), .ref a_p0_tape, .int (Int32.ofInt i_p0_taped), .int (Int32.ofInt i_p0_pos), .int (Int32.ofInt i_p0_from), .int (Int32.ofInt i_p0_sort), .int (Int32.ofInt i_p0_value), .int (Int32.ofInt i_p0_fault), .int (Int32.ofInt i_p0_wrongAt), .ref a_p0_places, .ref a_p0_stirred, .ref a_p0_ways, .ref a_p0_waysThen, .ref a_p0_stays, .ref a_p0_fewest, .ref a_p0_bowls, .ref a_p0_has, .ref a_p0_goesOn, .ref a_p0_isThere, .ref a_p0_isThereThen, .ref a_p0_bestRow, .ref a_p0_lanes, .ref a_p0_sizes, .ref a_p0_cells, .int (Int32.ofInt i_p0_torn)])), (a_p0_st, .inl (G 1, 152, .inl (zA v_p0_st))), (a_p0_brings, .inl (G 1, 35, .inl (zA v_p0_brings))), (a_p0_places, .inl (G 1, 7, .inl (zA w21))), (a_p0_stays, .inl (G 1, 539, .inl (zA w14)))] H → va_D A [(a_p0, .inr (12, [.ref a_p0_st, .ref a_p0_isKept, .int (Int32.ofInt i_p0_seats), .int (Int32.ofInt i_p0_stirs), .ref a_p0_brings, .ref a_p0_need, .ref a_p0_draft, .int (Int32.ofInt i_p0_dSeats), .int (Int32.ofInt i_p0_dStirs), .ref a_p0_dStir, .ref a_p0_dNeed, .int (Int32.ofInt i_p0_told), .int (Int32.ofInt i_p0_highest), .ref a_p0_tape, .int (Int32.ofInt i_p0_taped), .int (Int32.ofInt i_p0_pos), .int (Int32.ofInt i_p0_from), .int (Int32.ofInt i_p0_sort), .int (Int32.ofInt i_p0_value), .int (Int32.ofInt i_p0_fault), .int (Int32.ofInt i_p0_wrongAt), .ref a_p0_places, .ref a_p0_stirred, .ref a_p0_ways, .ref a_p0_waysThen, .ref a_p0_stays, .ref a_p0_fewest, .ref a_p0_bowls, .ref a_p0_has, .ref a_p0_goesOn, .ref a_p0_isThere, .ref a_p0_isThereThen, .ref a_p0_bestRow, .ref a_p0_lanes, .ref a_p0_sizes, .ref a_p0_cells, .int (Int32.ofInt i_p0_torn)])), (a_p0_st, .inl (G 1, 152, .inl (zA v_p0_st))), (a_p0_brings, .inl (G 1, 35, .inl (zA v_p0_brings))), (a_p0_places, .inl (G 1, 7, .inl (zA w21))), (a_p0_stays, .inl (G 1, 539, .inl (zA w14)))] → va_S A s.heap H locs → J22 z20 w21 = some (o_v_p0_places, o_v_p0_stays) → W p l e rm_X12_findStays s m ([.ref a_p0, .int (Int32.ofInt x1)] : List Value).toArray below meth c H locs 0 0 Q (F0 m 133 ls []) := by
                  clear hf hl hP hD hS
                  intro z20 w21 ls H locs hl hP hD hS hf
                  replace hf := jn2_s eJ22 hf
                  refine lv_aload_n hx hb dX12_findStays_133 rfl (lv_at hl 3 rfl) ?_
                  refine va_get (D := D) (ci := 12) (v := .ref a_p0_stays) (C := RX12) (T := TX12) (N := 37) hx hb hts inX12_findStays_X12 hown hK hP 0 rfl rfl 25 (by decide) (hts _ mwX12_findStays_1) (fun _ h9 => h9) rfl dX12_findStays_134 ?_
                  refine lv_bipush (v := Int32.ofInt (49 : Int)) hx hb dX12_findStays_137 (by decide) ?_
                  refine lv_iload_n hx hb dX12_findStays_139 rfl (lv_at hl 2 rfl) ?_
                  refine lv_imul hx hb dX12_findStays_140 (z_ci (Int32.ofInt_mul (49 : Int) z5) ?_)
                  refine lv_iload_n hx hb dX12_findStays_141 rfl (lv_at hl 1 rfl) ?_
                  refine lv_iadd hx hb dX12_findStays_142 (z_ci (Int32.ofInt_add ((49 : Int) * z5) z12) ?_)
                  refine lv_iload hx hb dX12_findStays_143 (lv_at hl 0 rfl) ?_
                  have hc := ck_c hf
                  replace hf := ck_r hf
                  refine zs_iast (wf := fun w23 => [(a_p0, .inr (12, [.ref a_p0_st, .ref a_p0_isKept, .int (Int32.ofInt i_p0_seats), .int (Int32.ofInt i_p0_stirs), .ref a_p0_brings, .ref a_p0_need, .ref a_p0_draft, .int (Int32.ofInt i_p0_dSeats), .int (Int32.ofInt i_p0_dStirs), .ref a_p0_dStir, .ref a_p0_dNeed, .int (Int32.ofInt i_p0_told), .int (Int32.ofInt i_p0_highest), .ref a_p0_tape, .int (Int32.ofInt i_p0_taped), .int (Int32.ofInt i_p0_pos), .int (Int32.ofInt i_p0_from), .int (Int32.ofInt i_p0_sort), .int (Int32.ofInt i_p0_value), .int (Int32.ofInt i_p0_fault), .int (Int32.ofInt i_p0_wrongAt), .ref a_p0_places, .ref a_p0_stirred, .ref a_p0_ways, .ref a_p0_waysThen, .ref a_p0_stays, .ref a_p0_fewest, .ref a_p0_bowls, .ref a_p0_has, .ref a_p0_goesOn, .ref a_p0_isThere, .ref a_p0_isThereThen, .ref a_p0_bestRow, .ref a_p0_lanes, .ref a_p0_sizes, .ref a_p0_cells, .int (Int32.ofInt i_p0_torn)])), (a_p0_st, .inl (G 1, 152, .inl (zA v_p0_st))), (a_p0_brings, .inl (G 1, 35, .inl (zA v_p0_brings))), (a_p0_places, .inl (G 1, 7, .inl (zA w21))), (a_p0_stays, .inl (G 1, 539, .inl (zA w23)))]) hx hb hK hP hD hS 4 1 rfl rfl hc dX12_findStays_145 (fun _ => rfl) (fun w23 ez H locs hP hD hS => ?_)
                  replace hf := bnd_s hf ez
                  clear ez hc
                  obtain ⟨z24, ez⟩ : ∃ y : Int, y = (z12 + (1 : Int)) := ⟨_, rfl⟩
                  replace hf := bnd_s hf ez
                  refine lv_iinc (v := Int32.ofInt z24) (lv' := [(3, .int (Int32.ofInt z24)), (4, .int (Int32.ofInt z20)), (2, .int (Int32.ofInt z5)), (0, .ref a_p0), (1, .int (Int32.ofInt x1))]) hx hb dX12_findStays_146 hl (k := 1) rfl (by rw [ez]; exact (Int32.ofInt_add _ _).symm) (by decide) rfl (fun ls hl => ?_)
                  clear ez
                  refine lv_goto (tgt := 30) hx hb dX12_findStays_149 (by decide) ?_
                  exact ih30 _ _ _ _ _ _ (lv_sub hl [0, 2, 3, 4] rfl) hP hD hS hf
                have hq := lq3_i hf
                clear hf
                obtain ⟨B28, eB28, NB28, hf⟩ := hq
                have hB28 : ∀ (n : Nat) (z25 : Int) (z26 : Int) (w27 : (Int → Int)) (ls : Array Slot) (H : Heap) (locs : List Loc), lv_has ls 8 [(5, .int (Int32.ofInt z25)), (4, .int (Int32.ofInt z26)), (3, .int (Int32.ofInt z12)), (2, .int (Int32.ofInt z5)), (0, .ref a_p0), (1, .int (Int32.ofInt x1))] → va_P D vwCl [(a_p0, .inr (12, [.ref a_p0_st, .ref a_p0_isKept, .int (Int32.ofInt i_p0_seats), .int (Int32.ofInt i_p0_stirs), .ref a_p0_brings, .ref a_p0_need, .ref a_p0_draft, .int (Int32.ofInt i_p0_dSeats), .int (Int32.ofInt i_p0_dStirs), .ref a_p0_dStir, .ref a_p0_dNeed, .int (Int32.ofInt i_p0_told), .int (Int32.ofInt i_p0_highest), .ref a_p0_tape, .int (Int32.ofInt i_p0_taped), .int (Int32.ofInt i_p0_pos), .int (Int32.ofInt i_p0_from), .int (Int32.ofInt i_p0_sort), .int (Int32.ofInt i_p0_value), .int (Int32.ofInt i_p0_fault), .int (Int32.ofInt i_p0_wrongAt), .ref a_p0_places, .ref a_p0_stirred, .ref a_p0_ways, .ref a_p0_waysThen, .ref a_p0_stays, .ref a_p0_fewest, .ref a_p0_bowls, .ref a_p0_has, .ref a_p0_goesOn, .ref a_p0_isThere, .ref a_p0_isThereThen, .ref a_p0_bestRow, .ref a_p0_lanes, .ref a_p0_sizes, .ref a_p0_cells, .int (Int32.ofInt i_p0_torn)])), (a_p0_st, .inl (G 1, 152, .inl (zA v_p0_st))), (a_p0_brings, .inl (G 1, 35, .inl (zA v_p0_brings))), (a_p0_places, .inl (G 1, 7, .inl (zA w27))), (a_p0_stays, .inl (G 1, 539, .inl (zA w14)))] H → va_D A [(a_p0, .inr (12, [.ref a_p0_st, .ref a_p0_isKept, .int (Int32.ofInt i_p0_seats), .int (Int32.ofInt i_p0_stirs), .ref a_p0_brings, .ref a_p0_need, .ref a_p0_draft, .int (Int32.ofInt i_p0_dSeats), .int (Int32.ofInt i_p0_dStirs), .ref a_p0_dStir, .ref a_p0_dNeed, .int (Int32.ofInt i_p0_told), .int (Int32.ofInt i_p0_highest), .ref a_p0_tape, .int (Int32.ofInt i_p0_taped), .int (Int32.ofInt i_p0_pos), .int (Int32.ofInt i_p0_from), .int (Int32.ofInt i_p0_sort), .int (Int32.ofInt i_p0_value), .int (Int32.ofInt i_p0_fault), .int (Int32.ofInt i_p0_wrongAt), .ref a_p0_places, .ref a_p0_stirred, .ref a_p0_ways, .ref a_p0_waysThen, .ref a_p0_stays, .ref a_p0_fewest, .ref a_p0_bowls, .ref a_p0_has, .ref a_p0_goesOn, .ref a_p0_isThere, .ref a_p0_isThereThen, .ref a_p0_bestRow, .ref a_p0_lanes, .ref a_p0_sizes, .ref a_p0_cells, .int (Int32.ofInt i_p0_torn)])), (a_p0_st, .inl (G 1, 152, .inl (zA v_p0_st))), (a_p0_brings, .inl (G 1, 35, .inl (zA v_p0_brings))), (a_p0_places, .inl (G 1, 7, .inl (zA w27))), (a_p0_stays, .inl (G 1, 539, .inl (zA w14)))] → va_S A s.heap H locs → lq3 B28 n z25 z26 w27 = some (o_v_p0_places, o_v_p0_stays) → W p l e rm_X12_findStays s m ([.ref a_p0, .int (Int32.ofInt x1)] : List Value).toArray below meth c H locs 0 0 Q (F0 m 42 ls []) := by
                  clear hf hl hP hD hS
                  intro n
                  induction n with
                  | zero =>
                    intro z25 z26 w27 ls H locs hl hP hD hS hf
                    exact (lq3_0 hf).elim
                  | succ n ih42 =>
                    intro z25 z26 w27 ls H locs hl hP hD hS hf
                    replace hf := lq3_s eB28 hf
                    unfold B_X12_findStays_42 at hf
                    refine lv_iload hx hb dX12_findStays_42 (lv_at hl 0 rfl) ?_
                    refine lv_aload_n hx hb dX12_findStays_44 rfl (lv_at hl 4 rfl) ?_
                    refine va_get (D := D) (ci := 12) (v := .int (Int32.ofInt i_p0_stirs)) (C := RX12) (T := TX12) (N := 37) hx hb hts inX12_findStays_X12 hown hK hP 0 rfl rfl 3 (by decide) (hts _ mwX12_findStays_2) (fun _ h9 => h9) rfl dX12_findStays_45 ?_
                    have hr28 := ck_c hf
                    replace hf := ck_r hf
                    have hr29 := ck_c hf
                    replace hf := ck_r hf
                    refine lv_icmp_ge (tgt := 133) hx hb dX12_findStays_48 (by decide) (fun cc => ?_) (fun cc => ?_)
                    ·
                      replace hf := ite_t ((z_le hr29 hr28).mp cc) hf
                      clear cc
                      exact hJ22 _ _ _ _ _ (lv_sub hl [1, 2, 3, 4, 5] rfl) hP hD hS hf
                    ·
                      replace hf := ite_f (fun h9 => cc ((z_le hr29 hr28).mpr h9)) hf
                      clear cc
                      refine lv_iload_n hx hb dX12_findStays_51 rfl (lv_at hl 2 rfl) ?_
                      refine lv_bipush (v := Int32.ofInt (7 : Int)) hx hb dX12_findStays_52 (by decide) ?_
                      have hc := ck_c hf
                      replace hf := ck_r hf
                      refine lv_irem hx hb dX12_findStays_54 (z_nz hc) (z_ci (z_rem hc) ?_)
                      clear hc
                      refine lv_aload_n hx hb dX12_findStays_55 rfl (lv_at hl 4 rfl) ?_
                      refine va_get (D := D) (ci := 12) (v := .int (Int32.ofInt i_p0_seats)) (C := RX12) (T := TX12) (N := 37) hx hb hts inX12_findStays_X12 hown hK hP 0 rfl rfl 2 (by decide) (hts _ mwX12_findStays_3) (fun _ h9 => h9) rfl dX12_findStays_56 ?_
                      have hr30 := ck_c hf
                      replace hf := ck_r hf
                      have hr31 := ck_c hf
                      replace hf := ck_r hf
                      refine lv_icmp_ge (tgt := 133) hx hb dX12_findStays_59 (by decide) (fun cc => ?_) (fun cc => ?_)
                      ·
                        replace hf := ite_t ((z_le hr31 hr30).mp cc) hf
                        clear cc
                        exact hJ22 _ _ _ _ _ (lv_sub hl [1, 2, 3, 4, 5] rfl) hP hD hS hf
                      ·
                        replace hf := ite_f (fun h9 => cc ((z_le hr31 hr30).mpr h9)) hf
                        clear cc
                        refine lv_iload_n hx hb dX12_findStays_62 rfl (lv_at hl 2 rfl) ?_
                        refine lv_bipush (v := Int32.ofInt (7 : Int)) hx hb dX12_findStays_63 (by decide) ?_
                        have hc := ck_c hf
                        replace hf := ck_r hf
                        refine lv_idiv hx hb dX12_findStays_65 (z_nz hc) (z_ci (z_div hc) ?_)
                        clear hc
                        refine lv_aload_n hx hb dX12_findStays_66 rfl (lv_at hl 4 rfl) ?_
                        refine va_get (D := D) (ci := 12) (v := .int (Int32.ofInt i_p0_seats)) (C := RX12) (T := TX12) (N := 37) hx hb hts inX12_findStays_X12 hown hK hP 0 rfl rfl 2 (by decide) (hts _ mwX12_findStays_3) (fun _ h9 => h9) rfl dX12_findStays_67 ?_
                        have hr32 := ck_c hf
                        replace hf := ck_r hf
                        refine lv_icmp_ge (tgt := 133) hx hb dX12_findStays_70 (by decide) (fun cc => ?_) (fun cc => ?_)
                        ·
                          replace hf := ite_t ((z_le hr31 hr32).mp cc) hf
                          clear cc
                          exact hJ22 _ _ _ _ _ (lv_sub hl [1, 2, 3, 4, 5] rfl) hP hD hS hf
                        ·
                          replace hf := ite_f (fun h9 => cc ((z_le hr31 hr32).mpr h9)) hf
                          clear cc
                          refine lv_aload_n hx hb dX12_findStays_73 rfl (lv_at hl 4 rfl) ?_
                          refine lv_iload_n hx hb dX12_findStays_74 rfl (lv_at hl 2 rfl) ?_
                          refine lv_iload hx hb dX12_findStays_75 (lv_at hl 0 rfl) ?_
                          have hq := bd2_s hf
                          clear hf
                          obtain ⟨z34, w35, hcall, hf⟩ := hq
                          refine gsI (ws' := [(a_p0, .inr (12, [.ref a_p0_st, .ref a_p0_isKept, .int (Int32.ofInt i_p0_seats), .int (Int32.ofInt i_p0_stirs), .ref a_p0_brings, .ref a_p0_need, .ref a_p0_draft, .int (Int32.ofInt i_p0_dSeats), .int (Int32.ofInt i_p0_dStirs), .ref a_p0_dStir, .ref a_p0_dNeed, .int (Int32.ofInt i_p0_told), .int (Int32.ofInt i_p0_highest), .ref a_p0_tape, .int (Int32.ofInt i_p0_taped), .int (Int32.ofInt i_p0_pos), .int (Int32.ofInt i_p0_from), .int (Int32.ofInt i_p0_sort), .int (Int32.ofInt i_p0_value), .int (Int32.ofInt i_p0_fault), .int (Int32.ofInt i_p0_wrongAt), .ref a_p0_places, .ref a_p0_stirred, .ref a_p0_ways, .ref a_p0_waysThen, .ref a_p0_stays, .ref a_p0_fewest, .ref a_p0_bowls, .ref a_p0_has, .ref a_p0_goesOn, .ref a_p0_isThere, .ref a_p0_isThereThen, .ref a_p0_bestRow, .ref a_p0_lanes, .ref a_p0_sizes, .ref a_p0_cells, .int (Int32.ofInt i_p0_torn)])), (a_p0_st, .inl (G 1, 152, .inl (zA v_p0_st))), (a_p0_brings, .inl (G 1, 35, .inl (zA v_p0_brings))), (a_p0_places, .inl (G 1, 7, .inl (zA w35))), (a_p0_stays, .inl (G 1, 539, .inl (zA w14)))]) (va_runV (As := [.int (Int32.ofInt z12), .int (Int32.ofInt z25)]) (rest := []) ⟨hx, hb, hml, hown, hts⟩ (c_X12_then (l := l) (D := D) (G := G) (sz := H.size) (a_p0 := a_p0) (a_p0_st := a_p0_st) (a_p0_isKept := a_p0_isKept) (a_p0_brings := a_p0_brings) (a_p0_need := a_p0_need) (a_p0_draft := a_p0_draft) (a_p0_dStir := a_p0_dStir) (a_p0_dNeed := a_p0_dNeed) (a_p0_tape := a_p0_tape) (a_p0_places := a_p0_places) (a_p0_stirred := a_p0_stirred) (a_p0_ways := a_p0_ways) (a_p0_waysThen := a_p0_waysThen) (a_p0_stays := a_p0_stays) (a_p0_fewest := a_p0_fewest) (a_p0_bowls := a_p0_bowls) (a_p0_has := a_p0_has) (a_p0_goesOn := a_p0_goesOn) (a_p0_isThere := a_p0_isThere) (a_p0_isThereThen := a_p0_isThereThen) (a_p0_bestRow := a_p0_bestRow) (a_p0_lanes := a_p0_lanes) (a_p0_sizes := a_p0_sizes) (a_p0_cells := a_p0_cells) (i_p0_seats := i_p0_seats) (i_p0_stirs := i_p0_stirs) (i_p0_dSeats := i_p0_dSeats) (i_p0_dStirs := i_p0_dStirs) (i_p0_told := i_p0_told) (i_p0_highest := i_p0_highest) (i_p0_taped := i_p0_taped) (i_p0_pos := i_p0_pos) (i_p0_from := i_p0_from) (i_p0_sort := i_p0_sort) (i_p0_value := i_p0_value) (i_p0_fault := i_p0_fault) (i_p0_wrongAt := i_p0_wrongAt) (i_p0_torn := i_p0_torn) (v_p0_st := v_p0_st) (v_p0_brings := v_p0_brings) (v_p0_places := w27) (x1 := z12) (x2 := z25) (r := z34) (o_v_p0_places := w35) (hf := hcall)) (cwV 2 hts gX12_findStays_X12_then rfl rfl rfl hdV_yX12_then_RX12 ⟨Nat.le_of_ble_eq_true rfl, Nat.le_of_ble_eq_true rfl⟩) (preG_V (ci := 12) (q := (RX12, TX12, 37)) (hP.sub [0, 1, 2, 3] rfl) (hD.sub [0, 1, 2, 3] rfl rfl) hK rfl rfl) rfl rfl hl.1 rfl (lv_room (Nat.le_of_ble_eq_true rfl)) dX12_findStays_77 ⟨Nat.le_of_ble_eq_true rfl, Nat.le_of_ble_eq_true rfl⟩) hP hD hS hA [0, 1, 2, 3] rfl rfl rfl (fun H locs hP hD hS => ?_)
                          clear hcall
                          refine z_topi (fun z36 ez => ?_)
                          replace hf := bnd_s hf ez
                          clear ez
                          refine lv_istore (lv' := [(6, .int (Int32.ofInt z36)), (5, .int (Int32.ofInt z25)), (4, .int (Int32.ofInt z26)), (3, .int (Int32.ofInt z12)), (2, .int (Int32.ofInt z5)), (0, .ref a_p0), (1, .int (Int32.ofInt x1))]) hx hb dX12_findStays_80 hl (by decide) rfl (fun ls hl => ?_)
                          refine lv_iload hx hb dX12_findStays_82 (lv_at hl 0 rfl) ?_
                          refine lv_bipush (v := Int32.ofInt (7 : Int)) hx hb dX12_findStays_84 (by decide) ?_
                          have hc := ck_c hf
                          replace hf := ck_r hf
                          refine lv_irem hx hb dX12_findStays_86 (z_nz hc) (z_ci (z_rem hc) ?_)
                          clear hc
                          refine lv_iload_n hx hb dX12_findStays_87 rfl (lv_at hl 3 rfl) ?_
                          refine lv_bipush (v := Int32.ofInt (7 : Int)) hx hb dX12_findStays_88 (by decide) ?_
                          have hc := ck_c hf
                          replace hf := ck_r hf
                          refine lv_irem hx hb dX12_findStays_90 (z_nz hc) (z_ci (z_rem hc) ?_)
                          clear hc
                          have hr36 := ck_c hf
                          replace hf := ck_r hf
                          have hq := jn_i hf
                          clear hf
                          obtain ⟨J39, eJ39, hf⟩ := hq
                          have hJ39 : ∀ (z38 : Int) (ls : Array Slot) (H : Heap) (locs : List Loc), lv_has ls 8 [(5, .int (Int32.ofInt z25)), (4, .int (Int32.ofInt z26)), (3, .int (Int32.ofInt z12)), (2, .int (Int32.ofInt z5)), (0, .ref a_p0), (1, .int (Int32.ofInt x1))] → va_P D vwCl [(a_p0, .inr (12, [.ref a_p0_st, .ref a_p0_isKept, .int (Int32.ofInt i_p0_seats), .int (Int32.ofInt i_p0_stirs), .ref a_p0_brings, .ref a_p0_need, .ref a_p0_draft, .int (Int32.ofInt i_p0_dSeats), .int (Int32.ofInt i_p0_dStirs), .ref a_p0_dStir, .ref a_p0_dNeed, .int (Int32.ofInt i_p0_told), .int (Int32.ofInt i_p0_highest), .ref a_p0_tape, .int (Int32.ofInt i_p0_taped), .int (Int32.ofInt i_p0_pos), .int (Int32.ofInt i_p0_from), .int (Int32.ofInt i_p0_sort), .int (Int32.ofInt i_p0_value), .int (Int32.ofInt i_p0_fault), .int (Int32.ofInt i_p0_wrongAt), .ref a_p0_places, .ref a_p0_stirred, .ref a_p0_ways, .ref a_p0_waysThen, .ref a_p0_stays, .ref a_p0_fewest, .ref a_p0_bowls, .ref a_p0_has, .ref a_p0_goesOn, .ref a_p0_isThere, .ref a_p0_isThereThen, .ref a_p0_bestRow, .ref a_p0_lanes, .ref a_p0_sizes, .ref a_p0_cells, .int (Int32.ofInt i_p0_torn)])), (a_p0_st, .inl (G 1, 152, .inl (zA v_p0_st))), (a_p0_brings, .inl (G 1, 35, .inl (zA v_p0_brings))), (a_p0_places, .inl (G 1, 7, .inl (zA w35))), (a_p0_stays, .inl (G 1, 539, .inl (zA w14)))] H → va_D A [(a_p0, .inr (12, [.ref a_p0_st, .ref a_p0_isKept, .int (Int32.ofInt i_p0_seats), .int (Int32.ofInt i_p0_stirs), .ref a_p0_brings, .ref a_p0_need, .ref a_p0_draft, .int (Int32.ofInt i_p0_dSeats), .int (Int32.ofInt i_p0_dStirs), .ref a_p0_dStir, .ref a_p0_dNeed, .int (Int32.ofInt i_p0_told), .int (Int32.ofInt i_p0_highest), .ref a_p0_tape, .int (Int32.ofInt i_p0_taped), .int (Int32.ofInt i_p0_pos), .int (Int32.ofInt i_p0_from), .int (Int32.ofInt i_p0_sort), .int (Int32.ofInt i_p0_value), .int (Int32.ofInt i_p0_fault), .int (Int32.ofInt i_p0_wrongAt), .ref a_p0_places, .ref a_p0_stirred, .ref a_p0_ways, .ref a_p0_waysThen, .ref a_p0_stays, .ref a_p0_fewest, .ref a_p0_bowls, .ref a_p0_has, .ref a_p0_goesOn, .ref a_p0_isThere, .ref a_p0_isThereThen, .ref a_p0_bestRow, .ref a_p0_lanes, .ref a_p0_sizes, .ref a_p0_cells, .int (Int32.ofInt i_p0_torn)])), (a_p0_st, .inl (G 1, 152, .inl (zA v_p0_st))), (a_p0_brings, .inl (G 1, 35, .inl (zA v_p0_brings))), (a_p0_places, .inl (G 1, 7, .inl (zA w35))), (a_p0_stays, .inl (G 1, 539, .inl (zA w14)))] → va_S A s.heap H locs → J39 z38 = some (o_v_p0_places, o_v_p0_stays) → W p l e rm_X12_findStays s m ([.ref a_p0, .int (Int32.ofInt x1)] : List Value).toArray below meth c H locs 0 0 Q (F0 m 109 ls [.int (Int32.ofInt z38)]) := by
                            clear hf hl hP hD hS
                            intro z38 ls H locs hl hP hD hS hf
                            replace hf := jn1_s eJ39 hf
                            refine z_topi (fun z40 ez => ?_)
                            replace hf := bnd_s hf ez
                            clear ez
                            refine lv_istore (lv' := [(7, .int (Int32.ofInt z40)), (5, .int (Int32.ofInt z25)), (4, .int (Int32.ofInt z26)), (3, .int (Int32.ofInt z12)), (2, .int (Int32.ofInt z5)), (0, .ref a_p0), (1, .int (Int32.ofInt x1))]) hx hb dX12_findStays_109 hl (by decide) rfl (fun ls hl => ?_)
                            refine lv_iload hx hb dX12_findStays_111 (lv_at hl 0 rfl) ?_
                            refine lv_iload hx hb dX12_findStays_113 (lv_at hl 2 rfl) ?_
                            have hr40 := ck_c hf
                            replace hf := ck_r hf
                            have hr41 := ck_c hf
                            replace hf := ck_r hf
                            refine lv_icmp_le (tgt := 123) hx hb dX12_findStays_115 (by decide) (fun cc => ?_) (fun cc => ?_)
                            ·
                              replace hf := ite_t ((z_le hr40 hr41).mp cc) hf
                              clear cc
                              refine lv_iload hx hb dX12_findStays_123 (lv_at hl 2 rfl) ?_
                              refine z_topi (fun z43 ez => ?_)
                              replace hf := bnd_s hf ez
                              clear ez
                              refine lv_istore (lv' := [(4, .int (Int32.ofInt z43)), (7, .int (Int32.ofInt z40)), (5, .int (Int32.ofInt z25)), (3, .int (Int32.ofInt z12)), (2, .int (Int32.ofInt z5)), (0, .ref a_p0), (1, .int (Int32.ofInt x1))]) hx hb dX12_findStays_125 hl (by decide) rfl (fun ls hl => ?_)
                              obtain ⟨z44, ez⟩ : ∃ y : Int, y = (z25 + (1 : Int)) := ⟨_, rfl⟩
                              replace hf := bnd_s hf ez
                              refine lv_iinc (v := Int32.ofInt z44) (lv' := [(5, .int (Int32.ofInt z44)), (4, .int (Int32.ofInt z43)), (7, .int (Int32.ofInt z40)), (3, .int (Int32.ofInt z12)), (2, .int (Int32.ofInt z5)), (0, .ref a_p0), (1, .int (Int32.ofInt x1))]) hx hb dX12_findStays_127 hl (k := 2) rfl (by rw [ez]; exact (Int32.ofInt_add _ _).symm) (by decide) rfl (fun ls hl => ?_)
                              clear ez
                              refine lv_goto (tgt := 42) hx hb dX12_findStays_130 (by decide) ?_
                              exact ih42 _ _ _ _ _ _ (lv_sub hl [0, 1, 3, 4, 5, 6] rfl) hP hD hS hf
                            ·
                              replace hf := ite_f (fun h9 => cc ((z_le hr40 hr41).mpr h9)) hf
                              clear cc
                              refine lv_iload hx hb dX12_findStays_118 (lv_at hl 0 rfl) ?_
                              refine lv_goto (tgt := 125) hx hb dX12_findStays_120 (by decide) ?_
                              refine z_topi (fun z45 ez => ?_)
                              replace hf := bnd_s hf ez
                              clear ez
                              refine lv_istore (lv' := [(4, .int (Int32.ofInt z45)), (7, .int (Int32.ofInt z40)), (5, .int (Int32.ofInt z25)), (3, .int (Int32.ofInt z12)), (2, .int (Int32.ofInt z5)), (0, .ref a_p0), (1, .int (Int32.ofInt x1))]) hx hb dX12_findStays_125 hl (by decide) rfl (fun ls hl => ?_)
                              obtain ⟨z46, ez⟩ : ∃ y : Int, y = (z25 + (1 : Int)) := ⟨_, rfl⟩
                              replace hf := bnd_s hf ez
                              refine lv_iinc (v := Int32.ofInt z46) (lv' := [(5, .int (Int32.ofInt z46)), (4, .int (Int32.ofInt z45)), (7, .int (Int32.ofInt z40)), (3, .int (Int32.ofInt z12)), (2, .int (Int32.ofInt z5)), (0, .ref a_p0), (1, .int (Int32.ofInt x1))]) hx hb dX12_findStays_127 hl (k := 2) rfl (by rw [ez]; exact (Int32.ofInt_add _ _).symm) (by decide) rfl (fun ls hl => ?_)
                              clear ez
                              refine lv_goto (tgt := 42) hx hb dX12_findStays_130 (by decide) ?_
                              exact ih42 _ _ _ _ _ _ (lv_sub hl [0, 1, 3, 4, 5, 6] rfl) hP hD hS hf
                          refine lv_icmp_ne (tgt := 108) hx hb dX12_findStays_91 (by decide) (fun cc => ?_) (fun cc => ?_)
                          ·
                            replace hf := ite_f (fun h9 => cc ((z_eq hr36 hr30).mpr h9)) hf
                            clear cc
                            refine lv_iconst (v := Int32.ofInt (0 : Int)) hx hb dX12_findStays_108 (by decide) ?_
                            exact hJ39 _ _ _ _ (lv_sub hl [1, 2, 3, 4, 5, 6] rfl) hP hD hS hf
                          ·
                            replace hf := ite_t ((z_eq hr36 hr30).mp cc) hf
                            clear cc
                            refine lv_iconst (v := Int32.ofInt (1 : Int)) hx hb dX12_findStays_94 (by decide) ?_
                            refine lv_aload_n hx hb dX12_findStays_95 rfl (lv_at hl 5 rfl) ?_
                            refine lv_iload hx hb dX12_findStays_96 (lv_at hl 0 rfl) ?_
                            refine lv_iload_n hx hb dX12_findStays_98 rfl (lv_at hl 4 rfl) ?_
                            refine lv_iconst (v := Int32.ofInt (1 : Int)) hx hb dX12_findStays_99 (by decide) ?_
                            refine lv_isub hx hb dX12_findStays_100 (z_ci (Int32.ofInt_sub z5 (1 : Int)) ?_)
                            have hq := bd1_s hf
                            clear hf
                            obtain ⟨z47, hcall, hf⟩ := hq
                            refine gnI (va_runV (As := [.int (Int32.ofInt z36), .int (Int32.ofInt (z5 - (1 : Int)))]) (rest := [.int (Int32.ofInt (1 : Int))]) ⟨hx, hb, hml, hown, hts⟩ (c_X12_longestFrom (l := l) (D := D) (G := G) (sz := H.size) (a_p0 := a_p0) (a_p0_st := a_p0_st) (a_p0_isKept := a_p0_isKept) (a_p0_brings := a_p0_brings) (a_p0_need := a_p0_need) (a_p0_draft := a_p0_draft) (a_p0_dStir := a_p0_dStir) (a_p0_dNeed := a_p0_dNeed) (a_p0_tape := a_p0_tape) (a_p0_places := a_p0_places) (a_p0_stirred := a_p0_stirred) (a_p0_ways := a_p0_ways) (a_p0_waysThen := a_p0_waysThen) (a_p0_stays := a_p0_stays) (a_p0_fewest := a_p0_fewest) (a_p0_bowls := a_p0_bowls) (a_p0_has := a_p0_has) (a_p0_goesOn := a_p0_goesOn) (a_p0_isThere := a_p0_isThere) (a_p0_isThereThen := a_p0_isThereThen) (a_p0_bestRow := a_p0_bestRow) (a_p0_lanes := a_p0_lanes) (a_p0_sizes := a_p0_sizes) (a_p0_cells := a_p0_cells) (i_p0_seats := i_p0_seats) (i_p0_stirs := i_p0_stirs) (i_p0_dSeats := i_p0_dSeats) (i_p0_dStirs := i_p0_dStirs) (i_p0_told := i_p0_told) (i_p0_highest := i_p0_highest) (i_p0_taped := i_p0_taped) (i_p0_pos := i_p0_pos) (i_p0_from := i_p0_from) (i_p0_sort := i_p0_sort) (i_p0_value := i_p0_value) (i_p0_fault := i_p0_fault) (i_p0_wrongAt := i_p0_wrongAt) (i_p0_torn := i_p0_torn) (v_p0_stays := w14) (x1 := z36) (x2 := (z5 - (1 : Int))) (r := z47) (hf := hcall)) (cwV 2 hts gX12_findStays_X12_longestFrom rfl rfl rfl hdV_yX12_longestFrom_RX12 ⟨Nat.le_of_ble_eq_true rfl, Nat.le_of_ble_eq_true rfl⟩) (preG_V (ci := 12) (q := (RX12, TX12, 37)) (hP.sub [0, 4] rfl) (hD.sub [0, 4] rfl rfl) hK rfl rfl) rfl rfl hl.1 rfl (lv_room (Nat.le_of_ble_eq_true rfl)) dX12_findStays_101 ⟨Nat.le_of_ble_eq_true rfl, Nat.le_of_ble_eq_true rfl⟩) hP hD hS hA [0, 4] rfl (fun H locs hP hD hS => ?_)
                            clear hcall
                            refine lv_iadd hx hb dX12_findStays_104 (z_ci (Int32.ofInt_add (1 : Int) z47) ?_)
                            refine lv_goto (tgt := 109) hx hb dX12_findStays_105 (by decide) ?_
                            exact hJ39 _ _ _ _ (lv_sub hl [1, 2, 3, 4, 5, 6] rfl) hP hD hS hf
                exact hB28 _ _ _ _ _ _ _ (lv_sub hl [0, 1, 2, 3, 4, 5] rfl) hP hD hS hf
          exact hB15 _ _ _ _ _ _ _ (lv_sub hl [0, 1, 2, 3] rfl) hP hD hS hf
    exact hB8 _ _ _ _ _ _ _ (lv_sub hl [0, 1, 2] rfl) hP hD hS hf
  have hq := lq2_i hf
  clear hf
  obtain ⟨B50, eB50, NB50, hf⟩ := hq
  have hB50 : ∀ (n : Nat) (z48 : Int) (w49 : (Int → Int)) (ls : Array Slot) (H : Heap) (locs : List Loc), lv_has ls 8 [(2, .int (Int32.ofInt z48)), (0, .ref a_p0), (1, .int (Int32.ofInt x1))] → va_P D vwCl [(a_p0, .inr (12, [.ref a_p0_st, .ref a_p0_isKept, .int (Int32.ofInt i_p0_seats), .int (Int32.ofInt i_p0_stirs), .ref a_p0_brings, .ref a_p0_need, .ref a_p0_draft, .int (Int32.ofInt i_p0_dSeats), .int (Int32.ofInt i_p0_dStirs), .ref a_p0_dStir, .ref a_p0_dNeed, .int (Int32.ofInt i_p0_told), .int (Int32.ofInt i_p0_highest), .ref a_p0_tape, .int (Int32.ofInt i_p0_taped), .int (Int32.ofInt i_p0_pos), .int (Int32.ofInt i_p0_from), .int (Int32.ofInt i_p0_sort), .int (Int32.ofInt i_p0_value), .int (Int32.ofInt i_p0_fault), .int (Int32.ofInt i_p0_wrongAt), .ref a_p0_places, .ref a_p0_stirred, .ref a_p0_ways, .ref a_p0_waysThen, .ref a_p0_stays, .ref a_p0_fewest, .ref a_p0_bowls, .ref a_p0_has, .ref a_p0_goesOn, .ref a_p0_isThere, .ref a_p0_isThereThen, .ref a_p0_bestRow, .ref a_p0_lanes, .ref a_p0_sizes, .ref a_p0_cells, .int (Int32.ofInt i_p0_torn)])), (a_p0_st, .inl (G 1, 152, .inl (zA v_p0_st))), (a_p0_brings, .inl (G 1, 35, .inl (zA v_p0_brings))), (a_p0_places, .inl (G 1, 7, .inl (zA v_p0_places))), (a_p0_stays, .inl (G 1, 539, .inl (zA w49)))] H → va_D A [(a_p0, .inr (12, [.ref a_p0_st, .ref a_p0_isKept, .int (Int32.ofInt i_p0_seats), .int (Int32.ofInt i_p0_stirs), .ref a_p0_brings, .ref a_p0_need, .ref a_p0_draft, .int (Int32.ofInt i_p0_dSeats), .int (Int32.ofInt i_p0_dStirs), .ref a_p0_dStir, .ref a_p0_dNeed, .int (Int32.ofInt i_p0_told), .int (Int32.ofInt i_p0_highest), .ref a_p0_tape, .int (Int32.ofInt i_p0_taped), .int (Int32.ofInt i_p0_pos), .int (Int32.ofInt i_p0_from), .int (Int32.ofInt i_p0_sort), .int (Int32.ofInt i_p0_value), .int (Int32.ofInt i_p0_fault), .int (Int32.ofInt i_p0_wrongAt), .ref a_p0_places, .ref a_p0_stirred, .ref a_p0_ways, .ref a_p0_waysThen, .ref a_p0_stays, .ref a_p0_fewest, .ref a_p0_bowls, .ref a_p0_has, .ref a_p0_goesOn, .ref a_p0_isThere, .ref a_p0_isThereThen, .ref a_p0_bestRow, .ref a_p0_lanes, .ref a_p0_sizes, .ref a_p0_cells, .int (Int32.ofInt i_p0_torn)])), (a_p0_st, .inl (G 1, 152, .inl (zA v_p0_st))), (a_p0_brings, .inl (G 1, 35, .inl (zA v_p0_brings))), (a_p0_places, .inl (G 1, 7, .inl (zA v_p0_places))), (a_p0_stays, .inl (G 1, 539, .inl (zA w49)))] → va_S A s.heap H locs → lq2 B50 n z48 w49 = some (o_v_p0_places, o_v_p0_stays) → W p l e rm_X12_findStays s m ([.ref a_p0, .int (Int32.ofInt x1)] : List Value).toArray below meth c H locs 0 0 Q (F0 m 2 ls []) := by
    clear hf hl hP hD hS
    intro n
    induction n with
    | zero =>
      intro z48 w49 ls H locs hl hP hD hS hf
      exact (lq2_0 hf).elim
    | succ n ih2 =>
      intro z48 w49 ls H locs hl hP hD hS hf
      replace hf := lq2_s eB50 hf
      unfold B_X12_findStays_2 at hf
      refine lv_iload_n hx hb dX12_findStays_2 rfl (lv_at hl 0 rfl) ?_
      refine lv_bipush (v := Int32.ofInt (49 : Int)) hx hb dX12_findStays_3 (by decide) ?_
      have hr50 := ck_c hf
      replace hf := ck_r hf
      refine lv_icmp_ge (tgt := 21) hx hb dX12_findStays_5 (by decide) (fun cc => ?_) (fun cc => ?_)
      ·
        replace hf := ite_t ((z_le (by decide) hr50).mp cc) hf
        clear cc
        exact hJ3 _ _ _ _ (lv_sub hl [1, 2] rfl) hP hD hS hf
      ·
        replace hf := ite_f (fun h9 => cc ((z_le (by decide) hr50).mpr h9)) hf
        clear cc
        refine lv_aload_n hx hb dX12_findStays_8 rfl (lv_at hl 1 rfl) ?_
        refine va_get (D := D) (ci := 12) (v := .ref a_p0_stays) (C := RX12) (T := TX12) (N := 37) hx hb hts inX12_findStays_X12 hown hK hP 0 rfl rfl 25 (by decide) (hts _ mwX12_findStays_1) (fun _ h9 => h9) rfl dX12_findStays_9 ?_
        refine lv_iload_n hx hb dX12_findStays_12 rfl (lv_at hl 0 rfl) ?_
        refine lv_iconst (v := Int32.ofInt (0 : Int)) hx hb dX12_findStays_13 (by decide) ?_
        have hc := ck_c hf
        replace hf := ck_r hf
        refine zs_iast (wf := fun w52 => [(a_p0, .inr (12, [.ref a_p0_st, .ref a_p0_isKept, .int (Int32.ofInt i_p0_seats), .int (Int32.ofInt i_p0_stirs), .ref a_p0_brings, .ref a_p0_need, .ref a_p0_draft, .int (Int32.ofInt i_p0_dSeats), .int (Int32.ofInt i_p0_dStirs), .ref a_p0_dStir, .ref a_p0_dNeed, .int (Int32.ofInt i_p0_told), .int (Int32.ofInt i_p0_highest), .ref a_p0_tape, .int (Int32.ofInt i_p0_taped), .int (Int32.ofInt i_p0_pos), .int (Int32.ofInt i_p0_from), .int (Int32.ofInt i_p0_sort), .int (Int32.ofInt i_p0_value), .int (Int32.ofInt i_p0_fault), .int (Int32.ofInt i_p0_wrongAt), .ref a_p0_places, .ref a_p0_stirred, .ref a_p0_ways, .ref a_p0_waysThen, .ref a_p0_stays, .ref a_p0_fewest, .ref a_p0_bowls, .ref a_p0_has, .ref a_p0_goesOn, .ref a_p0_isThere, .ref a_p0_isThereThen, .ref a_p0_bestRow, .ref a_p0_lanes, .ref a_p0_sizes, .ref a_p0_cells, .int (Int32.ofInt i_p0_torn)])), (a_p0_st, .inl (G 1, 152, .inl (zA v_p0_st))), (a_p0_brings, .inl (G 1, 35, .inl (zA v_p0_brings))), (a_p0_places, .inl (G 1, 7, .inl (zA v_p0_places))), (a_p0_stays, .inl (G 1, 539, .inl (zA w52)))]) hx hb hK hP hD hS 4 1 rfl rfl hc dX12_findStays_14 (fun _ => rfl) (fun w52 ez H locs hP hD hS => ?_)
        replace hf := bnd_s hf ez
        clear ez hc
        obtain ⟨z53, ez⟩ : ∃ y : Int, y = (z48 + (1 : Int)) := ⟨_, rfl⟩
        replace hf := bnd_s hf ez
        refine lv_iinc (v := Int32.ofInt z53) (lv' := [(2, .int (Int32.ofInt z53)), (0, .ref a_p0), (1, .int (Int32.ofInt x1))]) hx hb dX12_findStays_15 hl (k := 0) rfl (by rw [ez]; exact (Int32.ofInt_add _ _).symm) (by decide) rfl (fun ls hl => ?_)
        clear ez
        refine lv_goto (tgt := 2) hx hb dX12_findStays_18 (by decide) ?_
        exact ih2 _ _ _ _ _ (lv_sub hl [0, 1, 2] rfl) hP hD hS hf
  exact hB50 _ _ _ _ _ _ (lv_sub hl [0, 1, 2] rfl) hP hD hS hf

noncomputable def f_X12_stateNow (v_p0_st : (Int → Int)) : Option (Int) := (ck (z_ix (7 : Int) 152) (ck (z_ix (8 : Int) 152) (some (((7 : Int) * (v_p0_st (7 : Int))) + (v_p0_st (8 : Int))))))
abbrev rm_X12_stateNow : Room := { frames := 0, cells := 0, slots := 0, locals := 0 }
theorem inX12_stateNow_X12 : ∀ w ∈ wsX120, w ∈ wsX12_stateNow := by first | exact fun w h => List.mem_cons_of_mem _ (List.mem_append_right _ h) | decide +kernel
theorem mwX12_stateNow_1 : Cond.fieldLink RX12 7 "LadleKingsModel" "st" "[I" ∈ wsX12_stateNow := by first | exact List.mem_of_getElem? (i := 1) rfl | decide +kernel
set_option maxHeartbeats 8000000 in
set_option maxRecDepth 100000 in
theorem c_X12_stateNow (l : Launch) (D : va_G) (G : Nat → ClassId) (sz : Nat) (a_p0 : Nat) (a_p0_st : Nat) (a_p0_isKept : Nat) (a_p0_brings : Nat) (a_p0_need : Nat) (a_p0_draft : Nat) (a_p0_dStir : Nat) (a_p0_dNeed : Nat) (a_p0_tape : Nat) (a_p0_places : Nat) (a_p0_stirred : Nat) (a_p0_ways : Nat) (a_p0_waysThen : Nat) (a_p0_stays : Nat) (a_p0_fewest : Nat) (a_p0_bowls : Nat) (a_p0_has : Nat) (a_p0_goesOn : Nat) (a_p0_isThere : Nat) (a_p0_isThereThen : Nat) (a_p0_bestRow : Nat) (a_p0_lanes : Nat) (a_p0_sizes : Nat) (a_p0_cells : Nat) (i_p0_seats : Int) (i_p0_stirs : Int) (i_p0_dSeats : Int) (i_p0_dStirs : Int) (i_p0_told : Int) (i_p0_highest : Int) (i_p0_taped : Int) (i_p0_pos : Int) (i_p0_from : Int) (i_p0_sort : Int) (i_p0_value : Int) (i_p0_fault : Int) (i_p0_wrongAt : Int) (i_p0_torn : Int) (v_p0_st : (Int → Int)) (r : Int) (hf : f_X12_stateNow v_p0_st = some r) : Met l yX12_stateNow wsX12_stateNow rm_X12_stateNow (pcG D G [.ref a_p0] sz [(a_p0, .inr (12, [.ref a_p0_st, .ref a_p0_isKept, .int (Int32.ofInt i_p0_seats), .int (Int32.ofInt i_p0_stirs), .ref a_p0_brings, .ref a_p0_need, .ref a_p0_draft, .int (Int32.ofInt i_p0_dSeats), .int (Int32.ofInt i_p0_dStirs), .ref a_p0_dStir, .ref a_p0_dNeed, .int (Int32.ofInt i_p0_told), .int (Int32.ofInt i_p0_highest), .ref a_p0_tape, .int (Int32.ofInt i_p0_taped), .int (Int32.ofInt i_p0_pos), .int (Int32.ofInt i_p0_from), .int (Int32.ofInt i_p0_sort), .int (Int32.ofInt i_p0_value), .int (Int32.ofInt i_p0_fault), .int (Int32.ofInt i_p0_wrongAt), .ref a_p0_places, .ref a_p0_stirred, .ref a_p0_ways, .ref a_p0_waysThen, .ref a_p0_stays, .ref a_p0_fewest, .ref a_p0_bowls, .ref a_p0_has, .ref a_p0_goesOn, .ref a_p0_isThere, .ref a_p0_isThereThen, .ref a_p0_bestRow, .ref a_p0_lanes, .ref a_p0_sizes, .ref a_p0_cells, .int (Int32.ofInt i_p0_torn)])), (a_p0_st, .inl (G 1, 152, .inl (zA v_p0_st)))]) (qcI D G (Int32.ofInt r) [(a_p0, .inr (12, [.ref a_p0_st, .ref a_p0_isKept, .int (Int32.ofInt i_p0_seats), .int (Int32.ofInt i_p0_stirs), .ref a_p0_brings, .ref a_p0_need, .ref a_p0_draft, .int (Int32.ofInt i_p0_dSeats), .int (Int32.ofInt i_p0_dStirs), .ref a_p0_dStir, .ref a_p0_dNeed, .int (Int32.ofInt i_p0_told), .int (Int32.ofInt i_p0_highest), .ref a_p0_tape, .int (Int32.ofInt i_p0_taped), .int (Int32.ofInt i_p0_pos), .int (Int32.ofInt i_p0_from), .int (Int32.ofInt i_p0_sort), .int (Int32.ofInt i_p0_value), .int (Int32.ofInt i_p0_fault), .int (Int32.ofInt i_p0_wrongAt), .ref a_p0_places, .ref a_p0_stirred, .ref a_p0_ways, .ref a_p0_waysThen, .ref a_p0_stays, .ref a_p0_fewest, .ref a_p0_bowls, .ref a_p0_has, .ref a_p0_goesOn, .ref a_p0_isThere, .ref a_p0_isThereThen, .ref a_p0_bestRow, .ref a_p0_lanes, .ref a_p0_sizes, .ref a_p0_cells, .int (Int32.ofInt i_p0_torn)])), (a_p0_st, .inl (G 1, 152, .inl (zA v_p0_st)))] (va_A [(a_p0, .inr (12, [.ref a_p0_st, .ref a_p0_isKept, .int (Int32.ofInt i_p0_seats), .int (Int32.ofInt i_p0_stirs), .ref a_p0_brings, .ref a_p0_need, .ref a_p0_draft, .int (Int32.ofInt i_p0_dSeats), .int (Int32.ofInt i_p0_dStirs), .ref a_p0_dStir, .ref a_p0_dNeed, .int (Int32.ofInt i_p0_told), .int (Int32.ofInt i_p0_highest), .ref a_p0_tape, .int (Int32.ofInt i_p0_taped), .int (Int32.ofInt i_p0_pos), .int (Int32.ofInt i_p0_from), .int (Int32.ofInt i_p0_sort), .int (Int32.ofInt i_p0_value), .int (Int32.ofInt i_p0_fault), .int (Int32.ofInt i_p0_wrongAt), .ref a_p0_places, .ref a_p0_stirred, .ref a_p0_ways, .ref a_p0_waysThen, .ref a_p0_stays, .ref a_p0_fewest, .ref a_p0_bowls, .ref a_p0_has, .ref a_p0_goesOn, .ref a_p0_isThere, .ref a_p0_isThereThen, .ref a_p0_bestRow, .ref a_p0_lanes, .ref a_p0_sizes, .ref a_p0_cells, .int (Int32.ofInt i_p0_torn)])), (a_p0_st, .inl (G 1, 152, .inl (zA v_p0_st)))] sz)) 0 0 (va_A [(a_p0, .inr (12, [.ref a_p0_st, .ref a_p0_isKept, .int (Int32.ofInt i_p0_seats), .int (Int32.ofInt i_p0_stirs), .ref a_p0_brings, .ref a_p0_need, .ref a_p0_draft, .int (Int32.ofInt i_p0_dSeats), .int (Int32.ofInt i_p0_dStirs), .ref a_p0_dStir, .ref a_p0_dNeed, .int (Int32.ofInt i_p0_told), .int (Int32.ofInt i_p0_highest), .ref a_p0_tape, .int (Int32.ofInt i_p0_taped), .int (Int32.ofInt i_p0_pos), .int (Int32.ofInt i_p0_from), .int (Int32.ofInt i_p0_sort), .int (Int32.ofInt i_p0_value), .int (Int32.ofInt i_p0_fault), .int (Int32.ofInt i_p0_wrongAt), .ref a_p0_places, .ref a_p0_stirred, .ref a_p0_ways, .ref a_p0_waysThen, .ref a_p0_stays, .ref a_p0_fewest, .ref a_p0_bowls, .ref a_p0_has, .ref a_p0_goesOn, .ref a_p0_isThere, .ref a_p0_isThereThen, .ref a_p0_bestRow, .ref a_p0_lanes, .ref a_p0_sizes, .ref a_p0_cells, .int (Int32.ofInt i_p0_torn)])), (a_p0_st, .inl (G 1, 152, .inl (zA v_p0_st)))] sz) := by
  refine Met.ofW (cc := cX12_stateNow) (maxL := 1) (ret := (some .int)) (by decide) rfl ?_
  intro p e s m args below meth c s₁ B hml hv
  obtain ⟨rfl, hsz, hP, hK, hD0⟩ := hv
  have hx := B.exec
  have hb := B.bytes
  have hr := B.returns
  have hts := atoms_spec (ws := wsX12_stateNow) B.pre
  have hown : s.vm.findClass RX12 = some m.cls := findClass_of_methodNamed B.named
  have hlocks := B.notSynchronized
  subst hsz
  have hD := hD0.self (sz := s.heap.size)
  generalize hAe : va_A [(a_p0, .inr (12, [.ref a_p0_st, .ref a_p0_isKept, .int (Int32.ofInt i_p0_seats), .int (Int32.ofInt i_p0_stirs), .ref a_p0_brings, .ref a_p0_need, .ref a_p0_draft, .int (Int32.ofInt i_p0_dSeats), .int (Int32.ofInt i_p0_dStirs), .ref a_p0_dStir, .ref a_p0_dNeed, .int (Int32.ofInt i_p0_told), .int (Int32.ofInt i_p0_highest), .ref a_p0_tape, .int (Int32.ofInt i_p0_taped), .int (Int32.ofInt i_p0_pos), .int (Int32.ofInt i_p0_from), .int (Int32.ofInt i_p0_sort), .int (Int32.ofInt i_p0_value), .int (Int32.ofInt i_p0_fault), .int (Int32.ofInt i_p0_wrongAt), .ref a_p0_places, .ref a_p0_stirred, .ref a_p0_ways, .ref a_p0_waysThen, .ref a_p0_stays, .ref a_p0_fewest, .ref a_p0_bowls, .ref a_p0_has, .ref a_p0_goesOn, .ref a_p0_isThere, .ref a_p0_isThereThen, .ref a_p0_bestRow, .ref a_p0_lanes, .ref a_p0_sizes, .ref a_p0_cells, .int (Int32.ofInt i_p0_torn)])), (a_p0_st, .inl (G 1, 152, .inl (zA v_p0_st)))] s.heap.size = A at hD ⊢
  have hA : ∀ q : Nat, s.heap.size ≤ q → A q := fun q h => by rw [← hAe]; exact Or.inr h
  clear hAe hD0
  have hS : va_S A s.heap s.heap [] := va_S.rf
  have hl := lv_entry ([.ref a_p0]) (n := 1) (Nat.le_of_ble_eq_true rfl)
  rw [lg_entry_eq]
  generalize (lg_sl ([.ref a_p0]) ++ List.replicate (1 - (lg_sl ([.ref a_p0])).length) Slot.unset).toArray = ls at hl ⊢
  have hl : lv_has ls 1 [(0, .ref a_p0)] := hl
  refine W_nameQ (fun Q hQ => ?_)
  obtain ⟨H, hH⟩ : ∃ H, H = s.heap := ⟨_, rfl⟩
  replace hS : va_S A s.heap H [] := by rw [hH]; exact hS
  replace hP : va_P D vwCl [(a_p0, .inr (12, [.ref a_p0_st, .ref a_p0_isKept, .int (Int32.ofInt i_p0_seats), .int (Int32.ofInt i_p0_stirs), .ref a_p0_brings, .ref a_p0_need, .ref a_p0_draft, .int (Int32.ofInt i_p0_dSeats), .int (Int32.ofInt i_p0_dStirs), .ref a_p0_dStir, .ref a_p0_dNeed, .int (Int32.ofInt i_p0_told), .int (Int32.ofInt i_p0_highest), .ref a_p0_tape, .int (Int32.ofInt i_p0_taped), .int (Int32.ofInt i_p0_pos), .int (Int32.ofInt i_p0_from), .int (Int32.ofInt i_p0_sort), .int (Int32.ofInt i_p0_value), .int (Int32.ofInt i_p0_fault), .int (Int32.ofInt i_p0_wrongAt), .ref a_p0_places, .ref a_p0_stirred, .ref a_p0_ways, .ref a_p0_waysThen, .ref a_p0_stays, .ref a_p0_fewest, .ref a_p0_bowls, .ref a_p0_has, .ref a_p0_goesOn, .ref a_p0_isThere, .ref a_p0_isThereThen, .ref a_p0_bestRow, .ref a_p0_lanes, .ref a_p0_sizes, .ref a_p0_cells, .int (Int32.ofInt i_p0_torn)])), (a_p0_st, .inl (G 1, 152, .inl (zA v_p0_st)))] H := by rw [hH]; exact hP
  rw [← hH]
  clear hH
  unfold f_X12_stateNow at hf
  refine lv_bipush (v := Int32.ofInt (7 : Int)) hx hb dX12_stateNow_0 (by decide) ?_
  refine lv_aload_n hx hb dX12_stateNow_2 rfl (lv_at hl 0 rfl) ?_
  refine va_get (D := D) (ci := 12) (v := .ref a_p0_st) (C := RX12) (T := TX12) (N := 37) hx hb hts inX12_stateNow_X12 hown hK hP 0 rfl rfl 0 (by decide) (hts _ mwX12_stateNow_1) (fun _ h9 => h9) rfl dX12_stateNow_3 ?_
  refine lv_bipush (v := Int32.ofInt (7 : Int)) hx hb dX12_stateNow_6 (by decide) ?_
  have hc := ck_c hf
  replace hf := ck_r hf
  refine va_iald hx hb hK hP 1 1 rfl rfl (z_ix_in hc) dX12_stateNow_8 (z_ci (z_ald v_p0_st hc) ?_)
  clear hc
  refine lv_imul hx hb dX12_stateNow_9 (z_ci (Int32.ofInt_mul (7 : Int) (v_p0_st (7 : Int))) ?_)
  refine lv_aload_n hx hb dX12_stateNow_10 rfl (lv_at hl 0 rfl) ?_
  refine va_get (D := D) (ci := 12) (v := .ref a_p0_st) (C := RX12) (T := TX12) (N := 37) hx hb hts inX12_stateNow_X12 hown hK hP 0 rfl rfl 0 (by decide) (hts _ mwX12_stateNow_1) (fun _ h9 => h9) rfl dX12_stateNow_11 ?_
  refine lv_bipush (v := Int32.ofInt (8 : Int)) hx hb dX12_stateNow_14 (by decide) ?_
  have hc := ck_c hf
  replace hf := ck_r hf
  refine va_iald hx hb hK hP 1 1 rfl rfl (z_ix_in hc) dX12_stateNow_16 (z_ci (z_ald v_p0_st hc) ?_)
  clear hc
  refine lv_iadd hx hb dX12_stateNow_17 (z_ci (Int32.ofInt_add ((7 : Int) * (v_p0_st (7 : Int))) (v_p0_st (8 : Int))) ?_)
  obtain rfl := ou1 hf
  rw [hQ]
  exact W.iret hx hb hr (fun t ht hW => ⟨⟨_, (), rfl, rfl, by rw [ht]; exact hP, va_K.moved hW.alike hK, hD⟩, hS.F ht⟩) hS.2.2 dX12_stateNow_18

noncomputable def B_X12_reign_107 (J27 : Int → (Int → Int) → Option (Int × (Int → Int) × (Int → Int))) (i_p0_seats : Int) (v_p0_st : (Int → Int)) (v_p0_brings : (Int → Int)) (z19 : Int) (w8 : (Int → Int)) (z12 : Int) (z17 : Int) (again107 : Int → Int → (Int → Int) → Option (Int × (Int → Int) × (Int → Int))) (z32 : Int) (z33 : Int) (w34 : (Int → Int)) : Option (Int × (Int → Int) × (Int → Int)) := (ck (z_r32 z32) (if z32 < (0 : Int) then (J27 z33 w34) else (bd2 (f_X12_then i_p0_seats v_p0_st v_p0_brings w34 z19 z32) (fun (z37 : Int) (w38 : (Int → Int)) => (bnd z37 (fun (z39 : Int) => (ck (z_dv z39 (7 : Int)) (ck (z_dv z19 (7 : Int)) (ck (z_r32 (z39 % (7 : Int))) (ck (z_r32 (z19 % (7 : Int))) (jn (fun (z42 : Int) => (bnd z42 (fun (z44 : Int) => (ck (z_r32 z44) (if z44 = (0 : Int) then (bnd z33 (fun (z46 : Int) => (bnd (z32 + (-1 : Int)) (fun (z47 : Int) => (again107 z47 z46 w38))))) else (bnd z32 (fun (z48 : Int) => (bnd (z32 + (-1 : Int)) (fun (z49 : Int) => (again107 z49 z48 w38)))))))))) (fun (J43 : Int → Option (Int × (Int → Int) × (Int → Int))) => (jn (J43 (0 : Int)) (fun (J50 : Option (Int × (Int → Int) × (Int → Int))) => (if (z39 % (7 : Int)) = (z19 % (7 : Int)) then (bd1 (f_X12_longestFrom w8 z39 ((z12 - z17) - (1 : Int))) (fun (z51 : Int) => (ck (z_r32 z51) (ck (z_r32 ((z12 - z17) - (1 : Int))) (if z51 = ((z12 - z17) - (1 : Int)) then (J43 (1 : Int)) else (J50)))))) else (J50))))))))))))))))
noncomputable def B_X12_reign_86 (x2 : Int) (w8 : (Int → Int)) (i_p0_stirs : Int) (i_p0_seats : Int) (v_p0_st : (Int → Int)) (v_p0_brings : (Int → Int)) (z12 : Int) (again86 : Int → Int → Int → (Int → Int) → Option (Int × (Int → Int) × (Int → Int))) (z17 : Int) (z18 : Int) (z19 : Int) (w20 : (Int → Int)) : Option (Int × (Int → Int) × (Int → Int)) := (ck (z_r32 z17) (if (x2 - (10 : Int)) < z17 then (some (z18, w20, w8)) else (bnd (-4 : Int) (fun (z23 : Int) => (bnd (i_p0_stirs - (1 : Int)) (fun (z24 : Int) => (jn (fun (z25 : Int) (w26 : (Int → Int)) => (bd2 (f_X12_then i_p0_seats v_p0_st v_p0_brings w26 z19 z25) (fun (z28 : Int) (w29 : (Int → Int)) => (bnd z28 (fun (z30 : Int) => (bnd (z17 + (1 : Int)) (fun (z31 : Int) => (again86 z31 z25 z30 w29)))))))) (fun (J27 : Int → (Int → Int) → Option (Int × (Int → Int) × (Int → Int))) => (lq3 (B_X12_reign_107 J27 i_p0_seats v_p0_st v_p0_brings z19 w8 z12 z17) 1000 z24 z23 w20)))))))))
noncomputable def f_X12_reign (i_p0_seats : Int) (i_p0_stirs : Int) (v_p0_st : (Int → Int)) (v_p0_brings : (Int → Int)) (v_p0_places : (Int → Int)) (v_p0_stays : (Int → Int)) (x1 : Int) (x2 : Int) : Option (Int × (Int → Int) × (Int → Int)) := (ck (z_r32 x1) (bd1 (f_X12_in x1 (1 : Int) (10 : Int)) (fun (z2 : Int) => (ck (z_r32 z2) (if z2 = (0 : Int) then (some ((-1 : Int), v_p0_places, v_p0_stays)) else (ck (z_r32 x2) (jn (ck (z_r32 i_p0_stirs) (if i_p0_stirs = (0 : Int) then (some ((-2 : Int), v_p0_places, v_p0_stays)) else (bd2 (f_X12_findStays i_p0_seats i_p0_stirs v_p0_st v_p0_brings v_p0_places v_p0_stays x1) (fun (w7 : (Int → Int)) (w8 : (Int → Int)) => (bd1 (f_X12_stateNow v_p0_st) (fun (z9 : Int) => (bnd z9 (fun (z10 : Int) => (bd1 (f_X12_longestFrom w8 z10 x1) (fun (z11 : Int) => (bnd z11 (fun (z12 : Int) => (if x2 = (0 : Int) then (some (z12, w7, w8)) else (ck (z_r32 (x2 - (10 : Int))) (ck (z_r32 z12) (if (x2 - (10 : Int)) < z12 then (bnd (-4 : Int) (fun (z15 : Int) => (bnd (0 : Int) (fun (z16 : Int) => (lq4 (B_X12_reign_86 x2 w8 i_p0_stirs i_p0_seats v_p0_st v_p0_brings z12) 1000 z16 z15 z10 w7))))) else (some ((-4 : Int), w7, w8)))))))))))))))))) (fun (J5 : Option (Int × (Int → Int) × (Int → Int))) => (if x2 = (0 : Int) then (J5) else (bd1 (f_X12_in x2 (10 : Int) (19 : Int)) (fun (z54 : Int) => (ck (z_r32 z54) (if z54 = (0 : Int) then (some ((-1 : Int), v_p0_places, v_p0_stays)) else (J5))))))))))))))
abbrev rm_X12_reign : Room := { frames := 5, cells := 0, slots := 0, locals := 119 }
theorem mwX12_reign_0 : Cond.constantLong RX12 236 (10) ∈ wsX12_reign := by first | exact List.mem_of_getElem? (i := 1) rfl | decide +kernel
theorem inX12_reign_X12 : ∀ w ∈ wsX120, w ∈ wsX12_reign := by first | exact fun w h => List.mem_cons_of_mem _ (List.mem_append_right _ h) | decide +kernel
theorem mwX12_reign_2 : Cond.fieldLink RX12 103 "LadleKingsModel" "stirs" "I" ∈ wsX12_reign := by first | exact List.mem_of_getElem? (i := 3) rfl | decide +kernel
theorem hdV_yX12_findStays_RX12 : yX12_findStays.cls = RX12 ∧ yX12_findStays.cls ≠ "java/lang/invoke/MethodHandle" ∧ yX12_findStays.cls ≠ "java/lang/invoke/VarHandle" ∧ (parseMethodDescriptor yX12_findStays.desc).map (fun d => d.parameters.length) = some 1 := by decide +kernel
theorem hdV_yX12_stateNow_RX12 : yX12_stateNow.cls = RX12 ∧ yX12_stateNow.cls ≠ "java/lang/invoke/MethodHandle" ∧ yX12_stateNow.cls ≠ "java/lang/invoke/VarHandle" ∧ (parseMethodDescriptor yX12_stateNow.desc).map (fun d => d.parameters.length) = some 0 := by decide +kernel
theorem mwX12_reign_5 : Cond.constantLong RX12 263 (19) ∈ wsX12_reign := by first | exact List.mem_of_getElem? (i := 2) rfl | decide +kernel
set_option maxHeartbeats 8000000 in
set_option maxRecDepth 100000 in
theorem c_X12_reign (l : Launch) (D : va_G) (G : Nat → ClassId) (sz : Nat) (a_p0 : Nat) (a_p0_st : Nat) (a_p0_isKept : Nat) (a_p0_brings : Nat) (a_p0_need : Nat) (a_p0_draft : Nat) (a_p0_dStir : Nat) (a_p0_dNeed : Nat) (a_p0_tape : Nat) (a_p0_places : Nat) (a_p0_stirred : Nat) (a_p0_ways : Nat) (a_p0_waysThen : Nat) (a_p0_stays : Nat) (a_p0_fewest : Nat) (a_p0_bowls : Nat) (a_p0_has : Nat) (a_p0_goesOn : Nat) (a_p0_isThere : Nat) (a_p0_isThereThen : Nat) (a_p0_bestRow : Nat) (a_p0_lanes : Nat) (a_p0_sizes : Nat) (a_p0_cells : Nat) (i_p0_seats : Int) (i_p0_stirs : Int) (i_p0_dSeats : Int) (i_p0_dStirs : Int) (i_p0_told : Int) (i_p0_highest : Int) (i_p0_taped : Int) (i_p0_pos : Int) (i_p0_from : Int) (i_p0_sort : Int) (i_p0_value : Int) (i_p0_fault : Int) (i_p0_wrongAt : Int) (i_p0_torn : Int) (v_p0_st : (Int → Int)) (v_p0_brings : (Int → Int)) (v_p0_places : (Int → Int)) (v_p0_stays : (Int → Int)) (x1 : Int) (x2 : Int) (r : Int) (o_v_p0_places : (Int → Int)) (o_v_p0_stays : (Int → Int)) (hf : f_X12_reign i_p0_seats i_p0_stirs v_p0_st v_p0_brings v_p0_places v_p0_stays x1 x2 = some (r, o_v_p0_places, o_v_p0_stays)) : Met l yX12_reign wsX12_reign rm_X12_reign (pcG D G [.ref a_p0, .int (Int32.ofInt x1), .int (Int32.ofInt x2)] sz [(a_p0, .inr (12, [.ref a_p0_st, .ref a_p0_isKept, .int (Int32.ofInt i_p0_seats), .int (Int32.ofInt i_p0_stirs), .ref a_p0_brings, .ref a_p0_need, .ref a_p0_draft, .int (Int32.ofInt i_p0_dSeats), .int (Int32.ofInt i_p0_dStirs), .ref a_p0_dStir, .ref a_p0_dNeed, .int (Int32.ofInt i_p0_told), .int (Int32.ofInt i_p0_highest), .ref a_p0_tape, .int (Int32.ofInt i_p0_taped), .int (Int32.ofInt i_p0_pos), .int (Int32.ofInt i_p0_from), .int (Int32.ofInt i_p0_sort), .int (Int32.ofInt i_p0_value), .int (Int32.ofInt i_p0_fault), .int (Int32.ofInt i_p0_wrongAt), .ref a_p0_places, .ref a_p0_stirred, .ref a_p0_ways, .ref a_p0_waysThen, .ref a_p0_stays, .ref a_p0_fewest, .ref a_p0_bowls, .ref a_p0_has, .ref a_p0_goesOn, .ref a_p0_isThere, .ref a_p0_isThereThen, .ref a_p0_bestRow, .ref a_p0_lanes, .ref a_p0_sizes, .ref a_p0_cells, .int (Int32.ofInt i_p0_torn)])), (a_p0_st, .inl (G 1, 152, .inl (zA v_p0_st))), (a_p0_brings, .inl (G 1, 35, .inl (zA v_p0_brings))), (a_p0_places, .inl (G 1, 7, .inl (zA v_p0_places))), (a_p0_stays, .inl (G 1, 539, .inl (zA v_p0_stays)))]) (qcI D G (Int32.ofInt r) [(a_p0, .inr (12, [.ref a_p0_st, .ref a_p0_isKept, .int (Int32.ofInt i_p0_seats), .int (Int32.ofInt i_p0_stirs), .ref a_p0_brings, .ref a_p0_need, .ref a_p0_draft, .int (Int32.ofInt i_p0_dSeats), .int (Int32.ofInt i_p0_dStirs), .ref a_p0_dStir, .ref a_p0_dNeed, .int (Int32.ofInt i_p0_told), .int (Int32.ofInt i_p0_highest), .ref a_p0_tape, .int (Int32.ofInt i_p0_taped), .int (Int32.ofInt i_p0_pos), .int (Int32.ofInt i_p0_from), .int (Int32.ofInt i_p0_sort), .int (Int32.ofInt i_p0_value), .int (Int32.ofInt i_p0_fault), .int (Int32.ofInt i_p0_wrongAt), .ref a_p0_places, .ref a_p0_stirred, .ref a_p0_ways, .ref a_p0_waysThen, .ref a_p0_stays, .ref a_p0_fewest, .ref a_p0_bowls, .ref a_p0_has, .ref a_p0_goesOn, .ref a_p0_isThere, .ref a_p0_isThereThen, .ref a_p0_bestRow, .ref a_p0_lanes, .ref a_p0_sizes, .ref a_p0_cells, .int (Int32.ofInt i_p0_torn)])), (a_p0_st, .inl (G 1, 152, .inl (zA v_p0_st))), (a_p0_brings, .inl (G 1, 35, .inl (zA v_p0_brings))), (a_p0_places, .inl (G 1, 7, .inl (zA o_v_p0_places))), (a_p0_stays, .inl (G 1, 539, .inl (zA o_v_p0_stays)))] (va_A [(a_p0, .inr (12, [.ref a_p0_st, .ref a_p0_isKept, .int (Int32.ofInt i_p0_seats), .int (Int32.ofInt i_p0_stirs), .ref a_p0_brings, .ref a_p0_need, .ref a_p0_draft, .int (Int32.ofInt i_p0_dSeats), .int (Int32.ofInt i_p0_dStirs), .ref a_p0_dStir, .ref a_p0_dNeed, .int (Int32.ofInt i_p0_told), .int (Int32.ofInt i_p0_highest), .ref a_p0_tape, .int (Int32.ofInt i_p0_taped), .int (Int32.ofInt i_p0_pos), .int (Int32.ofInt i_p0_from), .int (Int32.ofInt i_p0_sort), .int (Int32.ofInt i_p0_value), .int (Int32.ofInt i_p0_fault), .int (Int32.ofInt i_p0_wrongAt), .ref a_p0_places, .ref a_p0_stirred, .ref a_p0_ways, .ref a_p0_waysThen, .ref a_p0_stays, .ref a_p0_fewest, .ref a_p0_bowls, .ref a_p0_has, .ref a_p0_goesOn, .ref a_p0_isThere, .ref a_p0_isThereThen, .ref a_p0_bestRow, .ref a_p0_lanes, .ref a_p0_sizes, .ref a_p0_cells, .int (Int32.ofInt i_p0_torn)])), (a_p0_st, .inl (G 1, 152, .inl (zA v_p0_st))), (a_p0_brings, .inl (G 1, 35, .inl (zA v_p0_brings))), (a_p0_places, .inl (G 1, 7, .inl (zA v_p0_places))), (a_p0_stays, .inl (G 1, 539, .inl (zA v_p0_stays)))] sz)) 0 0 (va_A [(a_p0, .inr (12, [.ref a_p0_st, .ref a_p0_isKept, .int (Int32.ofInt i_p0_seats), .int (Int32.ofInt i_p0_stirs), .ref a_p0_brings, .ref a_p0_need, .ref a_p0_draft, .int (Int32.ofInt i_p0_dSeats), .int (Int32.ofInt i_p0_dStirs), .ref a_p0_dStir, .ref a_p0_dNeed, .int (Int32.ofInt i_p0_told), .int (Int32.ofInt i_p0_highest), .ref a_p0_tape, .int (Int32.ofInt i_p0_taped), .int (Int32.ofInt i_p0_pos), .int (Int32.ofInt i_p0_from), .int (Int32.ofInt i_p0_sort), .int (Int32.ofInt i_p0_value), .int (Int32.ofInt i_p0_fault), .int (Int32.ofInt i_p0_wrongAt), .ref a_p0_places, .ref a_p0_stirred, .ref a_p0_ways, .ref a_p0_waysThen, .ref a_p0_stays, .ref a_p0_fewest, .ref a_p0_bowls, .ref a_p0_has, .ref a_p0_goesOn, .ref a_p0_isThere, .ref a_p0_isThereThen, .ref a_p0_bestRow, .ref a_p0_lanes, .ref a_p0_sizes, .ref a_p0_cells, .int (Int32.ofInt i_p0_torn)])), (a_p0_st, .inl (G 1, 152, .inl (zA v_p0_st))), (a_p0_brings, .inl (G 1, 35, .inl (zA v_p0_brings))), (a_p0_places, .inl (G 1, 7, .inl (zA v_p0_places))), (a_p0_stays, .inl (G 1, 539, .inl (zA v_p0_stays)))] sz) := by
  refine Met.ofW (cc := cX12_reign) (maxL := 10) (ret := (some .int)) (by decide) rfl ?_
  intro p e s m args below meth c s₁ B hml hv
  obtain ⟨rfl, hsz, hP, hK, hD0⟩ := hv
  have hx := B.exec
  have hb := B.bytes
  have hr := B.returns
  have hts := atoms_spec (ws := wsX12_reign) B.pre
  have hown : s.vm.findClass RX12 = some m.cls := findClass_of_methodNamed B.named
  have hlocks := B.notSynchronized
  subst hsz
  have hD := hD0.self (sz := s.heap.size)
  generalize hAe : va_A [(a_p0, .inr (12, [.ref a_p0_st, .ref a_p0_isKept, .int (Int32.ofInt i_p0_seats), .int (Int32.ofInt i_p0_stirs), .ref a_p0_brings, .ref a_p0_need, .ref a_p0_draft, .int (Int32.ofInt i_p0_dSeats), .int (Int32.ofInt i_p0_dStirs), .ref a_p0_dStir, .ref a_p0_dNeed, .int (Int32.ofInt i_p0_told), .int (Int32.ofInt i_p0_highest), .ref a_p0_tape, .int (Int32.ofInt i_p0_taped), .int (Int32.ofInt i_p0_pos), .int (Int32.ofInt i_p0_from), .int (Int32.ofInt i_p0_sort), .int (Int32.ofInt i_p0_value), .int (Int32.ofInt i_p0_fault), .int (Int32.ofInt i_p0_wrongAt), .ref a_p0_places, .ref a_p0_stirred, .ref a_p0_ways, .ref a_p0_waysThen, .ref a_p0_stays, .ref a_p0_fewest, .ref a_p0_bowls, .ref a_p0_has, .ref a_p0_goesOn, .ref a_p0_isThere, .ref a_p0_isThereThen, .ref a_p0_bestRow, .ref a_p0_lanes, .ref a_p0_sizes, .ref a_p0_cells, .int (Int32.ofInt i_p0_torn)])), (a_p0_st, .inl (G 1, 152, .inl (zA v_p0_st))), (a_p0_brings, .inl (G 1, 35, .inl (zA v_p0_brings))), (a_p0_places, .inl (G 1, 7, .inl (zA v_p0_places))), (a_p0_stays, .inl (G 1, 539, .inl (zA v_p0_stays)))] s.heap.size = A at hD ⊢
  have hA : ∀ q : Nat, s.heap.size ≤ q → A q := fun q h => by rw [← hAe]; exact Or.inr h
  clear hAe hD0
  have hS : va_S A s.heap s.heap [] := va_S.rf
  have hl := lv_entry ([.ref a_p0, .int (Int32.ofInt x1), .int (Int32.ofInt x2)]) (n := 10) (Nat.le_of_ble_eq_true rfl)
  rw [lg_entry_eq]
  generalize (lg_sl ([.ref a_p0, .int (Int32.ofInt x1), .int (Int32.ofInt x2)]) ++ List.replicate (10 - (lg_sl ([.ref a_p0, .int (Int32.ofInt x1), .int (Int32.ofInt x2)])).length) Slot.unset).toArray = ls at hl ⊢
  have hl : lv_has ls 10 [(0, .ref a_p0), (1, .int (Int32.ofInt x1)), (2, .int (Int32.ofInt x2))] := hl
  refine W_nameQ (fun Q hQ => ?_)
  obtain ⟨H, hH⟩ : ∃ H, H = s.heap := ⟨_, rfl⟩
  replace hS : va_S A s.heap H [] := by rw [hH]; exact hS
  replace hP : va_P D vwCl [(a_p0, .inr (12, [.ref a_p0_st, .ref a_p0_isKept, .int (Int32.ofInt i_p0_seats), .int (Int32.ofInt i_p0_stirs), .ref a_p0_brings, .ref a_p0_need, .ref a_p0_draft, .int (Int32.ofInt i_p0_dSeats), .int (Int32.ofInt i_p0_dStirs), .ref a_p0_dStir, .ref a_p0_dNeed, .int (Int32.ofInt i_p0_told), .int (Int32.ofInt i_p0_highest), .ref a_p0_tape, .int (Int32.ofInt i_p0_taped), .int (Int32.ofInt i_p0_pos), .int (Int32.ofInt i_p0_from), .int (Int32.ofInt i_p0_sort), .int (Int32.ofInt i_p0_value), .int (Int32.ofInt i_p0_fault), .int (Int32.ofInt i_p0_wrongAt), .ref a_p0_places, .ref a_p0_stirred, .ref a_p0_ways, .ref a_p0_waysThen, .ref a_p0_stays, .ref a_p0_fewest, .ref a_p0_bowls, .ref a_p0_has, .ref a_p0_goesOn, .ref a_p0_isThere, .ref a_p0_isThereThen, .ref a_p0_bestRow, .ref a_p0_lanes, .ref a_p0_sizes, .ref a_p0_cells, .int (Int32.ofInt i_p0_torn)])), (a_p0_st, .inl (G 1, 152, .inl (zA v_p0_st))), (a_p0_brings, .inl (G 1, 35, .inl (zA v_p0_brings))), (a_p0_places, .inl (G 1, 7, .inl (zA v_p0_places))), (a_p0_stays, .inl (G 1, 539, .inl (zA v_p0_stays)))] H := by rw [hH]; exact hP
  rw [← hH]
  clear hH
  unfold f_X12_reign at hf
  refine lv_iload_n hx hb dX12_reign_0 rfl (lv_at hl 1 rfl) ?_
  have hr0 := ck_c hf
  replace hf := ck_r hf
  refine lv_i2l (v := Int64.ofInt x1) hx hb dX12_reign_1 (z_i2l hr0) ?_
  refine lv_lconst (v := Int64.ofInt (1 : Int)) hx hb dX12_reign_2 (by decide) ?_
  refine lv_ldc2 (v := (10 : Int64)) hx hb hown (hts _ mwX12_reign_0) dX12_reign_3 (z_cl (show Int64.ofInt (10 : Int) = _ from by decide) ?_)
  have hq := bd1_s hf
  clear hf
  obtain ⟨z2, hcall, hf⟩ := hq
  refine gnI (va_runS (As := [.long (Int64.ofInt x1), .long (Int64.ofInt (1 : Int)), .long (Int64.ofInt (10 : Int))]) (rest := []) ⟨hx, hb, hml, hown, hts⟩ (c_X12_in (l := l) (D := D) (G := G) (sz := H.size) (x0 := x1) (x2 := (1 : Int)) (x4 := (10 : Int)) (r := z2) (hf := hcall)) (va_cwS 3 hts gX12_reign_X12_in rfl rfl rfl (by decide +kernel) ⟨Nat.le_of_ble_eq_true rfl, Nat.le_of_ble_eq_true rfl⟩) (preG_S (hP.sub [] rfl) (hD.sub [] rfl rfl) hK) rfl rfl hl.1 rfl (lv_room (Nat.le_of_ble_eq_true rfl)) dX12_reign_6 ⟨Nat.le_of_ble_eq_true rfl, Nat.le_of_ble_eq_true rfl⟩) hP hD hS hA [] rfl (fun H locs hP hD hS => ?_)
  clear hcall
  have hr2 := ck_c hf
  replace hf := ck_r hf
  refine lv_if_eq (tgt := 30) hx hb dX12_reign_9 (by decide) (fun cc => ?_) (fun cc => ?_)
  ·
    replace hf := ite_t ((z_eq0 hr2).mp cc) hf
    clear cc
    refine lv_iconst (v := Int32.ofInt (-1 : Int)) hx hb dX12_reign_30 (by decide) ?_
    obtain ⟨rfl, rfl, rfl⟩ := ou3 hf
    rw [hQ]
    exact W.iret hx hb hr (fun t ht hW => ⟨⟨_, (), rfl, rfl, by rw [ht]; exact hP, va_K.moved hW.alike hK, hD⟩, hS.F ht⟩) hS.2.2 dX12_reign_31
  ·
    replace hf := ite_f (fun h9 => cc ((z_eq0 hr2).mpr h9)) hf
    clear cc
    refine lv_iload_n hx hb dX12_reign_12 rfl (lv_at hl 2 rfl) ?_
    have hr3 := ck_c hf
    replace hf := ck_r hf
    have hq := jn_i hf
    clear hf
    obtain ⟨J5, eJ5, hf⟩ := hq
    have hJ5 : ∀  (ls : Array Slot) (H : Heap) (locs : List Loc), lv_has ls 10 [(0, .ref a_p0), (1, .int (Int32.ofInt x1)), (2, .int (Int32.ofInt x2))] → va_P D vwCl [(a_p0, .inr (12, [.ref a_p0_st, .ref a_p0_isKept, .int (Int32.ofInt i_p0_seats), .int (Int32.ofInt i_p0_stirs), .ref a_p0_brings, .ref a_p0_need, .ref a_p0_draft, .int (Int32.ofInt i_p0_dSeats), .int (Int32.ofInt i_p0_dStirs), .ref a_p0_dStir, .ref a_p0_dNeed, .int (Int32.ofInt i_p0_told), .int (Int32.ofInt i_p0_highest), .ref a_p0_tape, .int (Int32.ofInt i_p0_taped), .int (Int32.ofInt i_p0_pos), .int (Int32.ofInt i_p0_from), .int (Int32.ofInt i_p0_sort), .int (Int32.ofInt i_p0_value), .int (Int32.ofInt i_p0_fault), .int (Int32.ofInt i_p0_wrongAt), .ref a_p0_places, .ref a_p0_stirred, .ref a_p0_ways, .ref a_p0_waysThen, .ref a_p0_stays, .ref a_p0_fewest, .ref a_p0_bowls, .ref a_p0_has, .ref a_p0_goesOn, .ref a_p0_isThere, .ref a_p0_isThereThen, .ref a_p0_bestRow, .ref a_p0_lanes, .ref a_p0_sizes, .ref a_p0_cells, .int (Int32.ofInt i_p0_torn)])), (a_p0_st, .inl (G 1, 152, .inl (zA v_p0_st))), (a_p0_brings, .inl (G 1, 35, .inl (zA v_p0_brings))), (a_p0_places, .inl (G 1, 7, .inl (zA v_p0_places))), (a_p0_stays, .inl (G 1, 539, .inl (zA v_p0_stays)))] H → va_D A [(a_p0, .inr (12, [.ref a_p0_st, .ref a_p0_isKept, .int (Int32.ofInt i_p0_seats), .int (Int32.ofInt i_p0_stirs), .ref a_p0_brings, .ref a_p0_need, .ref a_p0_draft, .int (Int32.ofInt i_p0_dSeats), .int (Int32.ofInt i_p0_dStirs), .ref a_p0_dStir, .ref a_p0_dNeed, .int (Int32.ofInt i_p0_told), .int (Int32.ofInt i_p0_highest), .ref a_p0_tape, .int (Int32.ofInt i_p0_taped), .int (Int32.ofInt i_p0_pos), .int (Int32.ofInt i_p0_from), .int (Int32.ofInt i_p0_sort), .int (Int32.ofInt i_p0_value), .int (Int32.ofInt i_p0_fault), .int (Int32.ofInt i_p0_wrongAt), .ref a_p0_places, .ref a_p0_stirred, .ref a_p0_ways, .ref a_p0_waysThen, .ref a_p0_stays, .ref a_p0_fewest, .ref a_p0_bowls, .ref a_p0_has, .ref a_p0_goesOn, .ref a_p0_isThere, .ref a_p0_isThereThen, .ref a_p0_bestRow, .ref a_p0_lanes, .ref a_p0_sizes, .ref a_p0_cells, .int (Int32.ofInt i_p0_torn)])), (a_p0_st, .inl (G 1, 152, .inl (zA v_p0_st))), (a_p0_brings, .inl (G 1, 35, .inl (zA v_p0_brings))), (a_p0_places, .inl (G 1, 7, .inl (zA v_p0_places))), (a_p0_stays, .inl (G 1, 539, .inl (zA v_p0_stays)))] → va_S A s.heap H locs → J5  = some (r, o_v_p0_places, o_v_p0_stays) → W p l e rm_X12_reign s m ([.ref a_p0, .int (Int32.ofInt x1), .int (Int32.ofInt x2)] : List Value).toArray below meth c H locs 0 0 Q (F0 m 32 ls []) := by
      clear hf hl hP hD hS
      intro  ls H locs hl hP hD hS hf
      replace hf := jn0_s eJ5 hf
      refine lv_aload_n hx hb dX12_reign_32 rfl (lv_at hl 0 rfl) ?_
      refine va_get (D := D) (ci := 12) (v := .int (Int32.ofInt i_p0_stirs)) (C := RX12) (T := TX12) (N := 37) hx hb hts inX12_reign_X12 hown hK hP 0 rfl rfl 3 (by decide) (hts _ mwX12_reign_2) (fun _ h9 => h9) rfl dX12_reign_33 ?_
      have hr5 := ck_c hf
      replace hf := ck_r hf
      refine lv_if_ne (tgt := 42) hx hb dX12_reign_36 (by decide) (fun cc => ?_) (fun cc => ?_)
      ·
        replace hf := ite_f (fun h9 => cc ((z_eq0 hr5).mpr h9)) hf
        clear cc
        refine lv_aload_n hx hb dX12_reign_42 rfl (lv_at hl 0 rfl) ?_
        refine lv_iload_n hx hb dX12_reign_43 rfl (lv_at hl 1 rfl) ?_
        have hq := bd2_s hf
        clear hf
        obtain ⟨w7, w8, hcall, hf⟩ := hq
        refine gsV (ws' := [(a_p0, .inr (12, [.ref a_p0_st, .ref a_p0_isKept, .int (Int32.ofInt i_p0_seats), .int (Int32.ofInt i_p0_stirs), .ref a_p0_brings, .ref a_p0_need, .ref a_p0_draft, .int (Int32.ofInt i_p0_dSeats), .int (Int32.ofInt i_p0_dStirs), .ref a_p0_dStir, .ref a_p0_dNeed, .int (Int32.ofInt i_p0_told), .int (Int32.ofInt i_p0_highest), .ref a_p0_tape, .int (Int32.ofInt i_p0_taped), .int (Int32.ofInt i_p0_pos), .int (Int32.ofInt i_p0_from), .int (Int32.ofInt i_p0_sort), .int (Int32.ofInt i_p0_value), .int (Int32.ofInt i_p0_fault), .int (Int32.ofInt i_p0_wrongAt), .ref a_p0_places, .ref a_p0_stirred, .ref a_p0_ways, .ref a_p0_waysThen, .ref a_p0_stays, .ref a_p0_fewest, .ref a_p0_bowls, .ref a_p0_has, .ref a_p0_goesOn, .ref a_p0_isThere, .ref a_p0_isThereThen, .ref a_p0_bestRow, .ref a_p0_lanes, .ref a_p0_sizes, .ref a_p0_cells, .int (Int32.ofInt i_p0_torn)])), (a_p0_st, .inl (G 1, 152, .inl (zA v_p0_st))), (a_p0_brings, .inl (G 1, 35, .inl (zA v_p0_brings))), (a_p0_places, .inl (G 1, 7, .inl (zA w7))), (a_p0_stays, .inl (G 1, 539, .inl (zA w8)))]) (va_runV (As := [.int (Int32.ofInt x1)]) (rest := []) ⟨hx, hb, hml, hown, hts⟩ (c_X12_findStays (l := l) (D := D) (G := G) (sz := H.size) (a_p0 := a_p0) (a_p0_st := a_p0_st) (a_p0_isKept := a_p0_isKept) (a_p0_brings := a_p0_brings) (a_p0_need := a_p0_need) (a_p0_draft := a_p0_draft) (a_p0_dStir := a_p0_dStir) (a_p0_dNeed := a_p0_dNeed) (a_p0_tape := a_p0_tape) (a_p0_places := a_p0_places) (a_p0_stirred := a_p0_stirred) (a_p0_ways := a_p0_ways) (a_p0_waysThen := a_p0_waysThen) (a_p0_stays := a_p0_stays) (a_p0_fewest := a_p0_fewest) (a_p0_bowls := a_p0_bowls) (a_p0_has := a_p0_has) (a_p0_goesOn := a_p0_goesOn) (a_p0_isThere := a_p0_isThere) (a_p0_isThereThen := a_p0_isThereThen) (a_p0_bestRow := a_p0_bestRow) (a_p0_lanes := a_p0_lanes) (a_p0_sizes := a_p0_sizes) (a_p0_cells := a_p0_cells) (i_p0_seats := i_p0_seats) (i_p0_stirs := i_p0_stirs) (i_p0_dSeats := i_p0_dSeats) (i_p0_dStirs := i_p0_dStirs) (i_p0_told := i_p0_told) (i_p0_highest := i_p0_highest) (i_p0_taped := i_p0_taped) (i_p0_pos := i_p0_pos) (i_p0_from := i_p0_from) (i_p0_sort := i_p0_sort) (i_p0_value := i_p0_value) (i_p0_fault := i_p0_fault) (i_p0_wrongAt := i_p0_wrongAt) (i_p0_torn := i_p0_torn) (v_p0_st := v_p0_st) (v_p0_brings := v_p0_brings) (v_p0_places := v_p0_places) (v_p0_stays := v_p0_stays) (x1 := x1) (o_v_p0_places := w7) (o_v_p0_stays := w8) (hf := hcall)) (cwV 1 hts gX12_reign_X12_findStays rfl rfl rfl hdV_yX12_findStays_RX12 ⟨Nat.le_of_ble_eq_true rfl, Nat.le_of_ble_eq_true rfl⟩) (preG_V (ci := 12) (q := (RX12, TX12, 37)) (hP.sub [0, 1, 2, 3, 4] rfl) (hD.sub [0, 1, 2, 3, 4] rfl rfl) hK rfl rfl) rfl rfl hl.1 rfl (lv_room (Nat.le_of_ble_eq_true rfl)) dX12_reign_44 ⟨Nat.le_of_ble_eq_true rfl, Nat.le_of_ble_eq_true rfl⟩) hP hD hS hA [0, 1, 2, 3, 4] rfl rfl rfl (fun H locs hP hD hS => ?_)
        clear hcall
        refine lv_aload_n hx hb dX12_reign_47 rfl (lv_at hl 0 rfl) ?_
        have hq := bd1_s hf
        clear hf
        obtain ⟨z9, hcall, hf⟩ := hq
        refine gnI (va_runV (As := []) (rest := []) ⟨hx, hb, hml, hown, hts⟩ (c_X12_stateNow (l := l) (D := D) (G := G) (sz := H.size) (a_p0 := a_p0) (a_p0_st := a_p0_st) (a_p0_isKept := a_p0_isKept) (a_p0_brings := a_p0_brings) (a_p0_need := a_p0_need) (a_p0_draft := a_p0_draft) (a_p0_dStir := a_p0_dStir) (a_p0_dNeed := a_p0_dNeed) (a_p0_tape := a_p0_tape) (a_p0_places := a_p0_places) (a_p0_stirred := a_p0_stirred) (a_p0_ways := a_p0_ways) (a_p0_waysThen := a_p0_waysThen) (a_p0_stays := a_p0_stays) (a_p0_fewest := a_p0_fewest) (a_p0_bowls := a_p0_bowls) (a_p0_has := a_p0_has) (a_p0_goesOn := a_p0_goesOn) (a_p0_isThere := a_p0_isThere) (a_p0_isThereThen := a_p0_isThereThen) (a_p0_bestRow := a_p0_bestRow) (a_p0_lanes := a_p0_lanes) (a_p0_sizes := a_p0_sizes) (a_p0_cells := a_p0_cells) (i_p0_seats := i_p0_seats) (i_p0_stirs := i_p0_stirs) (i_p0_dSeats := i_p0_dSeats) (i_p0_dStirs := i_p0_dStirs) (i_p0_told := i_p0_told) (i_p0_highest := i_p0_highest) (i_p0_taped := i_p0_taped) (i_p0_pos := i_p0_pos) (i_p0_from := i_p0_from) (i_p0_sort := i_p0_sort) (i_p0_value := i_p0_value) (i_p0_fault := i_p0_fault) (i_p0_wrongAt := i_p0_wrongAt) (i_p0_torn := i_p0_torn) (v_p0_st := v_p0_st) (r := z9) (hf := hcall)) (cwV 0 hts gX12_reign_X12_stateNow rfl rfl rfl hdV_yX12_stateNow_RX12 ⟨Nat.le_of_ble_eq_true rfl, Nat.le_of_ble_eq_true rfl⟩) (preG_V (ci := 12) (q := (RX12, TX12, 37)) (hP.sub [0, 1] rfl) (hD.sub [0, 1] rfl rfl) hK rfl rfl) rfl rfl hl.1 rfl (lv_room (Nat.le_of_ble_eq_true rfl)) dX12_reign_48 ⟨Nat.le_of_ble_eq_true rfl, Nat.le_of_ble_eq_true rfl⟩) hP hD hS hA [0, 1] rfl (fun H locs hP hD hS => ?_)
        clear hcall
        refine z_topi (fun z10 ez => ?_)
        replace hf := bnd_s hf ez
        clear ez
        refine lv_istore_n (lv' := [(3, .int (Int32.ofInt z10)), (0, .ref a_p0), (1, .int (Int32.ofInt x1)), (2, .int (Int32.ofInt x2))]) hx hb dX12_reign_51 rfl hl (by decide) rfl (fun ls hl => ?_)
        refine lv_aload_n hx hb dX12_reign_52 rfl (lv_at hl 1 rfl) ?_
        refine lv_iload_n hx hb dX12_reign_53 rfl (lv_at hl 0 rfl) ?_
        refine lv_iload_n hx hb dX12_reign_54 rfl (lv_at hl 2 rfl) ?_
        have hq := bd1_s hf
        clear hf
        obtain ⟨z11, hcall, hf⟩ := hq
        refine gnI (va_runV (As := [.int (Int32.ofInt z10), .int (Int32.ofInt x1)]) (rest := []) ⟨hx, hb, hml, hown, hts⟩ (c_X12_longestFrom (l := l) (D := D) (G := G) (sz := H.size) (a_p0 := a_p0) (a_p0_st := a_p0_st) (a_p0_isKept := a_p0_isKept) (a_p0_brings := a_p0_brings) (a_p0_need := a_p0_need) (a_p0_draft := a_p0_draft) (a_p0_dStir := a_p0_dStir) (a_p0_dNeed := a_p0_dNeed) (a_p0_tape := a_p0_tape) (a_p0_places := a_p0_places) (a_p0_stirred := a_p0_stirred) (a_p0_ways := a_p0_ways) (a_p0_waysThen := a_p0_waysThen) (a_p0_stays := a_p0_stays) (a_p0_fewest := a_p0_fewest) (a_p0_bowls := a_p0_bowls) (a_p0_has := a_p0_has) (a_p0_goesOn := a_p0_goesOn) (a_p0_isThere := a_p0_isThere) (a_p0_isThereThen := a_p0_isThereThen) (a_p0_bestRow := a_p0_bestRow) (a_p0_lanes := a_p0_lanes) (a_p0_sizes := a_p0_sizes) (a_p0_cells := a_p0_cells) (i_p0_seats := i_p0_seats) (i_p0_stirs := i_p0_stirs) (i_p0_dSeats := i_p0_dSeats) (i_p0_dStirs := i_p0_dStirs) (i_p0_told := i_p0_told) (i_p0_highest := i_p0_highest) (i_p0_taped := i_p0_taped) (i_p0_pos := i_p0_pos) (i_p0_from := i_p0_from) (i_p0_sort := i_p0_sort) (i_p0_value := i_p0_value) (i_p0_fault := i_p0_fault) (i_p0_wrongAt := i_p0_wrongAt) (i_p0_torn := i_p0_torn) (v_p0_stays := w8) (x1 := z10) (x2 := x1) (r := z11) (hf := hcall)) (cwV 2 hts gX12_reign_X12_longestFrom rfl rfl rfl hdV_yX12_longestFrom_RX12 ⟨Nat.le_of_ble_eq_true rfl, Nat.le_of_ble_eq_true rfl⟩) (preG_V (ci := 12) (q := (RX12, TX12, 37)) (hP.sub [0, 4] rfl) (hD.sub [0, 4] rfl rfl) hK rfl rfl) rfl rfl hl.1 rfl (lv_room (Nat.le_of_ble_eq_true rfl)) dX12_reign_55 ⟨Nat.le_of_ble_eq_true rfl, Nat.le_of_ble_eq_true rfl⟩) hP hD hS hA [0, 4] rfl (fun H locs hP hD hS => ?_)
        clear hcall
        refine z_topi (fun z12 ez => ?_)
        replace hf := bnd_s hf ez
        clear ez
        refine lv_istore (lv' := [(4, .int (Int32.ofInt z12)), (3, .int (Int32.ofInt z10)), (0, .ref a_p0), (1, .int (Int32.ofInt x1)), (2, .int (Int32.ofInt x2))]) hx hb dX12_reign_58 hl (by decide) rfl (fun ls hl => ?_)
        refine lv_iload_n hx hb dX12_reign_60 rfl (lv_at hl 4 rfl) ?_
        refine lv_if_ne (tgt := 67) hx hb dX12_reign_61 (by decide) (fun cc => ?_) (fun cc => ?_)
        ·
          replace hf := ite_f (fun h9 => cc ((z_eq0 hr3).mpr h9)) hf
          clear cc
          refine lv_iload_n hx hb dX12_reign_67 rfl (lv_at hl 4 rfl) ?_
          refine lv_bipush (v := Int32.ofInt (10 : Int)) hx hb dX12_reign_68 (by decide) ?_
          refine lv_isub hx hb dX12_reign_70 (z_ci (Int32.ofInt_sub x2 (10 : Int)) ?_)
          refine lv_iload hx hb dX12_reign_71 (lv_at hl 0 rfl) ?_
          have hr12 := ck_c hf
          replace hf := ck_r hf
          have hr13 := ck_c hf
          replace hf := ck_r hf
          refine lv_icmp_lt (tgt := 79) hx hb dX12_reign_73 (by decide) (fun cc => ?_) (fun cc => ?_)
          ·
            replace hf := ite_t ((z_lt hr12 hr13).mp cc) hf
            clear cc
            refine lv_bipush (v := Int32.ofInt (-4 : Int)) hx hb dX12_reign_79 (by decide) ?_
            refine z_topi (fun z15 ez => ?_)
            replace hf := bnd_s hf ez
            clear ez
            refine lv_istore (lv' := [(5, .int (Int32.ofInt z15)), (4, .int (Int32.ofInt z12)), (3, .int (Int32.ofInt z10)), (0, .ref a_p0), (1, .int (Int32.ofInt x1)), (2, .int (Int32.ofInt x2))]) hx hb dX12_reign_81 hl (by decide) rfl (fun ls hl => ?_)
            refine lv_iconst (v := Int32.ofInt (0 : Int)) hx hb dX12_reign_83 (by decide) ?_
            refine z_topi (fun z16 ez => ?_)
            replace hf := bnd_s hf ez
            clear ez
            refine lv_istore (lv' := [(6, .int (Int32.ofInt z16)), (5, .int (Int32.ofInt z15)), (4, .int (Int32.ofInt z12)), (3, .int (Int32.ofInt z10)), (0, .ref a_p0), (1, .int (Int32.ofInt x1)), (2, .int (Int32.ofInt x2))]) hx hb dX12_reign_84 hl (by decide) rfl (fun ls hl => ?_)
            have hq := lq4_i hf
            clear hf
            obtain ⟨B21, eB21, NB21, hf⟩ := hq
            have hB21 : ∀ (n : Nat) (z17 : Int) (z18 : Int) (z19 : Int) (w20 : (Int → Int)) (ls : Array Slot) (H : Heap) (locs : List Loc), lv_has ls 10 [(6, .int (Int32.ofInt z17)), (5, .int (Int32.ofInt z18)), (4, .int (Int32.ofInt z12)), (3, .int (Int32.ofInt z19)), (0, .ref a_p0), (2, .int (Int32.ofInt x2))] → va_P D vwCl [(a_p0, .inr (12, [.ref a_p0_st, .ref a_p0_isKept, .int (Int32.ofInt i_p0_seats), .int (Int32.ofInt i_p0_stirs), .ref a_p0_brings, .ref a_p0_need, .ref a_p0_draft, .int (Int32.ofInt i_p0_dSeats), .int (Int32.ofInt i_p0_dStirs), .ref a_p0_dStir, .ref a_p0_dNeed, .int (Int32.ofInt i_p0_told), .int (Int32.ofInt i_p0_highest), .ref a_p0_tape, .int (Int32.ofInt i_p0_taped), .int (Int32.ofInt i_p0_pos), .int (Int32.ofInt i_p0_from), .int (Int32.ofInt i_p0_sort), .int (Int32.ofInt i_p0_value), .int (Int32.ofInt i_p0_fault), .int (Int32.ofInt i_p0_wrongAt), .ref a_p0_places, .ref a_p0_stirred, .ref a_p0_ways, .ref a_p0_waysThen, .ref a_p0_stays, .ref a_p0_fewest, .ref a_p0_bowls, .ref a_p0_has, .ref a_p0_goesOn, .ref a_p0_isThere, .ref a_p0_isThereThen, .ref a_p0_bestRow, .ref a_p0_lanes, .ref a_p0_sizes, .ref a_p0_cells, .int (Int32.ofInt i_p0_torn)])), (a_p0_st, .inl (G 1, 152, .inl (zA v_p0_st))), (a_p0_brings, .inl (G 1, 35, .inl (zA v_p0_brings))), (a_p0_places, .inl (G 1, 7, .inl (zA w20))), (a_p0_stays, .inl (G 1, 539, .inl (zA w8)))] H → va_D A [(a_p0, .inr (12, [.ref a_p0_st, .ref a_p0_isKept, .int (Int32.ofInt i_p0_seats), .int (Int32.ofInt i_p0_stirs), .ref a_p0_brings, .ref a_p0_need, .ref a_p0_draft, .int (Int32.ofInt i_p0_dSeats), .int (Int32.ofInt i_p0_dStirs), .ref a_p0_dStir, .ref a_p0_dNeed, .int (Int32.ofInt i_p0_told), .int (Int32.ofInt i_p0_highest), .ref a_p0_tape, .int (Int32.ofInt i_p0_taped), .int (Int32.ofInt i_p0_pos), .int (Int32.ofInt i_p0_from), .int (Int32.ofInt i_p0_sort), .int (Int32.ofInt i_p0_value), .int (Int32.ofInt i_p0_fault), .int (Int32.ofInt i_p0_wrongAt), .ref a_p0_places, .ref a_p0_stirred, .ref a_p0_ways, .ref a_p0_waysThen, .ref a_p0_stays, .ref a_p0_fewest, .ref a_p0_bowls, .ref a_p0_has, .ref a_p0_goesOn, .ref a_p0_isThere, .ref a_p0_isThereThen, .ref a_p0_bestRow, .ref a_p0_lanes, .ref a_p0_sizes, .ref a_p0_cells, .int (Int32.ofInt i_p0_torn)])), (a_p0_st, .inl (G 1, 152, .inl (zA v_p0_st))), (a_p0_brings, .inl (G 1, 35, .inl (zA v_p0_brings))), (a_p0_places, .inl (G 1, 7, .inl (zA w20))), (a_p0_stays, .inl (G 1, 539, .inl (zA w8)))] → va_S A s.heap H locs → lq4 B21 n z17 z18 z19 w20 = some (r, o_v_p0_places, o_v_p0_stays) → W p l e rm_X12_reign s m ([.ref a_p0, .int (Int32.ofInt x1), .int (Int32.ofInt x2)] : List Value).toArray below meth c H locs 0 0 Q (F0 m 86 ls []) := by
              clear hf hl hP hD hS
              intro n
              induction n with
              | zero =>
                intro z17 z18 z19 w20 ls H locs hl hP hD hS hf
                exact (lq4_0 hf).elim
              | succ n ih86 =>
                intro z17 z18 z19 w20 ls H locs hl hP hD hS hf
                replace hf := lq4_s eB21 hf
                unfold B_X12_reign_86 at hf
                refine lv_iload hx hb dX12_reign_86 (lv_at hl 0 rfl) ?_
                refine lv_iload_n hx hb dX12_reign_88 rfl (lv_at hl 5 rfl) ?_
                refine lv_bipush (v := Int32.ofInt (10 : Int)) hx hb dX12_reign_89 (by decide) ?_
                refine lv_isub hx hb dX12_reign_91 (z_ci (Int32.ofInt_sub x2 (10 : Int)) ?_)
                have hr21 := ck_c hf
                replace hf := ck_r hf
                refine lv_icmp_gt (tgt := 197) hx hb dX12_reign_92 (by decide) (fun cc => ?_) (fun cc => ?_)
                ·
                  replace hf := ite_t ((z_lt hr12 hr21).mp cc) hf
                  clear cc
                  refine lv_iload hx hb dX12_reign_197 (lv_at hl 1 rfl) ?_
                  obtain ⟨rfl, rfl, rfl⟩ := ou3 hf
                  rw [hQ]
                  exact W.iret hx hb hr (fun t ht hW => ⟨⟨_, (), rfl, rfl, by rw [ht]; exact hP, va_K.moved hW.alike hK, hD⟩, hS.F ht⟩) hS.2.2 dX12_reign_199
                ·
                  replace hf := ite_f (fun h9 => cc ((z_lt hr12 hr21).mpr h9)) hf
                  clear cc
                  refine lv_bipush (v := Int32.ofInt (-4 : Int)) hx hb dX12_reign_95 (by decide) ?_
                  refine z_topi (fun z23 ez => ?_)
                  replace hf := bnd_s hf ez
                  clear ez
                  refine lv_istore (lv' := [(5, .int (Int32.ofInt z23)), (6, .int (Int32.ofInt z17)), (4, .int (Int32.ofInt z12)), (3, .int (Int32.ofInt z19)), (0, .ref a_p0), (2, .int (Int32.ofInt x2))]) hx hb dX12_reign_97 hl (by decide) rfl (fun ls hl => ?_)
                  refine lv_aload_n hx hb dX12_reign_99 rfl (lv_at hl 4 rfl) ?_
                  refine va_get (D := D) (ci := 12) (v := .int (Int32.ofInt i_p0_stirs)) (C := RX12) (T := TX12) (N := 37) hx hb hts inX12_reign_X12 hown hK hP 0 rfl rfl 3 (by decide) (hts _ mwX12_reign_2) (fun _ h9 => h9) rfl dX12_reign_100 ?_
                  refine lv_iconst (v := Int32.ofInt (1 : Int)) hx hb dX12_reign_103 (by decide) ?_
                  refine lv_isub hx hb dX12_reign_104 (z_ci (Int32.ofInt_sub i_p0_stirs (1 : Int)) ?_)
                  refine z_topi (fun z24 ez => ?_)
                  replace hf := bnd_s hf ez
                  clear ez
                  refine lv_istore (lv' := [(7, .int (Int32.ofInt z24)), (5, .int (Int32.ofInt z23)), (6, .int (Int32.ofInt z17)), (4, .int (Int32.ofInt z12)), (3, .int (Int32.ofInt z19)), (0, .ref a_p0), (2, .int (Int32.ofInt x2))]) hx hb dX12_reign_105 hl (by decide) rfl (fun ls hl => ?_)
                  have hq := jn_i hf
                  clear hf
                  obtain ⟨J27, eJ27, hf⟩ := hq
                  have hJ27 : ∀ (z25 : Int) (w26 : (Int → Int)) (ls : Array Slot) (H : Heap) (locs : List Loc), lv_has ls 10 [(5, .int (Int32.ofInt z25)), (6, .int (Int32.ofInt z17)), (4, .int (Int32.ofInt z12)), (3, .int (Int32.ofInt z19)), (0, .ref a_p0), (2, .int (Int32.ofInt x2))] → va_P D vwCl [(a_p0, .inr (12, [.ref a_p0_st, .ref a_p0_isKept, .int (Int32.ofInt i_p0_seats), .int (Int32.ofInt i_p0_stirs), .ref a_p0_brings, .ref a_p0_need, .ref a_p0_draft, .int (Int32.ofInt i_p0_dSeats), .int (Int32.ofInt i_p0_dStirs), .ref a_p0_dStir, .ref a_p0_dNeed, .int (Int32.ofInt i_p0_told), .int (Int32.ofInt i_p0_highest), .ref a_p0_tape, .int (Int32.ofInt i_p0_taped), .int (Int32.ofInt i_p0_pos), .int (Int32.ofInt i_p0_from), .int (Int32.ofInt i_p0_sort), .int (Int32.ofInt i_p0_value), .int (Int32.ofInt i_p0_fault), .int (Int32.ofInt i_p0_wrongAt), .ref a_p0_places, .ref a_p0_stirred, .ref a_p0_ways, .ref a_p0_waysThen, .ref a_p0_stays, .ref a_p0_fewest, .ref a_p0_bowls, .ref a_p0_has, .ref a_p0_goesOn, .ref a_p0_isThere, .ref a_p0_isThereThen, .ref a_p0_bestRow, .ref a_p0_lanes, .ref a_p0_sizes, .ref a_p0_cells, .int (Int32.ofInt i_p0_torn)])), (a_p0_st, .inl (G 1, 152, .inl (zA v_p0_st))), (a_p0_brings, .inl (G 1, 35, .inl (zA v_p0_brings))), (a_p0_places, .inl (G 1, 7, .inl (zA w26))), (a_p0_stays, .inl (G 1, 539, .inl (zA w8)))] H → va_D A [(a_p0, .inr (12, [.ref a_p0_st, .ref a_p0_isKept, .int (Int32.ofInt i_p0_seats), .int (Int32.ofInt i_p0_stirs), .ref a_p0_brings, .ref a_p0_need, .ref a_p0_draft, .int (Int32.ofInt i_p0_dSeats), .int (Int32.ofInt i_p0_dStirs), .ref a_p0_dStir, .ref a_p0_dNeed, .int (Int32.ofInt i_p0_told), .int (Int32.ofInt i_p0_highest), .ref a_p0_tape, .int (Int32.ofInt i_p0_taped), .int (Int32.ofInt i_p0_pos), .int (Int32.ofInt i_p0_from), .int (Int32.ofInt i_p0_sort), .int (Int32.ofInt i_p0_value), .int (Int32.ofInt i_p0_fault), .int (Int32.ofInt i_p0_wrongAt), .ref a_p0_places, .ref a_p0_stirred, .ref a_p0_ways, .ref a_p0_waysThen, .ref a_p0_stays, .ref a_p0_fewest, .ref a_p0_bowls, .ref a_p0_has, .ref a_p0_goesOn, .ref a_p0_isThere, .ref a_p0_isThereThen, .ref a_p0_bestRow, .ref a_p0_lanes, .ref a_p0_sizes, .ref a_p0_cells, .int (Int32.ofInt i_p0_torn)])), (a_p0_st, .inl (G 1, 152, .inl (zA v_p0_st))), (a_p0_brings, .inl (G 1, 35, .inl (zA v_p0_brings))), (a_p0_places, .inl (G 1, 7, .inl (zA w26))), (a_p0_stays, .inl (G 1, 539, .inl (zA w8)))] → va_S A s.heap H locs → J27 z25 w26 = some (r, o_v_p0_places, o_v_p0_stays) → W p l e rm_X12_reign s m ([.ref a_p0, .int (Int32.ofInt x1), .int (Int32.ofInt x2)] : List Value).toArray below meth c H locs 0 0 Q (F0 m 183 ls []) := by
                    clear hf hl hP hD hS
                    intro z25 w26 ls H locs hl hP hD hS hf
                    replace hf := jn2_s eJ27 hf
                    refine lv_aload_n hx hb dX12_reign_183 rfl (lv_at hl 4 rfl) ?_
                    refine lv_iload_n hx hb dX12_reign_184 rfl (lv_at hl 3 rfl) ?_
                    refine lv_iload hx hb dX12_reign_185 (lv_at hl 0 rfl) ?_
                    have hq := bd2_s hf
                    clear hf
                    obtain ⟨z28, w29, hcall, hf⟩ := hq
                    refine gsI (ws' := [(a_p0, .inr (12, [.ref a_p0_st, .ref a_p0_isKept, .int (Int32.ofInt i_p0_seats), .int (Int32.ofInt i_p0_stirs), .ref a_p0_brings, .ref a_p0_need, .ref a_p0_draft, .int (Int32.ofInt i_p0_dSeats), .int (Int32.ofInt i_p0_dStirs), .ref a_p0_dStir, .ref a_p0_dNeed, .int (Int32.ofInt i_p0_told), .int (Int32.ofInt i_p0_highest), .ref a_p0_tape, .int (Int32.ofInt i_p0_taped), .int (Int32.ofInt i_p0_pos), .int (Int32.ofInt i_p0_from), .int (Int32.ofInt i_p0_sort), .int (Int32.ofInt i_p0_value), .int (Int32.ofInt i_p0_fault), .int (Int32.ofInt i_p0_wrongAt), .ref a_p0_places, .ref a_p0_stirred, .ref a_p0_ways, .ref a_p0_waysThen, .ref a_p0_stays, .ref a_p0_fewest, .ref a_p0_bowls, .ref a_p0_has, .ref a_p0_goesOn, .ref a_p0_isThere, .ref a_p0_isThereThen, .ref a_p0_bestRow, .ref a_p0_lanes, .ref a_p0_sizes, .ref a_p0_cells, .int (Int32.ofInt i_p0_torn)])), (a_p0_st, .inl (G 1, 152, .inl (zA v_p0_st))), (a_p0_brings, .inl (G 1, 35, .inl (zA v_p0_brings))), (a_p0_places, .inl (G 1, 7, .inl (zA w29))), (a_p0_stays, .inl (G 1, 539, .inl (zA w8)))]) (va_runV (As := [.int (Int32.ofInt z19), .int (Int32.ofInt z25)]) (rest := []) ⟨hx, hb, hml, hown, hts⟩ (c_X12_then (l := l) (D := D) (G := G) (sz := H.size) (a_p0 := a_p0) (a_p0_st := a_p0_st) (a_p0_isKept := a_p0_isKept) (a_p0_brings := a_p0_brings) (a_p0_need := a_p0_need) (a_p0_draft := a_p0_draft) (a_p0_dStir := a_p0_dStir) (a_p0_dNeed := a_p0_dNeed) (a_p0_tape := a_p0_tape) (a_p0_places := a_p0_places) (a_p0_stirred := a_p0_stirred) (a_p0_ways := a_p0_ways) (a_p0_waysThen := a_p0_waysThen) (a_p0_stays := a_p0_stays) (a_p0_fewest := a_p0_fewest) (a_p0_bowls := a_p0_bowls) (a_p0_has := a_p0_has) (a_p0_goesOn := a_p0_goesOn) (a_p0_isThere := a_p0_isThere) (a_p0_isThereThen := a_p0_isThereThen) (a_p0_bestRow := a_p0_bestRow) (a_p0_lanes := a_p0_lanes) (a_p0_sizes := a_p0_sizes) (a_p0_cells := a_p0_cells) (i_p0_seats := i_p0_seats) (i_p0_stirs := i_p0_stirs) (i_p0_dSeats := i_p0_dSeats) (i_p0_dStirs := i_p0_dStirs) (i_p0_told := i_p0_told) (i_p0_highest := i_p0_highest) (i_p0_taped := i_p0_taped) (i_p0_pos := i_p0_pos) (i_p0_from := i_p0_from) (i_p0_sort := i_p0_sort) (i_p0_value := i_p0_value) (i_p0_fault := i_p0_fault) (i_p0_wrongAt := i_p0_wrongAt) (i_p0_torn := i_p0_torn) (v_p0_st := v_p0_st) (v_p0_brings := v_p0_brings) (v_p0_places := w26) (x1 := z19) (x2 := z25) (r := z28) (o_v_p0_places := w29) (hf := hcall)) (cwV 2 hts gX12_reign_X12_then rfl rfl rfl hdV_yX12_then_RX12 ⟨Nat.le_of_ble_eq_true rfl, Nat.le_of_ble_eq_true rfl⟩) (preG_V (ci := 12) (q := (RX12, TX12, 37)) (hP.sub [0, 1, 2, 3] rfl) (hD.sub [0, 1, 2, 3] rfl rfl) hK rfl rfl) rfl rfl hl.1 rfl (lv_room (Nat.le_of_ble_eq_true rfl)) dX12_reign_187 ⟨Nat.le_of_ble_eq_true rfl, Nat.le_of_ble_eq_true rfl⟩) hP hD hS hA [0, 1, 2, 3] rfl rfl rfl (fun H locs hP hD hS => ?_)
                    clear hcall
                    refine z_topi (fun z30 ez => ?_)
                    replace hf := bnd_s hf ez
                    clear ez
                    refine lv_istore_n (lv' := [(3, .int (Int32.ofInt z30)), (5, .int (Int32.ofInt z25)), (6, .int (Int32.ofInt z17)), (4, .int (Int32.ofInt z12)), (0, .ref a_p0), (2, .int (Int32.ofInt x2))]) hx hb dX12_reign_190 rfl hl (by decide) rfl (fun ls hl => ?_)
                    obtain ⟨z31, ez⟩ : ∃ y : Int, y = (z17 + (1 : Int)) := ⟨_, rfl⟩
                    replace hf := bnd_s hf ez
                    refine lv_iinc (v := Int32.ofInt z31) (lv' := [(6, .int (Int32.ofInt z31)), (3, .int (Int32.ofInt z30)), (5, .int (Int32.ofInt z25)), (4, .int (Int32.ofInt z12)), (0, .ref a_p0), (2, .int (Int32.ofInt x2))]) hx hb dX12_reign_191 hl (k := 2) rfl (by rw [ez]; exact (Int32.ofInt_add _ _).symm) (by decide) rfl (fun ls hl => ?_)
                    clear ez
                    refine lv_goto (tgt := 86) hx hb dX12_reign_194 (by decide) ?_
                    exact ih86 _ _ _ _ _ _ _ (lv_sub hl [0, 2, 3, 1, 4, 5] rfl) hP hD hS hf
                  have hq := lq3_i hf
                  clear hf
                  obtain ⟨B35, eB35, NB35, hf⟩ := hq
                  have hB35 : ∀ (n : Nat) (z32 : Int) (z33 : Int) (w34 : (Int → Int)) (ls : Array Slot) (H : Heap) (locs : List Loc), lv_has ls 10 [(7, .int (Int32.ofInt z32)), (5, .int (Int32.ofInt z33)), (6, .int (Int32.ofInt z17)), (4, .int (Int32.ofInt z12)), (3, .int (Int32.ofInt z19)), (0, .ref a_p0), (2, .int (Int32.ofInt x2))] → va_P D vwCl [(a_p0, .inr (12, [.ref a_p0_st, .ref a_p0_isKept, .int (Int32.ofInt i_p0_seats), .int (Int32.ofInt i_p0_stirs), .ref a_p0_brings, .ref a_p0_need, .ref a_p0_draft, .int (Int32.ofInt i_p0_dSeats), .int (Int32.ofInt i_p0_dStirs), .ref a_p0_dStir, .ref a_p0_dNeed, .int (Int32.ofInt i_p0_told), .int (Int32.ofInt i_p0_highest), .ref a_p0_tape, .int (Int32.ofInt i_p0_taped), .int (Int32.ofInt i_p0_pos), .int (Int32.ofInt i_p0_from), .int (Int32.ofInt i_p0_sort), .int (Int32.ofInt i_p0_value), .int (Int32.ofInt i_p0_fault), .int (Int32.ofInt i_p0_wrongAt), .ref a_p0_places, .ref a_p0_stirred, .ref a_p0_ways, .ref a_p0_waysThen, .ref a_p0_stays, .ref a_p0_fewest, .ref a_p0_bowls, .ref a_p0_has, .ref a_p0_goesOn, .ref a_p0_isThere, .ref a_p0_isThereThen, .ref a_p0_bestRow, .ref a_p0_lanes, .ref a_p0_sizes, .ref a_p0_cells, .int (Int32.ofInt i_p0_torn)])), (a_p0_st, .inl (G 1, 152, .inl (zA v_p0_st))), (a_p0_brings, .inl (G 1, 35, .inl (zA v_p0_brings))), (a_p0_places, .inl (G 1, 7, .inl (zA w34))), (a_p0_stays, .inl (G 1, 539, .inl (zA w8)))] H → va_D A [(a_p0, .inr (12, [.ref a_p0_st, .ref a_p0_isKept, .int (Int32.ofInt i_p0_seats), .int (Int32.ofInt i_p0_stirs), .ref a_p0_brings, .ref a_p0_need, .ref a_p0_draft, .int (Int32.ofInt i_p0_dSeats), .int (Int32.ofInt i_p0_dStirs), .ref a_p0_dStir, .ref a_p0_dNeed, .int (Int32.ofInt i_p0_told), .int (Int32.ofInt i_p0_highest), .ref a_p0_tape, .int (Int32.ofInt i_p0_taped), .int (Int32.ofInt i_p0_pos), .int (Int32.ofInt i_p0_from), .int (Int32.ofInt i_p0_sort), .int (Int32.ofInt i_p0_value), .int (Int32.ofInt i_p0_fault), .int (Int32.ofInt i_p0_wrongAt), .ref a_p0_places, .ref a_p0_stirred, .ref a_p0_ways, .ref a_p0_waysThen, .ref a_p0_stays, .ref a_p0_fewest, .ref a_p0_bowls, .ref a_p0_has, .ref a_p0_goesOn, .ref a_p0_isThere, .ref a_p0_isThereThen, .ref a_p0_bestRow, .ref a_p0_lanes, .ref a_p0_sizes, .ref a_p0_cells, .int (Int32.ofInt i_p0_torn)])), (a_p0_st, .inl (G 1, 152, .inl (zA v_p0_st))), (a_p0_brings, .inl (G 1, 35, .inl (zA v_p0_brings))), (a_p0_places, .inl (G 1, 7, .inl (zA w34))), (a_p0_stays, .inl (G 1, 539, .inl (zA w8)))] → va_S A s.heap H locs → lq3 B35 n z32 z33 w34 = some (r, o_v_p0_places, o_v_p0_stays) → W p l e rm_X12_reign s m ([.ref a_p0, .int (Int32.ofInt x1), .int (Int32.ofInt x2)] : List Value).toArray below meth c H locs 0 0 Q (F0 m 107 ls []) := by
                    clear hf hl hP hD hS
                    intro n
                    induction n with
                    | zero =>
                      intro z32 z33 w34 ls H locs hl hP hD hS hf
                      exact (lq3_0 hf).elim
                    | succ n ih107 =>
                      intro z32 z33 w34 ls H locs hl hP hD hS hf
                      replace hf := lq3_s eB35 hf
                      unfold B_X12_reign_107 at hf
                      refine lv_iload hx hb dX12_reign_107 (lv_at hl 0 rfl) ?_
                      have hr35 := ck_c hf
                      replace hf := ck_r hf
                      refine lv_if_lt (tgt := 183) hx hb dX12_reign_109 (by decide) (fun cc => ?_) (fun cc => ?_)
                      ·
                        replace hf := ite_t ((z_lt0 hr35).mp cc) hf
                        clear cc
                        exact hJ27 _ _ _ _ _ (lv_sub hl [1, 2, 3, 4, 5, 6] rfl) hP hD hS hf
                      ·
                        replace hf := ite_f (fun h9 => cc ((z_lt0 hr35).mpr h9)) hf
                        clear cc
                        refine lv_aload_n hx hb dX12_reign_112 rfl (lv_at hl 5 rfl) ?_
                        refine lv_iload_n hx hb dX12_reign_113 rfl (lv_at hl 4 rfl) ?_
                        refine lv_iload hx hb dX12_reign_114 (lv_at hl 0 rfl) ?_
                        have hq := bd2_s hf
                        clear hf
                        obtain ⟨z37, w38, hcall, hf⟩ := hq
                        refine gsI (ws' := [(a_p0, .inr (12, [.ref a_p0_st, .ref a_p0_isKept, .int (Int32.ofInt i_p0_seats), .int (Int32.ofInt i_p0_stirs), .ref a_p0_brings, .ref a_p0_need, .ref a_p0_draft, .int (Int32.ofInt i_p0_dSeats), .int (Int32.ofInt i_p0_dStirs), .ref a_p0_dStir, .ref a_p0_dNeed, .int (Int32.ofInt i_p0_told), .int (Int32.ofInt i_p0_highest), .ref a_p0_tape, .int (Int32.ofInt i_p0_taped), .int (Int32.ofInt i_p0_pos), .int (Int32.ofInt i_p0_from), .int (Int32.ofInt i_p0_sort), .int (Int32.ofInt i_p0_value), .int (Int32.ofInt i_p0_fault), .int (Int32.ofInt i_p0_wrongAt), .ref a_p0_places, .ref a_p0_stirred, .ref a_p0_ways, .ref a_p0_waysThen, .ref a_p0_stays, .ref a_p0_fewest, .ref a_p0_bowls, .ref a_p0_has, .ref a_p0_goesOn, .ref a_p0_isThere, .ref a_p0_isThereThen, .ref a_p0_bestRow, .ref a_p0_lanes, .ref a_p0_sizes, .ref a_p0_cells, .int (Int32.ofInt i_p0_torn)])), (a_p0_st, .inl (G 1, 152, .inl (zA v_p0_st))), (a_p0_brings, .inl (G 1, 35, .inl (zA v_p0_brings))), (a_p0_places, .inl (G 1, 7, .inl (zA w38))), (a_p0_stays, .inl (G 1, 539, .inl (zA w8)))]) (va_runV (As := [.int (Int32.ofInt z19), .int (Int32.ofInt z32)]) (rest := []) ⟨hx, hb, hml, hown, hts⟩ (c_X12_then (l := l) (D := D) (G := G) (sz := H.size) (a_p0 := a_p0) (a_p0_st := a_p0_st) (a_p0_isKept := a_p0_isKept) (a_p0_brings := a_p0_brings) (a_p0_need := a_p0_need) (a_p0_draft := a_p0_draft) (a_p0_dStir := a_p0_dStir) (a_p0_dNeed := a_p0_dNeed) (a_p0_tape := a_p0_tape) (a_p0_places := a_p0_places) (a_p0_stirred := a_p0_stirred) (a_p0_ways := a_p0_ways) (a_p0_waysThen := a_p0_waysThen) (a_p0_stays := a_p0_stays) (a_p0_fewest := a_p0_fewest) (a_p0_bowls := a_p0_bowls) (a_p0_has := a_p0_has) (a_p0_goesOn := a_p0_goesOn) (a_p0_isThere := a_p0_isThere) (a_p0_isThereThen := a_p0_isThereThen) (a_p0_bestRow := a_p0_bestRow) (a_p0_lanes := a_p0_lanes) (a_p0_sizes := a_p0_sizes) (a_p0_cells := a_p0_cells) (i_p0_seats := i_p0_seats) (i_p0_stirs := i_p0_stirs) (i_p0_dSeats := i_p0_dSeats) (i_p0_dStirs := i_p0_dStirs) (i_p0_told := i_p0_told) (i_p0_highest := i_p0_highest) (i_p0_taped := i_p0_taped) (i_p0_pos := i_p0_pos) (i_p0_from := i_p0_from) (i_p0_sort := i_p0_sort) (i_p0_value := i_p0_value) (i_p0_fault := i_p0_fault) (i_p0_wrongAt := i_p0_wrongAt) (i_p0_torn := i_p0_torn) (v_p0_st := v_p0_st) (v_p0_brings := v_p0_brings) (v_p0_places := w34) (x1 := z19) (x2 := z32) (r := z37) (o_v_p0_places := w38) (hf := hcall)) (cwV 2 hts gX12_reign_X12_then rfl rfl rfl hdV_yX12_then_RX12 ⟨Nat.le_of_ble_eq_true rfl, Nat.le_of_ble_eq_true rfl⟩) (preG_V (ci := 12) (q := (RX12, TX12, 37)) (hP.sub [0, 1, 2, 3] rfl) (hD.sub [0, 1, 2, 3] rfl rfl) hK rfl rfl) rfl rfl hl.1 rfl (lv_room (Nat.le_of_ble_eq_true rfl)) dX12_reign_116 ⟨Nat.le_of_ble_eq_true rfl, Nat.le_of_ble_eq_true rfl⟩) hP hD hS hA [0, 1, 2, 3] rfl rfl rfl (fun H locs hP hD hS => ?_)
                        clear hcall
                        refine z_topi (fun z39 ez => ?_)
                        replace hf := bnd_s hf ez
                        clear ez
                        refine lv_istore (lv' := [(8, .int (Int32.ofInt z39)), (7, .int (Int32.ofInt z32)), (5, .int (Int32.ofInt z33)), (6, .int (Int32.ofInt z17)), (4, .int (Int32.ofInt z12)), (3, .int (Int32.ofInt z19)), (0, .ref a_p0), (2, .int (Int32.ofInt x2))]) hx hb dX12_reign_119 hl (by decide) rfl (fun ls hl => ?_)
                        refine lv_iload hx hb dX12_reign_121 (lv_at hl 0 rfl) ?_
                        refine lv_bipush (v := Int32.ofInt (7 : Int)) hx hb dX12_reign_123 (by decide) ?_
                        have hc := ck_c hf
                        replace hf := ck_r hf
                        refine lv_irem hx hb dX12_reign_125 (z_nz hc) (z_ci (z_rem hc) ?_)
                        clear hc
                        refine lv_iload_n hx hb dX12_reign_126 rfl (lv_at hl 5 rfl) ?_
                        refine lv_bipush (v := Int32.ofInt (7 : Int)) hx hb dX12_reign_127 (by decide) ?_
                        have hc := ck_c hf
                        replace hf := ck_r hf
                        refine lv_irem hx hb dX12_reign_129 (z_nz hc) (z_ci (z_rem hc) ?_)
                        clear hc
                        have hr39 := ck_c hf
                        replace hf := ck_r hf
                        have hr40 := ck_c hf
                        replace hf := ck_r hf
                        have hq := jn_i hf
                        clear hf
                        obtain ⟨J43, eJ43, hf⟩ := hq
                        have hJ43 : ∀ (z42 : Int) (ls : Array Slot) (H : Heap) (locs : List Loc), lv_has ls 10 [(7, .int (Int32.ofInt z32)), (5, .int (Int32.ofInt z33)), (6, .int (Int32.ofInt z17)), (4, .int (Int32.ofInt z12)), (3, .int (Int32.ofInt z19)), (0, .ref a_p0), (2, .int (Int32.ofInt x2))] → va_P D vwCl [(a_p0, .inr (12, [.ref a_p0_st, .ref a_p0_isKept, .int (Int32.ofInt i_p0_seats), .int (Int32.ofInt i_p0_stirs), .ref a_p0_brings, .ref a_p0_need, .ref a_p0_draft, .int (Int32.ofInt i_p0_dSeats), .int (Int32.ofInt i_p0_dStirs), .ref a_p0_dStir, .ref a_p0_dNeed, .int (Int32.ofInt i_p0_told), .int (Int32.ofInt i_p0_highest), .ref a_p0_tape, .int (Int32.ofInt i_p0_taped), .int (Int32.ofInt i_p0_pos), .int (Int32.ofInt i_p0_from), .int (Int32.ofInt i_p0_sort), .int (Int32.ofInt i_p0_value), .int (Int32.ofInt i_p0_fault), .int (Int32.ofInt i_p0_wrongAt), .ref a_p0_places, .ref a_p0_stirred, .ref a_p0_ways, .ref a_p0_waysThen, .ref a_p0_stays, .ref a_p0_fewest, .ref a_p0_bowls, .ref a_p0_has, .ref a_p0_goesOn, .ref a_p0_isThere, .ref a_p0_isThereThen, .ref a_p0_bestRow, .ref a_p0_lanes, .ref a_p0_sizes, .ref a_p0_cells, .int (Int32.ofInt i_p0_torn)])), (a_p0_st, .inl (G 1, 152, .inl (zA v_p0_st))), (a_p0_brings, .inl (G 1, 35, .inl (zA v_p0_brings))), (a_p0_places, .inl (G 1, 7, .inl (zA w38))), (a_p0_stays, .inl (G 1, 539, .inl (zA w8)))] H → va_D A [(a_p0, .inr (12, [.ref a_p0_st, .ref a_p0_isKept, .int (Int32.ofInt i_p0_seats), .int (Int32.ofInt i_p0_stirs), .ref a_p0_brings, .ref a_p0_need, .ref a_p0_draft, .int (Int32.ofInt i_p0_dSeats), .int (Int32.ofInt i_p0_dStirs), .ref a_p0_dStir, .ref a_p0_dNeed, .int (Int32.ofInt i_p0_told), .int (Int32.ofInt i_p0_highest), .ref a_p0_tape, .int (Int32.ofInt i_p0_taped), .int (Int32.ofInt i_p0_pos), .int (Int32.ofInt i_p0_from), .int (Int32.ofInt i_p0_sort), .int (Int32.ofInt i_p0_value), .int (Int32.ofInt i_p0_fault), .int (Int32.ofInt i_p0_wrongAt), .ref a_p0_places, .ref a_p0_stirred, .ref a_p0_ways, .ref a_p0_waysThen, .ref a_p0_stays, .ref a_p0_fewest, .ref a_p0_bowls, .ref a_p0_has, .ref a_p0_goesOn, .ref a_p0_isThere, .ref a_p0_isThereThen, .ref a_p0_bestRow, .ref a_p0_lanes, .ref a_p0_sizes, .ref a_p0_cells, .int (Int32.ofInt i_p0_torn)])), (a_p0_st, .inl (G 1, 152, .inl (zA v_p0_st))), (a_p0_brings, .inl (G 1, 35, .inl (zA v_p0_brings))), (a_p0_places, .inl (G 1, 7, .inl (zA w38))), (a_p0_stays, .inl (G 1, 539, .inl (zA w8)))] → va_S A s.heap H locs → J43 z42 = some (r, o_v_p0_places, o_v_p0_stays) → W p l e rm_X12_reign s m ([.ref a_p0, .int (Int32.ofInt x1), .int (Int32.ofInt x2)] : List Value).toArray below meth c H locs 0 0 Q (F0 m 161 ls [.int (Int32.ofInt z42)]) := by
                          clear hf hl hP hD hS
                          intro z42 ls H locs hl hP hD hS hf
                          replace hf := jn1_s eJ43 hf
                          refine z_topi (fun z44 ez => ?_)
                          replace hf := bnd_s hf ez
                          clear ez
                          refine lv_istore (lv' := [(9, .int (Int32.ofInt z44)), (7, .int (Int32.ofInt z32)), (5, .int (Int32.ofInt z33)), (6, .int (Int32.ofInt z17)), (4, .int (Int32.ofInt z12)), (3, .int (Int32.ofInt z19)), (0, .ref a_p0), (2, .int (Int32.ofInt x2))]) hx hb dX12_reign_161 hl (by decide) rfl (fun ls hl => ?_)
                          refine lv_iload hx hb dX12_reign_163 (lv_at hl 0 rfl) ?_
                          have hr44 := ck_c hf
                          replace hf := ck_r hf
                          refine lv_if_eq (tgt := 173) hx hb dX12_reign_165 (by decide) (fun cc => ?_) (fun cc => ?_)
                          ·
                            replace hf := ite_t ((z_eq0 hr44).mp cc) hf
                            clear cc
                            refine lv_iload hx hb dX12_reign_173 (lv_at hl 2 rfl) ?_
                            refine z_topi (fun z46 ez => ?_)
                            replace hf := bnd_s hf ez
                            clear ez
                            refine lv_istore (lv' := [(5, .int (Int32.ofInt z46)), (9, .int (Int32.ofInt z44)), (7, .int (Int32.ofInt z32)), (6, .int (Int32.ofInt z17)), (4, .int (Int32.ofInt z12)), (3, .int (Int32.ofInt z19)), (0, .ref a_p0), (2, .int (Int32.ofInt x2))]) hx hb dX12_reign_175 hl (by decide) rfl (fun ls hl => ?_)
                            obtain ⟨z47, ez⟩ : ∃ y : Int, y = (z32 + (-1 : Int)) := ⟨_, rfl⟩
                            replace hf := bnd_s hf ez
                            refine lv_iinc (v := Int32.ofInt z47) (lv' := [(7, .int (Int32.ofInt z47)), (5, .int (Int32.ofInt z46)), (9, .int (Int32.ofInt z44)), (6, .int (Int32.ofInt z17)), (4, .int (Int32.ofInt z12)), (3, .int (Int32.ofInt z19)), (0, .ref a_p0), (2, .int (Int32.ofInt x2))]) hx hb dX12_reign_177 hl (k := 2) rfl (by rw [ez]; exact (Int32.ofInt_add _ _).symm) (by decide) rfl (fun ls hl => ?_)
                            clear ez
                            refine lv_goto (tgt := 107) hx hb dX12_reign_180 (by decide) ?_
                            exact ih107 _ _ _ _ _ _ (lv_sub hl [0, 1, 3, 4, 5, 6, 7] rfl) hP hD hS hf
                          ·
                            replace hf := ite_f (fun h9 => cc ((z_eq0 hr44).mpr h9)) hf
                            clear cc
                            refine lv_iload hx hb dX12_reign_168 (lv_at hl 1 rfl) ?_
                            refine lv_goto (tgt := 175) hx hb dX12_reign_170 (by decide) ?_
                            refine z_topi (fun z48 ez => ?_)
                            replace hf := bnd_s hf ez
                            clear ez
                            refine lv_istore (lv' := [(5, .int (Int32.ofInt z48)), (9, .int (Int32.ofInt z44)), (7, .int (Int32.ofInt z32)), (6, .int (Int32.ofInt z17)), (4, .int (Int32.ofInt z12)), (3, .int (Int32.ofInt z19)), (0, .ref a_p0), (2, .int (Int32.ofInt x2))]) hx hb dX12_reign_175 hl (by decide) rfl (fun ls hl => ?_)
                            obtain ⟨z49, ez⟩ : ∃ y : Int, y = (z32 + (-1 : Int)) := ⟨_, rfl⟩
                            replace hf := bnd_s hf ez
                            refine lv_iinc (v := Int32.ofInt z49) (lv' := [(7, .int (Int32.ofInt z49)), (5, .int (Int32.ofInt z48)), (9, .int (Int32.ofInt z44)), (6, .int (Int32.ofInt z17)), (4, .int (Int32.ofInt z12)), (3, .int (Int32.ofInt z19)), (0, .ref a_p0), (2, .int (Int32.ofInt x2))]) hx hb dX12_reign_177 hl (k := 2) rfl (by rw [ez]; exact (Int32.ofInt_add _ _).symm) (by decide) rfl (fun ls hl => ?_)
                            clear ez
                            refine lv_goto (tgt := 107) hx hb dX12_reign_180 (by decide) ?_
                            exact ih107 _ _ _ _ _ _ (lv_sub hl [0, 1, 3, 4, 5, 6, 7] rfl) hP hD hS hf
                        have hq := jn_i hf
                        clear hf
                        obtain ⟨J50, eJ50, hf⟩ := hq
                        have hJ50 : ∀  (ls : Array Slot) (H : Heap) (locs : List Loc), lv_has ls 10 [(7, .int (Int32.ofInt z32)), (5, .int (Int32.ofInt z33)), (6, .int (Int32.ofInt z17)), (4, .int (Int32.ofInt z12)), (3, .int (Int32.ofInt z19)), (0, .ref a_p0), (2, .int (Int32.ofInt x2))] → va_P D vwCl [(a_p0, .inr (12, [.ref a_p0_st, .ref a_p0_isKept, .int (Int32.ofInt i_p0_seats), .int (Int32.ofInt i_p0_stirs), .ref a_p0_brings, .ref a_p0_need, .ref a_p0_draft, .int (Int32.ofInt i_p0_dSeats), .int (Int32.ofInt i_p0_dStirs), .ref a_p0_dStir, .ref a_p0_dNeed, .int (Int32.ofInt i_p0_told), .int (Int32.ofInt i_p0_highest), .ref a_p0_tape, .int (Int32.ofInt i_p0_taped), .int (Int32.ofInt i_p0_pos), .int (Int32.ofInt i_p0_from), .int (Int32.ofInt i_p0_sort), .int (Int32.ofInt i_p0_value), .int (Int32.ofInt i_p0_fault), .int (Int32.ofInt i_p0_wrongAt), .ref a_p0_places, .ref a_p0_stirred, .ref a_p0_ways, .ref a_p0_waysThen, .ref a_p0_stays, .ref a_p0_fewest, .ref a_p0_bowls, .ref a_p0_has, .ref a_p0_goesOn, .ref a_p0_isThere, .ref a_p0_isThereThen, .ref a_p0_bestRow, .ref a_p0_lanes, .ref a_p0_sizes, .ref a_p0_cells, .int (Int32.ofInt i_p0_torn)])), (a_p0_st, .inl (G 1, 152, .inl (zA v_p0_st))), (a_p0_brings, .inl (G 1, 35, .inl (zA v_p0_brings))), (a_p0_places, .inl (G 1, 7, .inl (zA w38))), (a_p0_stays, .inl (G 1, 539, .inl (zA w8)))] H → va_D A [(a_p0, .inr (12, [.ref a_p0_st, .ref a_p0_isKept, .int (Int32.ofInt i_p0_seats), .int (Int32.ofInt i_p0_stirs), .ref a_p0_brings, .ref a_p0_need, .ref a_p0_draft, .int (Int32.ofInt i_p0_dSeats), .int (Int32.ofInt i_p0_dStirs), .ref a_p0_dStir, .ref a_p0_dNeed, .int (Int32.ofInt i_p0_told), .int (Int32.ofInt i_p0_highest), .ref a_p0_tape, .int (Int32.ofInt i_p0_taped), .int (Int32.ofInt i_p0_pos), .int (Int32.ofInt i_p0_from), .int (Int32.ofInt i_p0_sort), .int (Int32.ofInt i_p0_value), .int (Int32.ofInt i_p0_fault), .int (Int32.ofInt i_p0_wrongAt), .ref a_p0_places, .ref a_p0_stirred, .ref a_p0_ways, .ref a_p0_waysThen, .ref a_p0_stays, .ref a_p0_fewest, .ref a_p0_bowls, .ref a_p0_has, .ref a_p0_goesOn, .ref a_p0_isThere, .ref a_p0_isThereThen, .ref a_p0_bestRow, .ref a_p0_lanes, .ref a_p0_sizes, .ref a_p0_cells, .int (Int32.ofInt i_p0_torn)])), (a_p0_st, .inl (G 1, 152, .inl (zA v_p0_st))), (a_p0_brings, .inl (G 1, 35, .inl (zA v_p0_brings))), (a_p0_places, .inl (G 1, 7, .inl (zA w38))), (a_p0_stays, .inl (G 1, 539, .inl (zA w8)))] → va_S A s.heap H locs → J50  = some (r, o_v_p0_places, o_v_p0_stays) → W p l e rm_X12_reign s m ([.ref a_p0, .int (Int32.ofInt x1), .int (Int32.ofInt x2)] : List Value).toArray below meth c H locs 0 0 Q (F0 m 160 ls []) := by
                          clear hf hl hP hD hS
                          intro  ls H locs hl hP hD hS hf
                          replace hf := jn0_s eJ50 hf
                          refine lv_iconst (v := Int32.ofInt (0 : Int)) hx hb dX12_reign_160 (by decide) ?_
                          exact hJ43 _ _ _ _ (lv_sub hl [0, 1, 2, 3, 4, 5, 6] rfl) hP hD hS hf
                        refine lv_icmp_ne (tgt := 160) hx hb dX12_reign_130 (by decide) (fun cc => ?_) (fun cc => ?_)
                        ·
                          replace hf := ite_f (fun h9 => cc ((z_eq hr39 hr40).mpr h9)) hf
                          clear cc
                          exact hJ50  _ _ _ (lv_sub hl [1, 2, 3, 4, 5, 6, 7] rfl) hP hD hS hf
                        ·
                          replace hf := ite_t ((z_eq hr39 hr40).mp cc) hf
                          clear cc
                          refine lv_aload_n hx hb dX12_reign_133 rfl (lv_at hl 6 rfl) ?_
                          refine lv_iload hx hb dX12_reign_134 (lv_at hl 0 rfl) ?_
                          refine lv_iload hx hb dX12_reign_136 (lv_at hl 4 rfl) ?_
                          refine lv_iload hx hb dX12_reign_138 (lv_at hl 3 rfl) ?_
                          refine lv_isub hx hb dX12_reign_140 (z_ci (Int32.ofInt_sub z12 z17) ?_)
                          refine lv_iconst (v := Int32.ofInt (1 : Int)) hx hb dX12_reign_141 (by decide) ?_
                          refine lv_isub hx hb dX12_reign_142 (z_ci (Int32.ofInt_sub (z12 - z17) (1 : Int)) ?_)
                          have hq := bd1_s hf
                          clear hf
                          obtain ⟨z51, hcall, hf⟩ := hq
                          refine gnI (va_runV (As := [.int (Int32.ofInt z39), .int (Int32.ofInt ((z12 - z17) - (1 : Int)))]) (rest := []) ⟨hx, hb, hml, hown, hts⟩ (c_X12_longestFrom (l := l) (D := D) (G := G) (sz := H.size) (a_p0 := a_p0) (a_p0_st := a_p0_st) (a_p0_isKept := a_p0_isKept) (a_p0_brings := a_p0_brings) (a_p0_need := a_p0_need) (a_p0_draft := a_p0_draft) (a_p0_dStir := a_p0_dStir) (a_p0_dNeed := a_p0_dNeed) (a_p0_tape := a_p0_tape) (a_p0_places := a_p0_places) (a_p0_stirred := a_p0_stirred) (a_p0_ways := a_p0_ways) (a_p0_waysThen := a_p0_waysThen) (a_p0_stays := a_p0_stays) (a_p0_fewest := a_p0_fewest) (a_p0_bowls := a_p0_bowls) (a_p0_has := a_p0_has) (a_p0_goesOn := a_p0_goesOn) (a_p0_isThere := a_p0_isThere) (a_p0_isThereThen := a_p0_isThereThen) (a_p0_bestRow := a_p0_bestRow) (a_p0_lanes := a_p0_lanes) (a_p0_sizes := a_p0_sizes) (a_p0_cells := a_p0_cells) (i_p0_seats := i_p0_seats) (i_p0_stirs := i_p0_stirs) (i_p0_dSeats := i_p0_dSeats) (i_p0_dStirs := i_p0_dStirs) (i_p0_told := i_p0_told) (i_p0_highest := i_p0_highest) (i_p0_taped := i_p0_taped) (i_p0_pos := i_p0_pos) (i_p0_from := i_p0_from) (i_p0_sort := i_p0_sort) (i_p0_value := i_p0_value) (i_p0_fault := i_p0_fault) (i_p0_wrongAt := i_p0_wrongAt) (i_p0_torn := i_p0_torn) (v_p0_stays := w8) (x1 := z39) (x2 := ((z12 - z17) - (1 : Int))) (r := z51) (hf := hcall)) (cwV 2 hts gX12_reign_X12_longestFrom rfl rfl rfl hdV_yX12_longestFrom_RX12 ⟨Nat.le_of_ble_eq_true rfl, Nat.le_of_ble_eq_true rfl⟩) (preG_V (ci := 12) (q := (RX12, TX12, 37)) (hP.sub [0, 4] rfl) (hD.sub [0, 4] rfl rfl) hK rfl rfl) rfl rfl hl.1 rfl (lv_room (Nat.le_of_ble_eq_true rfl)) dX12_reign_143 ⟨Nat.le_of_ble_eq_true rfl, Nat.le_of_ble_eq_true rfl⟩) hP hD hS hA [0, 4] rfl (fun H locs hP hD hS => ?_)
                          clear hcall
                          refine lv_iload hx hb dX12_reign_146 (lv_at hl 4 rfl) ?_
                          refine lv_iload hx hb dX12_reign_148 (lv_at hl 3 rfl) ?_
                          refine lv_isub hx hb dX12_reign_150 (z_ci (Int32.ofInt_sub z12 z17) ?_)
                          refine lv_iconst (v := Int32.ofInt (1 : Int)) hx hb dX12_reign_151 (by decide) ?_
                          refine lv_isub hx hb dX12_reign_152 (z_ci (Int32.ofInt_sub (z12 - z17) (1 : Int)) ?_)
                          have hr51 := ck_c hf
                          replace hf := ck_r hf
                          have hr52 := ck_c hf
                          replace hf := ck_r hf
                          refine lv_icmp_ne (tgt := 160) hx hb dX12_reign_153 (by decide) (fun cc => ?_) (fun cc => ?_)
                          ·
                            replace hf := ite_f (fun h9 => cc ((z_eq hr51 hr52).mpr h9)) hf
                            clear cc
                            exact hJ50  _ _ _ (lv_sub hl [1, 2, 3, 4, 5, 6, 7] rfl) hP hD hS hf
                          ·
                            replace hf := ite_t ((z_eq hr51 hr52).mp cc) hf
                            clear cc
                            refine lv_iconst (v := Int32.ofInt (1 : Int)) hx hb dX12_reign_156 (by decide) ?_
                            refine lv_goto (tgt := 161) hx hb dX12_reign_157 (by decide) ?_
                            exact hJ43 _ _ _ _ (lv_sub hl [1, 2, 3, 4, 5, 6, 7] rfl) hP hD hS hf
                  exact hB35 _ _ _ _ _ _ _ (lv_sub hl [0, 1, 2, 3, 4, 5, 6] rfl) hP hD hS hf
            exact hB21 _ _ _ _ _ _ _ _ (lv_sub hl [0, 1, 2, 3, 4, 6] rfl) hP hD hS hf
          ·
            replace hf := ite_f (fun h9 => cc ((z_lt hr12 hr13).mpr h9)) hf
            clear cc
            refine lv_bipush (v := Int32.ofInt (-4 : Int)) hx hb dX12_reign_76 (by decide) ?_
            obtain ⟨rfl, rfl, rfl⟩ := ou3 hf
            rw [hQ]
            exact W.iret hx hb hr (fun t ht hW => ⟨⟨_, (), rfl, rfl, by rw [ht]; exact hP, va_K.moved hW.alike hK, hD⟩, hS.F ht⟩) hS.2.2 dX12_reign_78
        ·
          replace hf := ite_t ((z_eq0 hr3).mp cc) hf
          clear cc
          refine lv_iload hx hb dX12_reign_64 (lv_at hl 0 rfl) ?_
          obtain ⟨rfl, rfl, rfl⟩ := ou3 hf
          rw [hQ]
          exact W.iret hx hb hr (fun t ht hW => ⟨⟨_, (), rfl, rfl, by rw [ht]; exact hP, va_K.moved hW.alike hK, hD⟩, hS.F ht⟩) hS.2.2 dX12_reign_66
      ·
        replace hf := ite_t ((z_eq0 hr5).mp cc) hf
        clear cc
        refine lv_bipush (v := Int32.ofInt (-2 : Int)) hx hb dX12_reign_39 (by decide) ?_
        obtain ⟨rfl, rfl, rfl⟩ := ou3 hf
        rw [hQ]
        exact W.iret hx hb hr (fun t ht hW => ⟨⟨_, (), rfl, rfl, by rw [ht]; exact hP, va_K.moved hW.alike hK, hD⟩, hS.F ht⟩) hS.2.2 dX12_reign_41
    refine lv_if_eq (tgt := 32) hx hb dX12_reign_13 (by decide) (fun cc => ?_) (fun cc => ?_)
    ·
      replace hf := ite_t ((z_eq0 hr3).mp cc) hf
      clear cc
      exact hJ5  _ _ _ (lv_sub hl [0, 1, 2] rfl) hP hD hS hf
    ·
      replace hf := ite_f (fun h9 => cc ((z_eq0 hr3).mpr h9)) hf
      clear cc
      refine lv_iload_n hx hb dX12_reign_16 rfl (lv_at hl 2 rfl) ?_
      refine lv_i2l (v := Int64.ofInt x2) hx hb dX12_reign_17 (z_i2l hr3) ?_
      refine lv_ldc2 (v := (10 : Int64)) hx hb hown (hts _ mwX12_reign_0) dX12_reign_18 (z_cl (show Int64.ofInt (10 : Int) = _ from by decide) ?_)
      refine lv_ldc2 (v := (19 : Int64)) hx hb hown (hts _ mwX12_reign_5) dX12_reign_21 (z_cl (show Int64.ofInt (19 : Int) = _ from by decide) ?_)
      have hq := bd1_s hf
      clear hf
      obtain ⟨z54, hcall, hf⟩ := hq
      refine gnI (va_runS (As := [.long (Int64.ofInt x2), .long (Int64.ofInt (10 : Int)), .long (Int64.ofInt (19 : Int))]) (rest := []) ⟨hx, hb, hml, hown, hts⟩ (c_X12_in (l := l) (D := D) (G := G) (sz := H.size) (x0 := x2) (x2 := (10 : Int)) (x4 := (19 : Int)) (r := z54) (hf := hcall)) (va_cwS 3 hts gX12_reign_X12_in rfl rfl rfl (by decide +kernel) ⟨Nat.le_of_ble_eq_true rfl, Nat.le_of_ble_eq_true rfl⟩) (preG_S (hP.sub [] rfl) (hD.sub [] rfl rfl) hK) rfl rfl hl.1 rfl (lv_room (Nat.le_of_ble_eq_true rfl)) dX12_reign_24 ⟨Nat.le_of_ble_eq_true rfl, Nat.le_of_ble_eq_true rfl⟩) hP hD hS hA [] rfl (fun H locs hP hD hS => ?_)
      clear hcall
      have hr54 := ck_c hf
      replace hf := ck_r hf
      refine lv_if_ne (tgt := 32) hx hb dX12_reign_27 (by decide) (fun cc => ?_) (fun cc => ?_)
      ·
        replace hf := ite_f (fun h9 => cc ((z_eq0 hr54).mpr h9)) hf
        clear cc
        exact hJ5  _ _ _ (lv_sub hl [0, 1, 2] rfl) hP hD hS hf
      ·
        replace hf := ite_t ((z_eq0 hr54).mp cc) hf
        clear cc
        refine lv_iconst (v := Int32.ofInt (-1 : Int)) hx hb dX12_reign_30 (by decide) ?_
        obtain ⟨rfl, rfl, rfl⟩ := ou3 hf
        rw [hQ]
        exact W.iret hx hb hr (fun t ht hW => ⟨⟨_, (), rfl, rfl, by rw [ht]; exact hP, va_K.moved hW.alike hK, hD⟩, hS.F ht⟩) hS.2.2 dX12_reign_31

noncomputable def B_X12_findFewest_54 (i_p0_stirs : Int) (z11 : Int) (again45 : Int → (Int → Int) → (Int → Int) → Option ((Int → Int) × (Int → Int))) (i_p0_seats : Int) (v_p0_st : (Int → Int)) (v_p0_brings : (Int → Int)) (again54 : Int → (Int → Int) → (Int → Int) → Option ((Int → Int) × (Int → Int))) (z18 : Int) (w19 : (Int → Int)) (w20 : (Int → Int)) : Option ((Int → Int) × (Int → Int)) := (ck (z_r32 z18) (ck (z_r32 i_p0_stirs) (if i_p0_stirs ≤ z18 then (bnd (z11 + (1 : Int)) (fun (z24 : Int) => (again45 z24 w19 w20))) else (ck (z_dv z11 (7 : Int)) (ck (z_r32 (z11 % (7 : Int))) (ck (z_r32 i_p0_seats) (if i_p0_seats ≤ (z11 % (7 : Int)) then (bnd (z11 + (1 : Int)) (fun (z27 : Int) => (again45 z27 w19 w20))) else (ck (z_dv z11 (7 : Int)) (ck (z_r32 (z11 / (7 : Int))) (if i_p0_seats ≤ (z11 / (7 : Int)) then (bnd (z11 + (1 : Int)) (fun (z29 : Int) => (again45 z29 w19 w20))) else (bd2 (f_X12_then i_p0_seats v_p0_st v_p0_brings w19 z11 z18) (fun (z30 : Int) (w31 : (Int → Int)) => (ck (z_ix z30 49) (bnd ((w20 z30) + (1 : Int)) (fun (z32 : Int) => (ck (z_ix z11 49) (ck (z_r32 z32) (ck (z_r32 (w20 z11)) (if (w20 z11) ≤ z32 then (ck (z_ix z11 49) (ck (z_ix z11 49) (bnd (z_up w20 z11 (w20 z11)) (fun (w35 : (Int → Int)) => (bnd (z18 + (1 : Int)) (fun (z36 : Int) => (again54 z36 w31 w35))))))) else (ck (z_ix z11 49) (bnd (z_up w20 z11 z32) (fun (w37 : (Int → Int)) => (bnd (z18 + (1 : Int)) (fun (z38 : Int) => (again54 z38 w31 w37)))))))))))))))))))))))))
noncomputable def B_X12_findFewest_45 (z5 : Int) (again37 : Int → (Int → Int) → (Int → Int) → Option ((Int → Int) × (Int → Int))) (i_p0_stirs : Int) (i_p0_seats : Int) (v_p0_st : (Int → Int)) (v_p0_brings : (Int → Int)) (again45 : Int → (Int → Int) → (Int → Int) → Option ((Int → Int) × (Int → Int))) (z11 : Int) (w12 : (Int → Int)) (w13 : (Int → Int)) : Option ((Int → Int) × (Int → Int)) := (ck (z_r32 z11) (if (49 : Int) ≤ z11 then (bnd (z5 + (1 : Int)) (fun (z16 : Int) => (again37 z16 w12 w13))) else (bnd (0 : Int) (fun (z17 : Int) => (lq3 (B_X12_findFewest_54 i_p0_stirs z11 again45 i_p0_seats v_p0_st v_p0_brings) 1000 z17 w12 w13)))))
noncomputable def B_X12_findFewest_37 (i_p0_stirs : Int) (i_p0_seats : Int) (v_p0_st : (Int → Int)) (v_p0_brings : (Int → Int)) (again37 : Int → (Int → Int) → (Int → Int) → Option ((Int → Int) × (Int → Int))) (z5 : Int) (w6 : (Int → Int)) (w7 : (Int → Int)) : Option ((Int → Int) × (Int → Int)) := (ck (z_r32 z5) (if (49 : Int) ≤ z5 then (some (w6, w7)) else (bnd (0 : Int) (fun (z10 : Int) => (lq3 (B_X12_findFewest_45 z5 again37 i_p0_stirs i_p0_seats v_p0_st v_p0_brings) 1000 z10 w6 w7)))))
noncomputable def B_X12_findFewest_2 (J3 : (Int → Int) → Option ((Int → Int) × (Int → Int))) (x1 : Int) (again2 : Int → (Int → Int) → Option ((Int → Int) × (Int → Int))) (z39 : Int) (w40 : (Int → Int)) : Option ((Int → Int) × (Int → Int)) := (ck (z_r32 z39) (if (49 : Int) ≤ z39 then (J3 w40) else (ck (z_dv z39 (7 : Int)) (ck (z_r32 (z39 % (7 : Int))) (ck (z_r32 x1) (if (z39 % (7 : Int)) = x1 then (ck (z_ix z39 49) (bnd (z_up w40 z39 (0 : Int)) (fun (w47 : (Int → Int)) => (bnd (z39 + (1 : Int)) (fun (z48 : Int) => (again2 z48 w47)))))) else (ck (z_ix z39 49) (bnd (z_up w40 z39 (1000000 : Int)) (fun (w45 : (Int → Int)) => (bnd (z39 + (1 : Int)) (fun (z46 : Int) => (again2 z46 w45))))))))))))
noncomputable def f_X12_findFewest (i_p0_seats : Int) (i_p0_stirs : Int) (v_p0_st : (Int → Int)) (v_p0_brings : (Int → Int)) (v_p0_places : (Int → Int)) (v_p0_fewest : (Int → Int)) (x1 : Int) : Option ((Int → Int) × (Int → Int)) := (bnd (0 : Int) (fun (z1 : Int) => (jn (fun (w2 : (Int → Int)) => (bnd (0 : Int) (fun (z4 : Int) => (lq3 (B_X12_findFewest_37 i_p0_stirs i_p0_seats v_p0_st v_p0_brings) 1000 z4 v_p0_places w2)))) (fun (J3 : (Int → Int) → Option ((Int → Int) × (Int → Int))) => (lq2 (B_X12_findFewest_2 J3 x1) 1000 z1 v_p0_fewest)))))
abbrev rm_X12_findFewest : Room := { frames := 4, cells := 0, slots := 0, locals := 92 }
theorem inX12_findFewest_X12 : ∀ w ∈ wsX120, w ∈ wsX12_findFewest := by first | exact fun w h => List.mem_cons_of_mem _ (List.mem_append_right _ h) | decide +kernel
theorem mwX12_findFewest_1 : Cond.fieldLink RX12 103 "LadleKingsModel" "stirs" "I" ∈ wsX12_findFewest := by first | exact List.mem_of_getElem? (i := 3) rfl | decide +kernel
theorem mwX12_findFewest_2 : Cond.fieldLink RX12 100 "LadleKingsModel" "seats" "I" ∈ wsX12_findFewest := by first | exact List.mem_of_getElem? (i := 4) rfl | decide +kernel
theorem mwX12_findFewest_3 : Cond.fieldLink RX12 51 "LadleKingsModel" "fewest" "[I" ∈ wsX12_findFewest := by first | exact List.mem_of_getElem? (i := 1) rfl | decide +kernel
theorem mwX12_findFewest_4 : Cond.constant RX12 271 (1000000) ∈ wsX12_findFewest := by first | exact List.mem_of_getElem? (i := 2) rfl | decide +kernel
set_option maxHeartbeats 8000000 in
set_option maxRecDepth 100000 in
theorem c_X12_findFewest (l : Launch) (D : va_G) (G : Nat → ClassId) (sz : Nat) (a_p0 : Nat) (a_p0_st : Nat) (a_p0_isKept : Nat) (a_p0_brings : Nat) (a_p0_need : Nat) (a_p0_draft : Nat) (a_p0_dStir : Nat) (a_p0_dNeed : Nat) (a_p0_tape : Nat) (a_p0_places : Nat) (a_p0_stirred : Nat) (a_p0_ways : Nat) (a_p0_waysThen : Nat) (a_p0_stays : Nat) (a_p0_fewest : Nat) (a_p0_bowls : Nat) (a_p0_has : Nat) (a_p0_goesOn : Nat) (a_p0_isThere : Nat) (a_p0_isThereThen : Nat) (a_p0_bestRow : Nat) (a_p0_lanes : Nat) (a_p0_sizes : Nat) (a_p0_cells : Nat) (i_p0_seats : Int) (i_p0_stirs : Int) (i_p0_dSeats : Int) (i_p0_dStirs : Int) (i_p0_told : Int) (i_p0_highest : Int) (i_p0_taped : Int) (i_p0_pos : Int) (i_p0_from : Int) (i_p0_sort : Int) (i_p0_value : Int) (i_p0_fault : Int) (i_p0_wrongAt : Int) (i_p0_torn : Int) (v_p0_st : (Int → Int)) (v_p0_brings : (Int → Int)) (v_p0_places : (Int → Int)) (v_p0_fewest : (Int → Int)) (x1 : Int) (o_v_p0_places : (Int → Int)) (o_v_p0_fewest : (Int → Int)) (hf : f_X12_findFewest i_p0_seats i_p0_stirs v_p0_st v_p0_brings v_p0_places v_p0_fewest x1 = some (o_v_p0_places, o_v_p0_fewest)) : Met l yX12_findFewest wsX12_findFewest rm_X12_findFewest (pcG D G [.ref a_p0, .int (Int32.ofInt x1)] sz [(a_p0, .inr (12, [.ref a_p0_st, .ref a_p0_isKept, .int (Int32.ofInt i_p0_seats), .int (Int32.ofInt i_p0_stirs), .ref a_p0_brings, .ref a_p0_need, .ref a_p0_draft, .int (Int32.ofInt i_p0_dSeats), .int (Int32.ofInt i_p0_dStirs), .ref a_p0_dStir, .ref a_p0_dNeed, .int (Int32.ofInt i_p0_told), .int (Int32.ofInt i_p0_highest), .ref a_p0_tape, .int (Int32.ofInt i_p0_taped), .int (Int32.ofInt i_p0_pos), .int (Int32.ofInt i_p0_from), .int (Int32.ofInt i_p0_sort), .int (Int32.ofInt i_p0_value), .int (Int32.ofInt i_p0_fault), .int (Int32.ofInt i_p0_wrongAt), .ref a_p0_places, .ref a_p0_stirred, .ref a_p0_ways, .ref a_p0_waysThen, .ref a_p0_stays, .ref a_p0_fewest, .ref a_p0_bowls, .ref a_p0_has, .ref a_p0_goesOn, .ref a_p0_isThere, .ref a_p0_isThereThen, .ref a_p0_bestRow, .ref a_p0_lanes, .ref a_p0_sizes, .ref a_p0_cells, .int (Int32.ofInt i_p0_torn)])), (a_p0_st, .inl (G 1, 152, .inl (zA v_p0_st))), (a_p0_brings, .inl (G 1, 35, .inl (zA v_p0_brings))), (a_p0_places, .inl (G 1, 7, .inl (zA v_p0_places))), (a_p0_fewest, .inl (G 1, 49, .inl (zA v_p0_fewest)))]) (qcV D G [(a_p0, .inr (12, [.ref a_p0_st, .ref a_p0_isKept, .int (Int32.ofInt i_p0_seats), .int (Int32.ofInt i_p0_stirs), .ref a_p0_brings, .ref a_p0_need, .ref a_p0_draft, .int (Int32.ofInt i_p0_dSeats), .int (Int32.ofInt i_p0_dStirs), .ref a_p0_dStir, .ref a_p0_dNeed, .int (Int32.ofInt i_p0_told), .int (Int32.ofInt i_p0_highest), .ref a_p0_tape, .int (Int32.ofInt i_p0_taped), .int (Int32.ofInt i_p0_pos), .int (Int32.ofInt i_p0_from), .int (Int32.ofInt i_p0_sort), .int (Int32.ofInt i_p0_value), .int (Int32.ofInt i_p0_fault), .int (Int32.ofInt i_p0_wrongAt), .ref a_p0_places, .ref a_p0_stirred, .ref a_p0_ways, .ref a_p0_waysThen, .ref a_p0_stays, .ref a_p0_fewest, .ref a_p0_bowls, .ref a_p0_has, .ref a_p0_goesOn, .ref a_p0_isThere, .ref a_p0_isThereThen, .ref a_p0_bestRow, .ref a_p0_lanes, .ref a_p0_sizes, .ref a_p0_cells, .int (Int32.ofInt i_p0_torn)])), (a_p0_st, .inl (G 1, 152, .inl (zA v_p0_st))), (a_p0_brings, .inl (G 1, 35, .inl (zA v_p0_brings))), (a_p0_places, .inl (G 1, 7, .inl (zA o_v_p0_places))), (a_p0_fewest, .inl (G 1, 49, .inl (zA o_v_p0_fewest)))] (va_A [(a_p0, .inr (12, [.ref a_p0_st, .ref a_p0_isKept, .int (Int32.ofInt i_p0_seats), .int (Int32.ofInt i_p0_stirs), .ref a_p0_brings, .ref a_p0_need, .ref a_p0_draft, .int (Int32.ofInt i_p0_dSeats), .int (Int32.ofInt i_p0_dStirs), .ref a_p0_dStir, .ref a_p0_dNeed, .int (Int32.ofInt i_p0_told), .int (Int32.ofInt i_p0_highest), .ref a_p0_tape, .int (Int32.ofInt i_p0_taped), .int (Int32.ofInt i_p0_pos), .int (Int32.ofInt i_p0_from), .int (Int32.ofInt i_p0_sort), .int (Int32.ofInt i_p0_value), .int (Int32.ofInt i_p0_fault), .int (Int32.ofInt i_p0_wrongAt), .ref a_p0_places, .ref a_p0_stirred, .ref a_p0_ways, .ref a_p0_waysThen, .ref a_p0_stays, .ref a_p0_fewest, .ref a_p0_bowls, .ref a_p0_has, .ref a_p0_goesOn, .ref a_p0_isThere, .ref a_p0_isThereThen, .ref a_p0_bestRow, .ref a_p0_lanes, .ref a_p0_sizes, .ref a_p0_cells, .int (Int32.ofInt i_p0_torn)])), (a_p0_st, .inl (G 1, 152, .inl (zA v_p0_st))), (a_p0_brings, .inl (G 1, 35, .inl (zA v_p0_brings))), (a_p0_places, .inl (G 1, 7, .inl (zA v_p0_places))), (a_p0_fewest, .inl (G 1, 49, .inl (zA v_p0_fewest)))] sz)) 0 0 (va_A [(a_p0, .inr (12, [.ref a_p0_st, .ref a_p0_isKept, .int (Int32.ofInt i_p0_seats), .int (Int32.ofInt i_p0_stirs), .ref a_p0_brings, .ref a_p0_need, .ref a_p0_draft, .int (Int32.ofInt i_p0_dSeats), .int (Int32.ofInt i_p0_dStirs), .ref a_p0_dStir, .ref a_p0_dNeed, .int (Int32.ofInt i_p0_told), .int (Int32.ofInt i_p0_highest), .ref a_p0_tape, .int (Int32.ofInt i_p0_taped), .int (Int32.ofInt i_p0_pos), .int (Int32.ofInt i_p0_from), .int (Int32.ofInt i_p0_sort), .int (Int32.ofInt i_p0_value), .int (Int32.ofInt i_p0_fault), .int (Int32.ofInt i_p0_wrongAt), .ref a_p0_places, .ref a_p0_stirred, .ref a_p0_ways, .ref a_p0_waysThen, .ref a_p0_stays, .ref a_p0_fewest, .ref a_p0_bowls, .ref a_p0_has, .ref a_p0_goesOn, .ref a_p0_isThere, .ref a_p0_isThereThen, .ref a_p0_bestRow, .ref a_p0_lanes, .ref a_p0_sizes, .ref a_p0_cells, .int (Int32.ofInt i_p0_torn)])), (a_p0_st, .inl (G 1, 152, .inl (zA v_p0_st))), (a_p0_brings, .inl (G 1, 35, .inl (zA v_p0_brings))), (a_p0_places, .inl (G 1, 7, .inl (zA v_p0_places))), (a_p0_fewest, .inl (G 1, 49, .inl (zA v_p0_fewest)))] sz) := by
  refine Met.ofW (cc := cX12_findFewest) (maxL := 6) (ret := none) (by decide) rfl ?_
  intro p e s m args below meth c s₁ B hml hv
  obtain ⟨rfl, hsz, hP, hK, hD0⟩ := hv
  have hx := B.exec
  have hb := B.bytes
  have hr := B.returns
  have hts := atoms_spec (ws := wsX12_findFewest) B.pre
  have hown : s.vm.findClass RX12 = some m.cls := findClass_of_methodNamed B.named
  have hlocks := B.notSynchronized
  subst hsz
  have hD := hD0.self (sz := s.heap.size)
  generalize hAe : va_A [(a_p0, .inr (12, [.ref a_p0_st, .ref a_p0_isKept, .int (Int32.ofInt i_p0_seats), .int (Int32.ofInt i_p0_stirs), .ref a_p0_brings, .ref a_p0_need, .ref a_p0_draft, .int (Int32.ofInt i_p0_dSeats), .int (Int32.ofInt i_p0_dStirs), .ref a_p0_dStir, .ref a_p0_dNeed, .int (Int32.ofInt i_p0_told), .int (Int32.ofInt i_p0_highest), .ref a_p0_tape, .int (Int32.ofInt i_p0_taped), .int (Int32.ofInt i_p0_pos), .int (Int32.ofInt i_p0_from), .int (Int32.ofInt i_p0_sort), .int (Int32.ofInt i_p0_value), .int (Int32.ofInt i_p0_fault), .int (Int32.ofInt i_p0_wrongAt), .ref a_p0_places, .ref a_p0_stirred, .ref a_p0_ways, .ref a_p0_waysThen, .ref a_p0_stays, .ref a_p0_fewest, .ref a_p0_bowls, .ref a_p0_has, .ref a_p0_goesOn, .ref a_p0_isThere, .ref a_p0_isThereThen, .ref a_p0_bestRow, .ref a_p0_lanes, .ref a_p0_sizes, .ref a_p0_cells, .int (Int32.ofInt i_p0_torn)])), (a_p0_st, .inl (G 1, 152, .inl (zA v_p0_st))), (a_p0_brings, .inl (G 1, 35, .inl (zA v_p0_brings))), (a_p0_places, .inl (G 1, 7, .inl (zA v_p0_places))), (a_p0_fewest, .inl (G 1, 49, .inl (zA v_p0_fewest)))] s.heap.size = A at hD ⊢
  have hA : ∀ q : Nat, s.heap.size ≤ q → A q := fun q h => by rw [← hAe]; exact Or.inr h
  clear hAe hD0
  have hS : va_S A s.heap s.heap [] := va_S.rf
  have hl := lv_entry ([.ref a_p0, .int (Int32.ofInt x1)]) (n := 6) (Nat.le_of_ble_eq_true rfl)
  rw [lg_entry_eq]
  generalize (lg_sl ([.ref a_p0, .int (Int32.ofInt x1)]) ++ List.replicate (6 - (lg_sl ([.ref a_p0, .int (Int32.ofInt x1)])).length) Slot.unset).toArray = ls at hl ⊢
  have hl : lv_has ls 6 [(0, .ref a_p0), (1, .int (Int32.ofInt x1))] := hl
  refine W_nameQ (fun Q hQ => ?_)
  obtain ⟨H, hH⟩ : ∃ H, H = s.heap := ⟨_, rfl⟩
  replace hS : va_S A s.heap H [] := by rw [hH]; exact hS
  replace hP : va_P D vwCl [(a_p0, .inr (12, [.ref a_p0_st, .ref a_p0_isKept, .int (Int32.ofInt i_p0_seats), .int (Int32.ofInt i_p0_stirs), .ref a_p0_brings, .ref a_p0_need, .ref a_p0_draft, .int (Int32.ofInt i_p0_dSeats), .int (Int32.ofInt i_p0_dStirs), .ref a_p0_dStir, .ref a_p0_dNeed, .int (Int32.ofInt i_p0_told), .int (Int32.ofInt i_p0_highest), .ref a_p0_tape, .int (Int32.ofInt i_p0_taped), .int (Int32.ofInt i_p0_pos), .int (Int32.ofInt i_p0_from), .int (Int32.ofInt i_p0_sort), .int (Int32.ofInt i_p0_value), .int (Int32.ofInt i_p0_fault), .int (Int32.ofInt i_p0_wrongAt), .ref a_p0_places, .ref a_p0_stirred, .ref a_p0_ways, .ref a_p0_waysThen, .ref a_p0_stays, .ref a_p0_fewest, .ref a_p0_bowls, .ref a_p0_has, .ref a_p0_goesOn, .ref a_p0_isThere, .ref a_p0_isThereThen, .ref a_p0_bestRow, .ref a_p0_lanes, .ref a_p0_sizes, .ref a_p0_cells, .int (Int32.ofInt i_p0_torn)])), (a_p0_st, .inl (G 1, 152, .inl (zA v_p0_st))), (a_p0_brings, .inl (G 1, 35, .inl (zA v_p0_brings))), (a_p0_places, .inl (G 1, 7, .inl (zA v_p0_places))), (a_p0_fewest, .inl (G 1, 49, .inl (zA v_p0_fewest)))] H := by rw [hH]; exact hP
  rw [← hH]
  clear hH
  unfold f_X12_findFewest at hf
  refine lv_iconst (v := Int32.ofInt (0 : Int)) hx hb dX12_findFewest_0 (by decide) ?_
  refine z_topi (fun z1 ez => ?_)
  replace hf := bnd_s hf ez
  clear ez
  refine lv_istore_n (lv' := [(2, .int (Int32.ofInt z1)), (0, .ref a_p0), (1, .int (Int32.ofInt x1))]) hx hb dX12_findFewest_1 rfl hl (by decide) rfl (fun ls hl => ?_)
  have hq := jn_i hf
  clear hf
  obtain ⟨J3, eJ3, hf⟩ := hq
  have hJ3 : ∀ (w2 : (Int → Int)) (ls : Array Slot) (H : Heap) (locs : List Loc), lv_has ls 6 [(0, .ref a_p0)] → va_P D vwCl [(a_p0, .inr (12, [.ref a_p0_st, .ref a_p0_isKept, .int (Int32.ofInt i_p0_seats), .int (Int32.ofInt i_p0_stirs), .ref a_p0_brings, .ref a_p0_need, .ref a_p0_draft, .int (Int32.ofInt i_p0_dSeats), .int (Int32.ofInt i_p0_dStirs), .ref a_p0_dStir, .ref a_p0_dNeed, .int (Int32.ofInt i_p0_told), .int (Int32.ofInt i_p0_highest), .ref a_p0_tape, .int (Int32.ofInt i_p0_taped), .int (Int32.ofInt i_p0_pos), .int (Int32.ofInt i_p0_from), .int (Int32.ofInt i_p0_sort), .int (Int32.ofInt i_p0_value), .int (Int32.ofInt i_p0_fault), .int (Int32.ofInt i_p0_wrongAt), .ref a_p0_places, .ref a_p0_stirred, .ref a_p0_ways, .ref a_p0_waysThen, .ref a_p0_stays, .ref a_p0_fewest, .ref a_p0_bowls, .ref a_p0_has, .ref a_p0_goesOn, .ref a_p0_isThere, .ref a_p0_isThereThen, .ref a_p0_bestRow, .ref a_p0_lanes, .ref a_p0_sizes, .ref a_p0_cells, .int (Int32.ofInt i_p0_torn)])), (a_p0_st, .inl (G 1, 152, .inl (zA v_p0_st))), (a_p0_brings, .inl (G 1, 35, .inl (zA v_p0_brings))), (a_p0_places, .inl (G 1, 7, .inl (zA v_p0_places))), (a_p0_fewest, .inl (G 1, 49, .inl (zA w2)))] H → va_D A [(a_p0, .inr (12, [.ref a_p0_st, .ref a_p0_isKept, .int (Int32.ofInt i_p0_seats), .int (Int32.ofInt i_p0_stirs), .ref a_p0_brings, .ref a_p0_need, .ref a_p0_draft, .int (Int32.ofInt i_p0_dSeats), .int (Int32.ofInt i_p0_dStirs), .ref a_p0_dStir, .ref a_p0_dNeed, .int (Int32.ofInt i_p0_told), .int (Int32.ofInt i_p0_highest), .ref a_p0_tape, .int (Int32.ofInt i_p0_taped), .int (Int32.ofInt i_p0_pos), .int (Int32.ofInt i_p0_from), .int (Int32.ofInt i_p0_sort), .int (Int32.ofInt i_p0_value), .int (Int32.ofInt i_p0_fault), .int (Int32.ofInt i_p0_wrongAt), .ref a_p0_places, .ref a_p0_stirred, .ref a_p0_ways, .ref a_p0_waysThen, .ref a_p0_stays, .ref a_p0_fewest, .ref a_p0_bowls, .ref a_p0_has, .ref a_p0_goesOn, .ref a_p0_isThere, .ref a_p0_isThereThen, .ref a_p0_bestRow, .ref a_p0_lanes, .ref a_p0_sizes, .ref a_p0_cells, .int (Int32.ofInt i_p0_torn)])), (a_p0_st, .inl (G 1, 152, .inl (zA v_p0_st))), (a_p0_brings, .inl (G 1, 35, .inl (zA v_p0_brings))), (a_p0_places, .inl (G 1, 7, .inl (zA v_p0_places))), (a_p0_fewest, .inl (G 1, 49, .inl (zA w2)))] → va_S A s.heap H locs → J3 w2 = some (o_v_p0_places, o_v_p0_fewest) → W p l e rm_X12_findFewest s m ([.ref a_p0, .int (Int32.ofInt x1)] : List Value).toArray below meth c H locs 0 0 Q (F0 m 35 ls []) := by
    clear hf hl hP hD hS
    intro w2 ls H locs hl hP hD hS hf
    replace hf := jn1_s eJ3 hf
    refine lv_iconst (v := Int32.ofInt (0 : Int)) hx hb dX12_findFewest_35 (by decide) ?_
    refine z_topi (fun z4 ez => ?_)
    replace hf := bnd_s hf ez
    clear ez
    refine lv_istore_n (lv' := [(2, .int (Int32.ofInt z4)), (0, .ref a_p0)]) hx hb dX12_findFewest_36 rfl hl (by decide) rfl (fun ls hl => ?_)
    have hq := lq3_i hf
    clear hf
    obtain ⟨B8, eB8, NB8, hf⟩ := hq
    have hB8 : ∀ (n : Nat) (z5 : Int) (w6 : (Int → Int)) (w7 : (Int → Int)) (ls : Array Slot) (H : Heap) (locs : List Loc), lv_has ls 6 [(2, .int (Int32.ofInt z5)), (0, .ref a_p0)] → va_P D vwCl [(a_p0, .inr (12, [.ref a_p0_st, .ref a_p0_isKept, .int (Int32.ofInt i_p0_seats), .int (Int32.ofInt i_p0_stirs), .ref a_p0_brings, .ref a_p0_need, .ref a_p0_draft, .int (Int32.ofInt i_p0_dSeats), .int (Int32.ofInt i_p0_dStirs), .ref a_p0_dStir, .ref a_p0_dNeed, .int (Int32.ofInt i_p0_told), .int (Int32.ofInt i_p0_highest), .ref a_p0_tape, .int (Int32.ofInt i_p0_taped), .int (Int32.ofInt i_p0_pos), .int (Int32.ofInt i_p0_from), .int (Int32.ofInt i_p0_sort), .int (Int32.ofInt i_p0_value), .int (Int32.ofInt i_p0_fault), .int (Int32.ofInt i_p0_wrongAt), .ref a_p0_places, .ref a_p0_stirred, .ref a_p0_ways, .ref a_p0_waysThen, .ref a_p0_stays, .ref a_p0_fewest, .ref a_p0_bowls, .ref a_p0_has, .ref a_p0_goesOn, .ref a_p0_isThere, .ref a_p0_isThereThen, .ref a_p0_bestRow, .ref a_p0_lanes, .ref a_p0_sizes, .ref a_p0_cells, .int (Int32.ofInt i_p0_torn)])), (a_p0_st, .inl (G 1, 152, .inl (zA v_p0_st))), (a_p0_brings, .inl (G 1, 35, .inl (zA v_p0_brings))), (a_p0_places, .inl (G 1, 7, .inl (zA w6))), (a_p0_fewest, .inl (G 1, 49, .inl (zA w7)))] H → va_D A [(a_p0, .inr (12, [.ref a_p0_st, .ref a_p0_isKept, .int (Int32.ofInt i_p0_seats), .int (Int32.ofInt i_p0_stirs), .ref a_p0_brings, .ref a_p0_need, .ref a_p0_draft, .int (Int32.ofInt i_p0_dSeats), .int (Int32.ofInt i_p0_dStirs), .ref a_p0_dStir, .ref a_p0_dNeed, .int (Int32.ofInt i_p0_told), .int (Int32.ofInt i_p0_highest), .ref a_p0_tape, .int (Int32.ofInt i_p0_taped), .int (Int32.ofInt i_p0_pos), .int (Int32.ofInt i_p0_from), .int (Int32.ofInt i_p0_sort), .int (Int32.ofInt i_p0_value), .int (Int32.ofInt i_p0_fault), .int (Int32.ofInt i_p0_wrongAt), .ref a_p0_places, .ref a_p0_stirred, .ref a_p0_ways, .ref a_p0_waysThen, .ref a_p0_stays, .ref a_p0_fewest, .ref a_p0_bowls, .ref a_p0_has, .ref a_p0_goesOn, .ref a_p0_isThere, .ref a_p0_isThereThen, .ref a_p0_bestRow, .ref a_p0_lanes, .ref a_p0_sizes, .ref a_p0_cells, .int (Int32.ofInt i_p0_torn)])), (a_p0_st, .inl (G 1, 152, .inl (zA v_p0_st))), (a_p0_brings, .inl (G 1, 35, .inl (zA v_p0_brings))), (a_p0_places, .inl (G 1, 7, .inl (zA w6))), (a_p0_fewest, .inl (G 1, 49, .inl (zA w7)))] → va_S A s.heap H locs → lq3 B8 n z5 w6 w7 = some (o_v_p0_places, o_v_p0_fewest) → W p l e rm_X12_findFewest s m ([.ref a_p0, .int (Int32.ofInt x1)] : List Value).toArray below meth c H locs 0 0 Q (F0 m 37 ls []) := by
      clear hf hl hP hD hS
      intro n
      induction n with
      | zero =>
        intro z5 w6 w7 ls H locs hl hP hD hS hf
        exact (lq3_0 hf).elim
      | succ n ih37 =>
        intro z5 w6 w7 ls H locs hl hP hD hS hf
        replace hf := lq3_s eB8 hf
        unfold B_X12_findFewest_37 at hf
        refine lv_iload_n hx hb dX12_findFewest_37 rfl (lv_at hl 0 rfl) ?_
        refine lv_bipush (v := Int32.ofInt (49 : Int)) hx hb dX12_findFewest_38 (by decide) ?_
        have hr8 := ck_c hf
        replace hf := ck_r hf
        refine lv_icmp_ge (tgt := 147) hx hb dX12_findFewest_40 (by decide) (fun cc => ?_) (fun cc => ?_)
        ·
          replace hf := ite_t ((z_le (by decide) hr8).mp cc) hf
          clear cc
          obtain ⟨rfl, rfl⟩ := ou2 hf
          rw [hQ]
          exact W.vret hx hb hr (fun t ht hW => ⟨⟨(), rfl, trivial, by rw [ht]; exact hP, va_K.moved hW.alike hK, hD⟩, hS.F ht⟩) hS.2.2 dX12_findFewest_147
        ·
          replace hf := ite_f (fun h9 => cc ((z_le (by decide) hr8).mpr h9)) hf
          clear cc
          refine lv_iconst (v := Int32.ofInt (0 : Int)) hx hb dX12_findFewest_43 (by decide) ?_
          refine z_topi (fun z10 ez => ?_)
          replace hf := bnd_s hf ez
          clear ez
          refine lv_istore_n (lv' := [(3, .int (Int32.ofInt z10)), (2, .int (Int32.ofInt z5)), (0, .ref a_p0)]) hx hb dX12_findFewest_44 rfl hl (by decide) rfl (fun ls hl => ?_)
          have hq := lq3_i hf
          clear hf
          obtain ⟨B14, eB14, NB14, hf⟩ := hq
          have hB14 : ∀ (n : Nat) (z11 : Int) (w12 : (Int → Int)) (w13 : (Int → Int)) (ls : Array Slot) (H : Heap) (locs : List Loc), lv_has ls 6 [(3, .int (Int32.ofInt z11)), (2, .int (Int32.ofInt z5)), (0, .ref a_p0)] → va_P D vwCl [(a_p0, .inr (12, [.ref a_p0_st, .ref a_p0_isKept, .int (Int32.ofInt i_p0_seats), .int (Int32.ofInt i_p0_stirs), .ref a_p0_brings, .ref a_p0_need, .ref a_p0_draft, .int (Int32.ofInt i_p0_dSeats), .int (Int32.ofInt i_p0_dStirs), .ref a_p0_dStir, .ref a_p0_dNeed, .int (Int32.ofInt i_p0_told), .int (Int32.ofInt i_p0_highest), .ref a_p0_tape, .int (Int32.ofInt i_p0_taped), .int (Int32.ofInt i_p0_pos), .int (Int32.ofInt i_p0_from), .int (Int32.ofInt i_p0_sort), .int (Int32.ofInt i_p0_value), .int (Int32.ofInt i_p0_fault), .int (Int32.ofInt i_p0_wrongAt), .ref a_p0_places, .ref a_p0_stirred, .ref a_p0_ways, .ref a_p0_waysThen, .ref a_p0_stays, .ref a_p0_fewest, .ref a_p0_bowls, .ref a_p0_has, .ref a_p0_goesOn, .ref a_p0_isThere, .ref a_p0_isThereThen, .ref a_p0_bestRow, .ref a_p0_lanes, .ref a_p0_sizes, .ref a_p0_cells, .int (Int32.ofInt i_p0_torn)])), (a_p0_st, .inl (G 1, 152, .inl (zA v_p0_st))), (a_p0_brings, .inl (G 1, 35, .inl (zA v_p0_brings))), (a_p0_places, .inl (G 1, 7, .inl (zA w12))), (a_p0_fewest, .inl (G 1, 49, .inl (zA w13)))] H → va_D A [(a_p0, .inr (12, [.ref a_p0_st, .ref a_p0_isKept, .int (Int32.ofInt i_p0_seats), .int (Int32.ofInt i_p0_stirs), .ref a_p0_brings, .ref a_p0_need, .ref a_p0_draft, .int (Int32.ofInt i_p0_dSeats), .int (Int32.ofInt i_p0_dStirs), .ref a_p0_dStir, .ref a_p0_dNeed, .int (Int32.ofInt i_p0_told), .int (Int32.ofInt i_p0_highest), .ref a_p0_tape, .int (Int32.ofInt i_p0_taped), .int (Int32.ofInt i_p0_pos), .int (Int32.ofInt i_p0_from), .int (Int32.ofInt i_p0_sort), .int (Int32.ofInt i_p0_value), .int (Int32.ofInt i_p0_fault), .int (Int32.ofInt i_p0_wrongAt), .ref a_p0_places, .ref a_p0_stirred, .ref a_p0_ways, .ref a_p0_waysThen, .ref a_p0_stays, .ref a_p0_fewest, .ref a_p0_bowls, .ref a_p0_has, .ref a_p0_goesOn, .ref a_p0_isThere, .ref a_p0_isThereThen, .ref a_p0_bestRow, .ref a_p0_lanes, .ref a_p0_sizes, .ref a_p0_cells, .int (Int32.ofInt i_p0_torn)])), (a_p0_st, .inl (G 1, 152, .inl (zA v_p0_st))), (a_p0_brings, .inl (G 1, 35, .inl (zA v_p0_brings))), (a_p0_places, .inl (G 1, 7, .inl (zA w12))), (a_p0_fewest, .inl (G 1, 49, .inl (zA w13)))] → va_S A s.heap H locs → lq3 B14 n z11 w12 w13 = some (o_v_p0_places, o_v_p0_fewest) → W p l e rm_X12_findFewest s m ([.ref a_p0, .int (Int32.ofInt x1)] : List Value).toArray below meth c H locs 0 0 Q (F0 m 45 ls []) := by
            clear hf hl hP hD hS
            intro n
            induction n with
            | zero =>
              intro z11 w12 w13 ls H locs hl hP hD hS hf
              exact (lq3_0 hf).elim
            | succ n ih45 =>
              intro z11 w12 w13 ls H locs hl hP hD hS hf
              replace hf := lq3_s eB14 hf
              unfold B_X12_findFewest_45 at hf
              refine lv_iload_n hx hb dX12_findFewest_45 rfl (lv_at hl 0 rfl) ?_
              refine lv_bipush (v := Int32.ofInt (49 : Int)) hx hb dX12_findFewest_46 (by decide) ?_
              have hr14 := ck_c hf
              replace hf := ck_r hf
              refine lv_icmp_ge (tgt := 141) hx hb dX12_findFewest_48 (by decide) (fun cc => ?_) (fun cc => ?_)
              ·
                replace hf := ite_t ((z_le (by decide) hr14).mp cc) hf
                clear cc
                obtain ⟨z16, ez⟩ : ∃ y : Int, y = (z5 + (1 : Int)) := ⟨_, rfl⟩
                replace hf := bnd_s hf ez
                refine lv_iinc (v := Int32.ofInt z16) (lv' := [(2, .int (Int32.ofInt z16)), (3, .int (Int32.ofInt z11)), (0, .ref a_p0)]) hx hb dX12_findFewest_141 hl (k := 1) rfl (by rw [ez]; exact (Int32.ofInt_add _ _).symm) (by decide) rfl (fun ls hl => ?_)
                clear ez
                refine lv_goto (tgt := 37) hx hb dX12_findFewest_144 (by decide) ?_
                exact ih37 _ _ _ _ _ _ (lv_sub hl [0, 2] rfl) hP hD hS hf
              ·
                replace hf := ite_f (fun h9 => cc ((z_le (by decide) hr14).mpr h9)) hf
                clear cc
                refine lv_iconst (v := Int32.ofInt (0 : Int)) hx hb dX12_findFewest_51 (by decide) ?_
                refine z_topi (fun z17 ez => ?_)
                replace hf := bnd_s hf ez
                clear ez
                refine lv_istore (lv' := [(4, .int (Int32.ofInt z17)), (3, .int (Int32.ofInt z11)), (2, .int (Int32.ofInt z5)), (0, .ref a_p0)]) hx hb dX12_findFewest_52 hl (by decide) rfl (fun ls hl => ?_)
                have hq := lq3_i hf
                clear hf
                obtain ⟨B21, eB21, NB21, hf⟩ := hq
                have hB21 : ∀ (n : Nat) (z18 : Int) (w19 : (Int → Int)) (w20 : (Int → Int)) (ls : Array Slot) (H : Heap) (locs : List Loc), lv_has ls 6 [(4, .int (Int32.ofInt z18)), (3, .int (Int32.ofInt z11)), (2, .int (Int32.ofInt z5)), (0, .ref a_p0)] → va_P D vwCl [(a_p0, .inr (12, [.ref a_p0_st, .ref a_p0_isKept, .int (Int32.ofInt i_p0_seats), .int (Int32.ofInt i_p0_stirs), .ref a_p0_brings, .ref a_p0_need, .ref a_p0_draft, .int (Int32.ofInt i_p0_dSeats), .int (Int32.ofInt i_p0_dStirs), .ref a_p0_dStir, .ref a_p0_dNeed, .int (Int32.ofInt i_p0_told), .int (Int32.ofInt i_p0_highest), .ref a_p0_tape, .int (Int32.ofInt i_p0_taped), .int (Int32.ofInt i_p0_pos), .int (Int32.ofInt i_p0_from), .int (Int32.ofInt i_p0_sort), .int (Int32.ofInt i_p0_value), .int (Int32.ofInt i_p0_fault), .int (Int32.ofInt i_p0_wrongAt), .ref a_p0_places, .ref a_p0_stirred, .ref a_p0_ways, .ref a_p0_waysThen, .ref a_p0_stays, .ref a_p0_fewest, .ref a_p0_bowls, .ref a_p0_has, .ref a_p0_goesOn, .ref a_p0_isThere, .ref a_p0_isThereThen, .ref a_p0_bestRow, .ref a_p0_lanes, .ref a_p0_sizes, .ref a_p0_cells, .int (Int32.ofInt i_p0_torn)])), (a_p0_st, .inl (G 1, 152, .inl (zA v_p0_st))), (a_p0_brings, .inl (G 1, 35, .inl (zA v_p0_brings))), (a_p0_places, .inl (G 1, 7, .inl (zA w19))), (a_p0_fewest, .inl (G 1, 49, .inl (zA w20)))] H → va_D A [(a_p0, .inr (12, [.ref a_p0_st, .ref a_p0_isKept, .int (Int32.ofInt i_p0_seats), .int (Int32.ofInt i_p0_stirs), .ref a_p0_brings, .ref a_p0_need, .ref a_p0_draft, .int (Int32.ofInt i_p0_dSeats), .int (Int32.ofInt i_p0_dStirs), .ref a_p0_dStir, .ref a_p0_dNeed, .int (Int32.ofInt i_p0_told), .int (Int32.ofInt i_p0_highest), .ref a_p0_tape, .int (Int32.ofInt i_p0_taped), .int (Int32.ofInt i_p0_pos), .int (Int32.ofInt i_p0_from), .int (Int32.ofInt i_p0_sort), .int (Int32.ofInt i_p0_value), .int (Int32.ofInt i_p0_fault), .int (Int32.ofInt i_p0_wrongAt), .ref a_p0_places, .ref a_p0_stirred, .ref a_p0_ways, .ref a_p0_waysThen, .ref a_p0_stays, .ref a_p0_fewest, .ref a_p0_bowls, .ref a_p0_has, .ref a_p0_goesOn, .ref a_p0_isThere, .ref a_p0_isThereThen, .ref a_p0_bestRow, .ref a_p0_lanes, .ref a_p0_sizes, .ref a_p0_cells, .int (Int32.ofInt i_p0_torn)])), (a_p0_st, .inl (G 1, 152, .inl (zA v_p0_st))), (a_p0_brings, .inl (G 1, 35, .inl (zA v_p0_brings))), (a_p0_places, .inl (G 1, 7, .inl (zA w19))), (a_p0_fewest, .inl (G 1, 49, .inl (zA w20)))] → va_S A s.heap H locs → lq3 B21 n z18 w19 w20 = some (o_v_p0_places, o_v_p0_fewest) → W p l e rm_X12_findFewest s m ([.ref a_p0, .int (Int32.ofInt x1)] : List Value).toArray below meth c H locs 0 0 Q (F0 m 54 ls []) := by
                  clear hf hl hP hD hS
                  intro n
                  induction n with
                  | zero =>
                    intro z18 w19 w20 ls H locs hl hP hD hS hf
                    exact (lq3_0 hf).elim
                  | succ n ih54 =>
                    intro z18 w19 w20 ls H locs hl hP hD hS hf
                    replace hf := lq3_s eB21 hf
                    unfold B_X12_findFewest_54 at hf
                    refine lv_iload hx hb dX12_findFewest_54 (lv_at hl 0 rfl) ?_
                    refine lv_aload_n hx hb dX12_findFewest_56 rfl (lv_at hl 3 rfl) ?_
                    refine va_get (D := D) (ci := 12) (v := .int (Int32.ofInt i_p0_stirs)) (C := RX12) (T := TX12) (N := 37) hx hb hts inX12_findFewest_X12 hown hK hP 0 rfl rfl 3 (by decide) (hts _ mwX12_findFewest_1) (fun _ h9 => h9) rfl dX12_findFewest_57 ?_
                    have hr21 := ck_c hf
                    replace hf := ck_r hf
                    have hr22 := ck_c hf
                    replace hf := ck_r hf
                    refine lv_icmp_ge (tgt := 135) hx hb dX12_findFewest_60 (by decide) (fun cc => ?_) (fun cc => ?_)
                    ·
                      replace hf := ite_t ((z_le hr22 hr21).mp cc) hf
                      clear cc
                      obtain ⟨z24, ez⟩ : ∃ y : Int, y = (z11 + (1 : Int)) := ⟨_, rfl⟩
                      replace hf := bnd_s hf ez
                      refine lv_iinc (v := Int32.ofInt z24) (lv' := [(3, .int (Int32.ofInt z24)), (4, .int (Int32.ofInt z18)), (2, .int (Int32.ofInt z5)), (0, .ref a_p0)]) hx hb dX12_findFewest_135 hl (k := 1) rfl (by rw [ez]; exact (Int32.ofInt_add _ _).symm) (by decide) rfl (fun ls hl => ?_)
                      clear ez
                      refine lv_goto (tgt := 45) hx hb dX12_findFewest_138 (by decide) ?_
                      exact ih45 _ _ _ _ _ _ (lv_sub hl [0, 2, 3] rfl) hP hD hS hf
                    ·
                      replace hf := ite_f (fun h9 => cc ((z_le hr22 hr21).mpr h9)) hf
                      clear cc
                      refine lv_iload_n hx hb dX12_findFewest_63 rfl (lv_at hl 1 rfl) ?_
                      refine lv_bipush (v := Int32.ofInt (7 : Int)) hx hb dX12_findFewest_64 (by decide) ?_
                      have hc := ck_c hf
                      replace hf := ck_r hf
                      refine lv_irem hx hb dX12_findFewest_66 (z_nz hc) (z_ci (z_rem hc) ?_)
                      clear hc
                      refine lv_aload_n hx hb dX12_findFewest_67 rfl (lv_at hl 3 rfl) ?_
                      refine va_get (D := D) (ci := 12) (v := .int (Int32.ofInt i_p0_seats)) (C := RX12) (T := TX12) (N := 37) hx hb hts inX12_findFewest_X12 hown hK hP 0 rfl rfl 2 (by decide) (hts _ mwX12_findFewest_2) (fun _ h9 => h9) rfl dX12_findFewest_68 ?_
                      have hr24 := ck_c hf
                      replace hf := ck_r hf
                      have hr25 := ck_c hf
                      replace hf := ck_r hf
                      refine lv_icmp_ge (tgt := 135) hx hb dX12_findFewest_71 (by decide) (fun cc => ?_) (fun cc => ?_)
                      ·
                        replace hf := ite_t ((z_le hr25 hr24).mp cc) hf
                        clear cc
                        obtain ⟨z27, ez⟩ : ∃ y : Int, y = (z11 + (1 : Int)) := ⟨_, rfl⟩
                        replace hf := bnd_s hf ez
                        refine lv_iinc (v := Int32.ofInt z27) (lv' := [(3, .int (Int32.ofInt z27)), (4, .int (Int32.ofInt z18)), (2, .int (Int32.ofInt z5)), (0, .ref a_p0)]) hx hb dX12_findFewest_135 hl (k := 1) rfl (by rw [ez]; exact (Int32.ofInt_add _ _).symm) (by decide) rfl (fun ls hl => ?_)
                        clear ez
                        refine lv_goto (tgt := 45) hx hb dX12_findFewest_138 (by decide) ?_
                        exact ih45 _ _ _ _ _ _ (lv_sub hl [0, 2, 3] rfl) hP hD hS hf
                      ·
                        replace hf := ite_f (fun h9 => cc ((z_le hr25 hr24).mpr h9)) hf
                        clear cc
                        refine lv_iload_n hx hb dX12_findFewest_74 rfl (lv_at hl 1 rfl) ?_
                        refine lv_bipush (v := Int32.ofInt (7 : Int)) hx hb dX12_findFewest_75 (by decide) ?_
                        have hc := ck_c hf
                        replace hf := ck_r hf
                        refine lv_idiv hx hb dX12_findFewest_77 (z_nz hc) (z_ci (z_div hc) ?_)
                        clear hc
                        refine lv_aload_n hx hb dX12_findFewest_78 rfl (lv_at hl 3 rfl) ?_
                        refine va_get (D := D) (ci := 12) (v := .int (Int32.ofInt i_p0_seats)) (C := RX12) (T := TX12) (N := 37) hx hb hts inX12_findFewest_X12 hown hK hP 0 rfl rfl 2 (by decide) (hts _ mwX12_findFewest_2) (fun _ h9 => h9) rfl dX12_findFewest_79 ?_
                        have hr27 := ck_c hf
                        replace hf := ck_r hf
                        refine lv_icmp_ge (tgt := 135) hx hb dX12_findFewest_82 (by decide) (fun cc => ?_) (fun cc => ?_)
                        ·
                          replace hf := ite_t ((z_le hr25 hr27).mp cc) hf
                          clear cc
                          obtain ⟨z29, ez⟩ : ∃ y : Int, y = (z11 + (1 : Int)) := ⟨_, rfl⟩
                          replace hf := bnd_s hf ez
                          refine lv_iinc (v := Int32.ofInt z29) (lv' := [(3, .int (Int32.ofInt z29)), (4, .int (Int32.ofInt z18)), (2, .int (Int32.ofInt z5)), (0, .ref a_p0)]) hx hb dX12_findFewest_135 hl (k := 1) rfl (by rw [ez]; exact (Int32.ofInt_add _ _).symm) (by decide) rfl (fun ls hl => ?_)
                          clear ez
                          refine lv_goto (tgt := 45) hx hb dX12_findFewest_138 (by decide) ?_
                          exact ih45 _ _ _ _ _ _ (lv_sub hl [0, 2, 3] rfl) hP hD hS hf
                        ·
                          replace hf := ite_f (fun h9 => cc ((z_le hr25 hr27).mpr h9)) hf
                          clear cc
                          refine lv_aload_n hx hb dX12_findFewest_85 rfl (lv_at hl 3 rfl) ?_
                          refine va_get (D := D) (ci := 12) (v := .ref a_p0_fewest) (C := RX12) (T := TX12) (N := 37) hx hb hts inX12_findFewest_X12 hown hK hP 0 rfl rfl 26 (by decide) (hts _ mwX12_findFewest_3) (fun _ h9 => h9) rfl dX12_findFewest_86 ?_
                          refine lv_aload_n hx hb dX12_findFewest_89 rfl (lv_at hl 3 rfl) ?_
                          refine lv_iload_n hx hb dX12_findFewest_90 rfl (lv_at hl 1 rfl) ?_
                          refine lv_iload hx hb dX12_findFewest_91 (lv_at hl 0 rfl) ?_
                          have hq := bd2_s hf
                          clear hf
                          obtain ⟨z30, w31, hcall, hf⟩ := hq
                          refine gsI (ws' := [(a_p0, .inr (12, [.ref a_p0_st, .ref a_p0_isKept, .int (Int32.ofInt i_p0_seats), .int (Int32.ofInt i_p0_stirs), .ref a_p0_brings, .ref a_p0_need, .ref a_p0_draft, .int (Int32.ofInt i_p0_dSeats), .int (Int32.ofInt i_p0_dStirs), .ref a_p0_dStir, .ref a_p0_dNeed, .int (Int32.ofInt i_p0_told), .int (Int32.ofInt i_p0_highest), .ref a_p0_tape, .int (Int32.ofInt i_p0_taped), .int (Int32.ofInt i_p0_pos), .int (Int32.ofInt i_p0_from), .int (Int32.ofInt i_p0_sort), .int (Int32.ofInt i_p0_value), .int (Int32.ofInt i_p0_fault), .int (Int32.ofInt i_p0_wrongAt), .ref a_p0_places, .ref a_p0_stirred, .ref a_p0_ways, .ref a_p0_waysThen, .ref a_p0_stays, .ref a_p0_fewest, .ref a_p0_bowls, .ref a_p0_has, .ref a_p0_goesOn, .ref a_p0_isThere, .ref a_p0_isThereThen, .ref a_p0_bestRow, .ref a_p0_lanes, .ref a_p0_sizes, .ref a_p0_cells, .int (Int32.ofInt i_p0_torn)])), (a_p0_st, .inl (G 1, 152, .inl (zA v_p0_st))), (a_p0_brings, .inl (G 1, 35, .inl (zA v_p0_brings))), (a_p0_places, .inl (G 1, 7, .inl (zA w31))), (a_p0_fewest, .inl (G 1, 49, .inl (zA w20)))]) (va_runV (As := [.int (Int32.ofInt z11), .int (Int32.ofInt z18)]) (rest := [.ref a_p0_fewest]) ⟨hx, hb, hml, hown, hts⟩ (c_X12_then (l := l) (D := D) (G := G) (sz := H.size) (a_p0 := a_p0) (a_p0_st := a_p0_st) (a_p0_isKept := a_p0_isKept) (a_p0_brings := a_p0_brings) (a_p0_need := a_p0_need) (a_p0_draft := a_p0_draft) (a_p0_dStir := a_p0_dStir) (a_p0_dNeed := a_p0_dNeed) (a_p0_tape := a_p0_tape) (a_p0_places := a_p0_places) (a_p0_stirred := a_p0_stirred) (a_p0_ways := a_p0_ways) (a_p0_waysThen := a_p0_waysThen) (a_p0_stays := a_p0_stays) (a_p0_fewest := a_p0_fewest) (a_p0_bowls := a_p0_bowls) (a_p0_has := a_p0_has) (a_p0_goesOn := a_p0_goesOn) (a_p0_isThere := a_p0_isThere) (a_p0_isThereThen := a_p0_isThereThen) (a_p0_bestRow := a_p0_bestRow) (a_p0_lanes := a_p0_lanes) (a_p0_sizes := a_p0_sizes) (a_p0_cells := a_p0_cells) (i_p0_seats := i_p0_seats) (i_p0_stirs := i_p0_stirs) (i_p0_dSeats := i_p0_dSeats) (i_p0_dStirs := i_p0_dStirs) (i_p0_told := i_p0_told) (i_p0_highest := i_p0_highest) (i_p0_taped := i_p0_taped) (i_p0_pos := i_p0_pos) (i_p0_from := i_p0_from) (i_p0_sort := i_p0_sort) (i_p0_value := i_p0_value) (i_p0_fault := i_p0_fault) (i_p0_wrongAt := i_p0_wrongAt) (i_p0_torn := i_p0_torn) (v_p0_st := v_p0_st) (v_p0_brings := v_p0_brings) (v_p0_places := w19) (x1 := z11) (x2 := z18) (r := z30) (o_v_p0_places := w31) (hf := hcall)) (cwV 2 hts gX12_findFewest_X12_then rfl rfl rfl hdV_yX12_then_RX12 ⟨Nat.le_of_ble_eq_true rfl, Nat.le_of_ble_eq_true rfl⟩) (preG_V (ci := 12) (q := (RX12, TX12, 37)) (hP.sub [0, 1, 2, 3] rfl) (hD.sub [0, 1, 2, 3] rfl rfl) hK rfl rfl) rfl rfl hl.1 rfl (lv_room (Nat.le_of_ble_eq_true rfl)) dX12_findFewest_93 ⟨Nat.le_of_ble_eq_true rfl, Nat.le_of_ble_eq_true rfl⟩) hP hD hS hA [0, 1, 2, 3] rfl rfl rfl (fun H locs hP hD hS => ?_)
                          clear hcall
                          have hc := ck_c hf
                          replace hf := ck_r hf
                          refine va_iald hx hb hK hP 4 1 rfl rfl (z_ix_in hc) dX12_findFewest_96 (z_ci (z_ald w20 hc) ?_)
                          clear hc
                          refine lv_iconst (v := Int32.ofInt (1 : Int)) hx hb dX12_findFewest_97 (by decide) ?_
                          refine lv_iadd hx hb dX12_findFewest_98 (z_ci (Int32.ofInt_add (w20 z30) (1 : Int)) ?_)
                          refine z_topi (fun z32 ez => ?_)
                          replace hf := bnd_s hf ez
                          clear ez
                          refine lv_istore (lv' := [(5, .int (Int32.ofInt z32)), (4, .int (Int32.ofInt z18)), (3, .int (Int32.ofInt z11)), (2, .int (Int32.ofInt z5)), (0, .ref a_p0)]) hx hb dX12_findFewest_99 hl (by decide) rfl (fun ls hl => ?_)
                          refine lv_aload_n hx hb dX12_findFewest_101 rfl (lv_at hl 4 rfl) ?_
                          refine va_get (D := D) (ci := 12) (v := .ref a_p0_fewest) (C := RX12) (T := TX12) (N := 37) hx hb hts inX12_findFewest_X12 hown hK hP 0 rfl rfl 26 (by decide) (hts _ mwX12_findFewest_3) (fun _ h9 => h9) rfl dX12_findFewest_102 ?_
                          refine lv_iload_n hx hb dX12_findFewest_105 rfl (lv_at hl 2 rfl) ?_
                          refine lv_iload hx hb dX12_findFewest_106 (lv_at hl 0 rfl) ?_
                          refine lv_aload_n hx hb dX12_findFewest_108 rfl (lv_at hl 4 rfl) ?_
                          refine va_get (D := D) (ci := 12) (v := .ref a_p0_fewest) (C := RX12) (T := TX12) (N := 37) hx hb hts inX12_findFewest_X12 hown hK hP 0 rfl rfl 26 (by decide) (hts _ mwX12_findFewest_3) (fun _ h9 => h9) rfl dX12_findFewest_109 ?_
                          refine lv_iload_n hx hb dX12_findFewest_112 rfl (lv_at hl 2 rfl) ?_
                          have hc := ck_c hf
                          replace hf := ck_r hf
                          refine va_iald hx hb hK hP 4 1 rfl rfl (z_ix_in hc) dX12_findFewest_113 (z_ci (z_ald w20 hc) ?_)
                          clear hc
                          have hr32 := ck_c hf
                          replace hf := ck_r hf
                          have hr33 := ck_c hf
                          replace hf := ck_r hf
                          refine lv_icmp_ge (tgt := 122) hx hb dX12_findFewest_114 (by decide) (fun cc => ?_) (fun cc => ?_)
                          ·
                            replace hf := ite_t ((z_le hr33 hr32).mp cc) hf
                            clear cc
                            refine lv_aload_n hx hb dX12_findFewest_122 rfl (lv_at hl 4 rfl) ?_
                            refine va_get (D := D) (ci := 12) (v := .ref a_p0_fewest) (C := RX12) (T := TX12) (N := 37) hx hb hts inX12_findFewest_X12 hown hK hP 0 rfl rfl 26 (by decide) (hts _ mwX12_findFewest_3) (fun _ h9 => h9) rfl dX12_findFewest_123 ?_
                            refine lv_iload_n hx hb dX12_findFewest_126 rfl (lv_at hl 2 rfl) ?_
                            have hc := ck_c hf
                            replace hf := ck_r hf
                            refine va_iald hx hb hK hP 4 1 rfl rfl (z_ix_in hc) dX12_findFewest_127 (z_ci (z_ald w20 hc) ?_)
                            clear hc
                            have hc := ck_c hf
                            replace hf := ck_r hf
                            refine zs_iast (wf := fun w35 => [(a_p0, .inr (12, [.ref a_p0_st, .ref a_p0_isKept, .int (Int32.ofInt i_p0_seats), .int (Int32.ofInt i_p0_stirs), .ref a_p0_brings, .ref a_p0_need, .ref a_p0_draft, .int (Int32.ofInt i_p0_dSeats), .int (Int32.ofInt i_p0_dStirs), .ref a_p0_dStir, .ref a_p0_dNeed, .int (Int32.ofInt i_p0_told), .int (Int32.ofInt i_p0_highest), .ref a_p0_tape, .int (Int32.ofInt i_p0_taped), .int (Int32.ofInt i_p0_pos), .int (Int32.ofInt i_p0_from), .int (Int32.ofInt i_p0_sort), .int (Int32.ofInt i_p0_value), .int (Int32.ofInt i_p0_fault), .int (Int32.ofInt i_p0_wrongAt), .ref a_p0_places, .ref a_p0_stirred, .ref a_p0_ways, .ref a_p0_waysThen, .ref a_p0_stays, .ref a_p0_fewest, .ref a_p0_bowls, .ref a_p0_has, .ref a_p0_goesOn, .ref a_p0_isThere, .ref a_p0_isThereThen, .ref a_p0_bestRow, .ref a_p0_lanes, .ref a_p0_sizes, .ref a_p0_cells, .int (Int32.ofInt i_p0_torn)])), (a_p0_st, .inl (G 1, 152, .inl (zA v_p0_st))), (a_p0_brings, .inl (G 1, 35, .inl (zA v_p0_brings))), (a_p0_places, .inl (G 1, 7, .inl (zA w31))), (a_p0_fewest, .inl (G 1, 49, .inl (zA w35)))]) hx hb hK hP hD hS 4 1 rfl rfl hc dX12_findFewest_128 (fun _ => rfl) (fun w35 ez H locs hP hD hS => ?_)
                            replace hf := bnd_s hf ez
                            clear ez hc
                            obtain ⟨z36, ez⟩ : ∃ y : Int, y = (z18 + (1 : Int)) := ⟨_, rfl⟩
                            replace hf := bnd_s hf ez
                            refine lv_iinc (v := Int32.ofInt z36) (lv' := [(4, .int (Int32.ofInt z36)), (5, .int (Int32.ofInt z32)), (3, .int (Int32.ofInt z11)), (2, .int (Int32.ofInt z5)), (0, .ref a_p0)]) hx hb dX12_findFewest_129 hl (k := 1) rfl (by rw [ez]; exact (Int32.ofInt_add _ _).symm) (by decide) rfl (fun ls hl => ?_)
                            clear ez
                            refine lv_goto (tgt := 54) hx hb dX12_findFewest_132 (by decide) ?_
                            exact ih54 _ _ _ _ _ _ (lv_sub hl [0, 2, 3, 4] rfl) hP hD hS hf
                          ·
                            replace hf := ite_f (fun h9 => cc ((z_le hr33 hr32).mpr h9)) hf
                            clear cc
                            refine lv_iload hx hb dX12_findFewest_117 (lv_at hl 0 rfl) ?_
                            refine lv_goto (tgt := 128) hx hb dX12_findFewest_119 (by decide) ?_
                            have hc := ck_c hf
                            replace hf := ck_r hf
                            refine zs_iast (wf := fun w37 => [(a_p0, .inr (12, [.ref a_p0_st, .ref a_p0_isKept, .int (Int32.ofInt i_p0_seats), .int (Int32.ofInt i_p0_stirs), .ref a_p0_brings, .ref a_p0_need, .ref a_p0_draft, .int (Int32.ofInt i_p0_dSeats), .int (Int32.ofInt i_p0_dStirs), .ref a_p0_dStir, .ref a_p0_dNeed, .int (Int32.ofInt i_p0_told), .int (Int32.ofInt i_p0_highest), .ref a_p0_tape, .int (Int32.ofInt i_p0_taped), .int (Int32.ofInt i_p0_pos), .int (Int32.ofInt i_p0_from), .int (Int32.ofInt i_p0_sort), .int (Int32.ofInt i_p0_value), .int (Int32.ofInt i_p0_fault), .int (Int32.ofInt i_p0_wrongAt), .ref a_p0_places, .ref a_p0_stirred, .ref a_p0_ways, .ref a_p0_waysThen, .ref a_p0_stays, .ref a_p0_fewest, .ref a_p0_bowls, .ref a_p0_has, .ref a_p0_goesOn, .ref a_p0_isThere, .ref a_p0_isThereThen, .ref a_p0_bestRow, .ref a_p0_lanes, .ref a_p0_sizes, .ref a_p0_cells, .int (Int32.ofInt i_p0_torn)])), (a_p0_st, .inl (G 1, 152, .inl (zA v_p0_st))), (a_p0_brings, .inl (G 1, 35, .inl (zA v_p0_brings))), (a_p0_places, .inl (G 1, 7, .inl (zA w31))), (a_p0_fewest, .inl (G 1, 49, .inl (zA w37)))]) hx hb hK hP hD hS 4 1 rfl rfl hc dX12_findFewest_128 (fun _ => rfl) (fun w37 ez H locs hP hD hS => ?_)
                            replace hf := bnd_s hf ez
                            clear ez hc
                            obtain ⟨z38, ez⟩ : ∃ y : Int, y = (z18 + (1 : Int)) := ⟨_, rfl⟩
                            replace hf := bnd_s hf ez
                            refine lv_iinc (v := Int32.ofInt z38) (lv' := [(4, .int (Int32.ofInt z38)), (5, .int (Int32.ofInt z32)), (3, .int (Int32.ofInt z11)), (2, .int (Int32.ofInt z5)), (0, .ref a_p0)]) hx hb dX12_findFewest_129 hl (k := 1) rfl (by rw [ez]; exact (Int32.ofInt_add _ _).symm) (by decide) rfl (fun ls hl => ?_)
                            clear ez
                            refine lv_goto (tgt := 54) hx hb dX12_findFewest_132 (by decide) ?_
                            exact ih54 _ _ _ _ _ _ (lv_sub hl [0, 2, 3, 4] rfl) hP hD hS hf
                exact hB21 _ _ _ _ _ _ _ (lv_sub hl [0, 1, 2, 3] rfl) hP hD hS hf
          exact hB14 _ _ _ _ _ _ _ (lv_sub hl [0, 1, 2] rfl) hP hD hS hf
    exact hB8 _ _ _ _ _ _ _ (lv_sub hl [0, 1] rfl) hP hD hS hf
  have hq := lq2_i hf
  clear hf
  obtain ⟨B41, eB41, NB41, hf⟩ := hq
  have hB41 : ∀ (n : Nat) (z39 : Int) (w40 : (Int → Int)) (ls : Array Slot) (H : Heap) (locs : List Loc), lv_has ls 6 [(2, .int (Int32.ofInt z39)), (0, .ref a_p0), (1, .int (Int32.ofInt x1))] → va_P D vwCl [(a_p0, .inr (12, [.ref a_p0_st, .ref a_p0_isKept, .int (Int32.ofInt i_p0_seats), .int (Int32.ofInt i_p0_stirs), .ref a_p0_brings, .ref a_p0_need, .ref a_p0_draft, .int (Int32.ofInt i_p0_dSeats), .int (Int32.ofInt i_p0_dStirs), .ref a_p0_dStir, .ref a_p0_dNeed, .int (Int32.ofInt i_p0_told), .int (Int32.ofInt i_p0_highest), .ref a_p0_tape, .int (Int32.ofInt i_p0_taped), .int (Int32.ofInt i_p0_pos), .int (Int32.ofInt i_p0_from), .int (Int32.ofInt i_p0_sort), .int (Int32.ofInt i_p0_value), .int (Int32.ofInt i_p0_fault), .int (Int32.ofInt i_p0_wrongAt), .ref a_p0_places, .ref a_p0_stirred, .ref a_p0_ways, .ref a_p0_waysThen, .ref a_p0_stays, .ref a_p0_fewest, .ref a_p0_bowls, .ref a_p0_has, .ref a_p0_goesOn, .ref a_p0_isThere, .ref a_p0_isThereThen, .ref a_p0_bestRow, .ref a_p0_lanes, .ref a_p0_sizes, .ref a_p0_cells, .int (Int32.ofInt i_p0_torn)])), (a_p0_st, .inl (G 1, 152, .inl (zA v_p0_st))), (a_p0_brings, .inl (G 1, 35, .inl (zA v_p0_brings))), (a_p0_places, .inl (G 1, 7, .inl (zA v_p0_places))), (a_p0_fewest, .inl (G 1, 49, .inl (zA w40)))] H → va_D A [(a_p0, .inr (12, [.ref a_p0_st, .ref a_p0_isKept, .int (Int32.ofInt i_p0_seats), .int (Int32.ofInt i_p0_stirs), .ref a_p0_brings, .ref a_p0_need, .ref a_p0_draft, .int (Int32.ofInt i_p0_dSeats), .int (Int32.ofInt i_p0_dStirs), .ref a_p0_dStir, .ref a_p0_dNeed, .int (Int32.ofInt i_p0_told), .int (Int32.ofInt i_p0_highest), .ref a_p0_tape, .int (Int32.ofInt i_p0_taped), .int (Int32.ofInt i_p0_pos), .int (Int32.ofInt i_p0_from), .int (Int32.ofInt i_p0_sort), .int (Int32.ofInt i_p0_value), .int (Int32.ofInt i_p0_fault), .int (Int32.ofInt i_p0_wrongAt), .ref a_p0_places, .ref a_p0_stirred, .ref a_p0_ways, .ref a_p0_waysThen, .ref a_p0_stays, .ref a_p0_fewest, .ref a_p0_bowls, .ref a_p0_has, .ref a_p0_goesOn, .ref a_p0_isThere, .ref a_p0_isThereThen, .ref a_p0_bestRow, .ref a_p0_lanes, .ref a_p0_sizes, .ref a_p0_cells, .int (Int32.ofInt i_p0_torn)])), (a_p0_st, .inl (G 1, 152, .inl (zA v_p0_st))), (a_p0_brings, .inl (G 1, 35, .inl (zA v_p0_brings))), (a_p0_places, .inl (G 1, 7, .inl (zA v_p0_places))), (a_p0_fewest, .inl (G 1, 49, .inl (zA w40)))] → va_S A s.heap H locs → lq2 B41 n z39 w40 = some (o_v_p0_places, o_v_p0_fewest) → W p l e rm_X12_findFewest s m ([.ref a_p0, .int (Int32.ofInt x1)] : List Value).toArray below meth c H locs 0 0 Q (F0 m 2 ls []) := by
    clear hf hl hP hD hS
    intro n
    induction n with
    | zero =>
      intro z39 w40 ls H locs hl hP hD hS hf
      exact (lq2_0 hf).elim
    | succ n ih2 =>
      intro z39 w40 ls H locs hl hP hD hS hf
      replace hf := lq2_s eB41 hf
      unfold B_X12_findFewest_2 at hf
      refine lv_iload_n hx hb dX12_findFewest_2 rfl (lv_at hl 0 rfl) ?_
      refine lv_bipush (v := Int32.ofInt (49 : Int)) hx hb dX12_findFewest_3 (by decide) ?_
      have hr41 := ck_c hf
      replace hf := ck_r hf
      refine lv_icmp_ge (tgt := 35) hx hb dX12_findFewest_5 (by decide) (fun cc => ?_) (fun cc => ?_)
      ·
        replace hf := ite_t ((z_le (by decide) hr41).mp cc) hf
        clear cc
        exact hJ3 _ _ _ _ (lv_sub hl [1] rfl) hP hD hS hf
      ·
        replace hf := ite_f (fun h9 => cc ((z_le (by decide) hr41).mpr h9)) hf
        clear cc
        refine lv_aload_n hx hb dX12_findFewest_8 rfl (lv_at hl 1 rfl) ?_
        refine va_get (D := D) (ci := 12) (v := .ref a_p0_fewest) (C := RX12) (T := TX12) (N := 37) hx hb hts inX12_findFewest_X12 hown hK hP 0 rfl rfl 26 (by decide) (hts _ mwX12_findFewest_3) (fun _ h9 => h9) rfl dX12_findFewest_9 ?_
        refine lv_iload_n hx hb dX12_findFewest_12 rfl (lv_at hl 0 rfl) ?_
        refine lv_iload_n hx hb dX12_findFewest_13 rfl (lv_at hl 0 rfl) ?_
        refine lv_bipush (v := Int32.ofInt (7 : Int)) hx hb dX12_findFewest_14 (by decide) ?_
        have hc := ck_c hf
        replace hf := ck_r hf
        refine lv_irem hx hb dX12_findFewest_16 (z_nz hc) (z_ci (z_rem hc) ?_)
        clear hc
        refine lv_iload_n hx hb dX12_findFewest_17 rfl (lv_at hl 2 rfl) ?_
        have hr42 := ck_c hf
        replace hf := ck_r hf
        have hr43 := ck_c hf
        replace hf := ck_r hf
        refine lv_icmp_ne (tgt := 25) hx hb dX12_findFewest_18 (by decide) (fun cc => ?_) (fun cc => ?_)
        ·
          replace hf := ite_f (fun h9 => cc ((z_eq hr42 hr43).mpr h9)) hf
          clear cc
          refine lv_ldcw (v := (1000000 : Int32)) hx hb hown (hts _ mwX12_findFewest_4) dX12_findFewest_25 (z_ci (show Int32.ofInt (1000000 : Int) = _ from by decide) ?_)
          have hc := ck_c hf
          replace hf := ck_r hf
          refine zs_iast (wf := fun w45 => [(a_p0, .inr (12, [.ref a_p0_st, .ref a_p0_isKept, .int (Int32.ofInt i_p0_seats), .int (Int32.ofInt i_p0_stirs), .ref a_p0_brings, .ref a_p0_need, .ref a_p0_draft, .int (Int32.ofInt i_p0_dSeats), .int (Int32.ofInt i_p0_dStirs), .ref a_p0_dStir, .ref a_p0_dNeed, .int (Int32.ofInt i_p0_told), .int (Int32.ofInt i_p0_highest), .ref a_p0_tape, .int (Int32.ofInt i_p0_taped), .int (Int32.ofInt i_p0_pos), .int (Int32.ofInt i_p0_from), .int (Int32.ofInt i_p0_sort), .int (Int32.ofInt i_p0_value), .int (Int32.ofInt i_p0_fault), .int (Int32.ofInt i_p0_wrongAt), .ref a_p0_places, .ref a_p0_stirred, .ref a_p0_ways, .ref a_p0_waysThen, .ref a_p0_stays, .ref a_p0_fewest, .ref a_p0_bowls, .ref a_p0_has, .ref a_p0_goesOn, .ref a_p0_isThere, .ref a_p0_isThereThen, .ref a_p0_bestRow, .ref a_p0_lanes, .ref a_p0_sizes, .ref a_p0_cells, .int (Int32.ofInt i_p0_torn)])), (a_p0_st, .inl (G 1, 152, .inl (zA v_p0_st))), (a_p0_brings, .inl (G 1, 35, .inl (zA v_p0_brings))), (a_p0_places, .inl (G 1, 7, .inl (zA v_p0_places))), (a_p0_fewest, .inl (G 1, 49, .inl (zA w45)))]) hx hb hK hP hD hS 4 1 rfl rfl hc dX12_findFewest_28 (fun _ => rfl) (fun w45 ez H locs hP hD hS => ?_)
          replace hf := bnd_s hf ez
          clear ez hc
          obtain ⟨z46, ez⟩ : ∃ y : Int, y = (z39 + (1 : Int)) := ⟨_, rfl⟩
          replace hf := bnd_s hf ez
          refine lv_iinc (v := Int32.ofInt z46) (lv' := [(2, .int (Int32.ofInt z46)), (0, .ref a_p0), (1, .int (Int32.ofInt x1))]) hx hb dX12_findFewest_29 hl (k := 0) rfl (by rw [ez]; exact (Int32.ofInt_add _ _).symm) (by decide) rfl (fun ls hl => ?_)
          clear ez
          refine lv_goto (tgt := 2) hx hb dX12_findFewest_32 (by decide) ?_
          exact ih2 _ _ _ _ _ (lv_sub hl [0, 1, 2] rfl) hP hD hS hf
        ·
          replace hf := ite_t ((z_eq hr42 hr43).mp cc) hf
          clear cc
          refine lv_iconst (v := Int32.ofInt (0 : Int)) hx hb dX12_findFewest_21 (by decide) ?_
          refine lv_goto (tgt := 28) hx hb dX12_findFewest_22 (by decide) ?_
          have hc := ck_c hf
          replace hf := ck_r hf
          refine zs_iast (wf := fun w47 => [(a_p0, .inr (12, [.ref a_p0_st, .ref a_p0_isKept, .int (Int32.ofInt i_p0_seats), .int (Int32.ofInt i_p0_stirs), .ref a_p0_brings, .ref a_p0_need, .ref a_p0_draft, .int (Int32.ofInt i_p0_dSeats), .int (Int32.ofInt i_p0_dStirs), .ref a_p0_dStir, .ref a_p0_dNeed, .int (Int32.ofInt i_p0_told), .int (Int32.ofInt i_p0_highest), .ref a_p0_tape, .int (Int32.ofInt i_p0_taped), .int (Int32.ofInt i_p0_pos), .int (Int32.ofInt i_p0_from), .int (Int32.ofInt i_p0_sort), .int (Int32.ofInt i_p0_value), .int (Int32.ofInt i_p0_fault), .int (Int32.ofInt i_p0_wrongAt), .ref a_p0_places, .ref a_p0_stirred, .ref a_p0_ways, .ref a_p0_waysThen, .ref a_p0_stays, .ref a_p0_fewest, .ref a_p0_bowls, .ref a_p0_has, .ref a_p0_goesOn, .ref a_p0_isThere, .ref a_p0_isThereThen, .ref a_p0_bestRow, .ref a_p0_lanes, .ref a_p0_sizes, .ref a_p0_cells, .int (Int32.ofInt i_p0_torn)])), (a_p0_st, .inl (G 1, 152, .inl (zA v_p0_st))), (a_p0_brings, .inl (G 1, 35, .inl (zA v_p0_brings))), (a_p0_places, .inl (G 1, 7, .inl (zA v_p0_places))), (a_p0_fewest, .inl (G 1, 49, .inl (zA w47)))]) hx hb hK hP hD hS 4 1 rfl rfl hc dX12_findFewest_28 (fun _ => rfl) (fun w47 ez H locs hP hD hS => ?_)
          replace hf := bnd_s hf ez
          clear ez hc
          obtain ⟨z48, ez⟩ : ∃ y : Int, y = (z39 + (1 : Int)) := ⟨_, rfl⟩
          replace hf := bnd_s hf ez
          refine lv_iinc (v := Int32.ofInt z48) (lv' := [(2, .int (Int32.ofInt z48)), (0, .ref a_p0), (1, .int (Int32.ofInt x1))]) hx hb dX12_findFewest_29 hl (k := 0) rfl (by rw [ez]; exact (Int32.ofInt_add _ _).symm) (by decide) rfl (fun ls hl => ?_)
          clear ez
          refine lv_goto (tgt := 2) hx hb dX12_findFewest_32 (by decide) ?_
          exact ih2 _ _ _ _ _ (lv_sub hl [0, 1, 2] rfl) hP hD hS hf
  exact hB41 _ _ _ _ _ _ (lv_sub hl [0, 1, 2] rfl) hP hD hS hf

noncomputable def B_X12_raise_113 (J25 : Int → (Int → Int) → Option (Int × (Int → Int) × (Int → Int))) (i_p0_seats : Int) (v_p0_st : (Int → Int)) (v_p0_brings : (Int → Int)) (z17 : Int) (w7 : (Int → Int)) (again113 : Int → Int → (Int → Int) → Option (Int × (Int → Int) × (Int → Int))) (z30 : Int) (z31 : Int) (w32 : (Int → Int)) : Option (Int × (Int → Int) × (Int → Int)) := (ck (z_r32 z30) (if z30 < (0 : Int) then (J25 z31 w32) else (bd2 (f_X12_then i_p0_seats v_p0_st v_p0_brings w32 z17 z30) (fun (z35 : Int) (w36 : (Int → Int)) => (ck (z_ix z35 49) (ck (z_ix z17 49) (ck (z_r32 ((w7 z35) + (1 : Int))) (ck (z_r32 (w7 z17)) (if ((w7 z35) + (1 : Int)) = (w7 z17) then (bnd z30 (fun (z41 : Int) => (bnd (z30 + (-1 : Int)) (fun (z42 : Int) => (again113 z42 z41 w36))))) else (bnd z31 (fun (z39 : Int) => (bnd (z30 + (-1 : Int)) (fun (z40 : Int) => (again113 z40 z39 w36))))))))))))))
noncomputable def B_X12_raise_92 (x2 : Int) (w7 : (Int → Int)) (i_p0_stirs : Int) (i_p0_seats : Int) (v_p0_st : (Int → Int)) (v_p0_brings : (Int → Int)) (again92 : Int → Int → Int → (Int → Int) → Option (Int × (Int → Int) × (Int → Int))) (z15 : Int) (z16 : Int) (z17 : Int) (w18 : (Int → Int)) : Option (Int × (Int → Int) × (Int → Int)) := (ck (z_r32 z15) (if (x2 - (10 : Int)) < z15 then (some (z16, w18, w7)) else (bnd (-4 : Int) (fun (z21 : Int) => (bnd (i_p0_stirs - (1 : Int)) (fun (z22 : Int) => (jn (fun (z23 : Int) (w24 : (Int → Int)) => (bd2 (f_X12_then i_p0_seats v_p0_st v_p0_brings w24 z17 z23) (fun (z26 : Int) (w27 : (Int → Int)) => (bnd z26 (fun (z28 : Int) => (bnd (z15 + (1 : Int)) (fun (z29 : Int) => (again92 z29 z23 z28 w27)))))))) (fun (J25 : Int → (Int → Int) → Option (Int × (Int → Int) × (Int → Int))) => (lq3 (B_X12_raise_113 J25 i_p0_seats v_p0_st v_p0_brings z17 w7) 1000 z22 z21 w18)))))))))
noncomputable def f_X12_raise (i_p0_seats : Int) (i_p0_stirs : Int) (v_p0_st : (Int → Int)) (v_p0_brings : (Int → Int)) (v_p0_places : (Int → Int)) (v_p0_fewest : (Int → Int)) (x1 : Int) (x2 : Int) : Option (Int × (Int → Int) × (Int → Int)) := (bd1 (f_X12_isSeat i_p0_seats x1) (fun (z1 : Int) => (ck (z_r32 z1) (if z1 = (0 : Int) then (some ((-1 : Int), v_p0_places, v_p0_fewest)) else (ck (z_r32 x2) (jn (ck (z_r32 i_p0_stirs) (if i_p0_stirs = (0 : Int) then (some ((-2 : Int), v_p0_places, v_p0_fewest)) else (bd2 (f_X12_findFewest i_p0_seats i_p0_stirs v_p0_st v_p0_brings v_p0_places v_p0_fewest x1) (fun (w6 : (Int → Int)) (w7 : (Int → Int)) => (bd1 (f_X12_stateNow v_p0_st) (fun (z8 : Int) => (bnd z8 (fun (z9 : Int) => (ck (z_ix z9 49) (bnd (w7 z9) (fun (z10 : Int) => (ck (z_r32 z10) (if z10 ≤ (10 : Int) then (if x2 = (0 : Int) then (some (z10, w6, w7)) else (ck (z_r32 (x2 - (10 : Int))) (if (x2 - (10 : Int)) < z10 then (bnd (-4 : Int) (fun (z13 : Int) => (bnd (0 : Int) (fun (z14 : Int) => (lq4 (B_X12_raise_92 x2 w7 i_p0_stirs i_p0_seats v_p0_st v_p0_brings) 1000 z14 z13 z9 w6))))) else (some ((-4 : Int), w6, w7))))) else (some ((-4 : Int), w6, w7))))))))))))))) (fun (J4 : Option (Int × (Int → Int) × (Int → Int))) => (if x2 = (0 : Int) then (J4) else (bd1 (f_X12_in x2 (10 : Int) (19 : Int)) (fun (z43 : Int) => (ck (z_r32 z43) (if z43 = (0 : Int) then (some ((-1 : Int), v_p0_places, v_p0_fewest)) else (J4)))))))))))))
abbrev rm_X12_raise : Room := { frames := 5, cells := 0, slots := 0, locals := 117 }
theorem inX12_raise_X12 : ∀ w ∈ wsX120, w ∈ wsX12_raise := by first | exact fun w h => List.mem_cons_of_mem _ (List.mem_append_right _ h) | decide +kernel
theorem mwX12_raise_1 : Cond.fieldLink RX12 103 "LadleKingsModel" "stirs" "I" ∈ wsX12_raise := by first | exact List.mem_of_getElem? (i := 3) rfl | decide +kernel
theorem hdV_yX12_findFewest_RX12 : yX12_findFewest.cls = RX12 ∧ yX12_findFewest.cls ≠ "java/lang/invoke/MethodHandle" ∧ yX12_findFewest.cls ≠ "java/lang/invoke/VarHandle" ∧ (parseMethodDescriptor yX12_findFewest.desc).map (fun d => d.parameters.length) = some 1 := by decide +kernel
theorem mwX12_raise_3 : Cond.fieldLink RX12 51 "LadleKingsModel" "fewest" "[I" ∈ wsX12_raise := by first | exact List.mem_of_getElem? (i := 4) rfl | decide +kernel
theorem mwX12_raise_4 : Cond.constantLong RX12 236 (10) ∈ wsX12_raise := by first | exact List.mem_of_getElem? (i := 1) rfl | decide +kernel
theorem mwX12_raise_5 : Cond.constantLong RX12 263 (19) ∈ wsX12_raise := by first | exact List.mem_of_getElem? (i := 2) rfl | decide +kernel
set_option maxHeartbeats 8000000 in
set_option maxRecDepth 100000 in
theorem c_X12_raise (l : Launch) (D : va_G) (G : Nat → ClassId) (sz : Nat) (a_p0 : Nat) (a_p0_st : Nat) (a_p0_isKept : Nat) (a_p0_brings : Nat) (a_p0_need : Nat) (a_p0_draft : Nat) (a_p0_dStir : Nat) (a_p0_dNeed : Nat) (a_p0_tape : Nat) (a_p0_places : Nat) (a_p0_stirred : Nat) (a_p0_ways : Nat) (a_p0_waysThen : Nat) (a_p0_stays : Nat) (a_p0_fewest : Nat) (a_p0_bowls : Nat) (a_p0_has : Nat) (a_p0_goesOn : Nat) (a_p0_isThere : Nat) (a_p0_isThereThen : Nat) (a_p0_bestRow : Nat) (a_p0_lanes : Nat) (a_p0_sizes : Nat) (a_p0_cells : Nat) (i_p0_seats : Int) (i_p0_stirs : Int) (i_p0_dSeats : Int) (i_p0_dStirs : Int) (i_p0_told : Int) (i_p0_highest : Int) (i_p0_taped : Int) (i_p0_pos : Int) (i_p0_from : Int) (i_p0_sort : Int) (i_p0_value : Int) (i_p0_fault : Int) (i_p0_wrongAt : Int) (i_p0_torn : Int) (v_p0_st : (Int → Int)) (v_p0_brings : (Int → Int)) (v_p0_places : (Int → Int)) (v_p0_fewest : (Int → Int)) (x1 : Int) (x2 : Int) (r : Int) (o_v_p0_places : (Int → Int)) (o_v_p0_fewest : (Int → Int)) (hf : f_X12_raise i_p0_seats i_p0_stirs v_p0_st v_p0_brings v_p0_places v_p0_fewest x1 x2 = some (r, o_v_p0_places, o_v_p0_fewest)) : Met l yX12_raise wsX12_raise rm_X12_raise (pcG D G [.ref a_p0, .int (Int32.ofInt x1), .int (Int32.ofInt x2)] sz [(a_p0, .inr (12, [.ref a_p0_st, .ref a_p0_isKept, .int (Int32.ofInt i_p0_seats), .int (Int32.ofInt i_p0_stirs), .ref a_p0_brings, .ref a_p0_need, .ref a_p0_draft, .int (Int32.ofInt i_p0_dSeats), .int (Int32.ofInt i_p0_dStirs), .ref a_p0_dStir, .ref a_p0_dNeed, .int (Int32.ofInt i_p0_told), .int (Int32.ofInt i_p0_highest), .ref a_p0_tape, .int (Int32.ofInt i_p0_taped), .int (Int32.ofInt i_p0_pos), .int (Int32.ofInt i_p0_from), .int (Int32.ofInt i_p0_sort), .int (Int32.ofInt i_p0_value), .int (Int32.ofInt i_p0_fault), .int (Int32.ofInt i_p0_wrongAt), .ref a_p0_places, .ref a_p0_stirred, .ref a_p0_ways, .ref a_p0_waysThen, .ref a_p0_stays, .ref a_p0_fewest, .ref a_p0_bowls, .ref a_p0_has, .ref a_p0_goesOn, .ref a_p0_isThere, .ref a_p0_isThereThen, .ref a_p0_bestRow, .ref a_p0_lanes, .ref a_p0_sizes, .ref a_p0_cells, .int (Int32.ofInt i_p0_torn)])), (a_p0_st, .inl (G 1, 152, .inl (zA v_p0_st))), (a_p0_brings, .inl (G 1, 35, .inl (zA v_p0_brings))), (a_p0_places, .inl (G 1, 7, .inl (zA v_p0_places))), (a_p0_fewest, .inl (G 1, 49, .inl (zA v_p0_fewest)))]) (qcI D G (Int32.ofInt r) [(a_p0, .inr (12, [.ref a_p0_st, .ref a_p0_isKept, .int (Int32.ofInt i_p0_seats), .int (Int32.ofInt i_p0_stirs), .ref a_p0_brings, .ref a_p0_need, .ref a_p0_draft, .int (Int32.ofInt i_p0_dSeats), .int (Int32.ofInt i_p0_dStirs), .ref a_p0_dStir, .ref a_p0_dNeed, .int (Int32.ofInt i_p0_told), .int (Int32.ofInt i_p0_highest), .ref a_p0_tape, .int (Int32.ofInt i_p0_taped), .int (Int32.ofInt i_p0_pos), .int (Int32.ofInt i_p0_from), .int (Int32.ofInt i_p0_sort), .int (Int32.ofInt i_p0_value), .int (Int32.ofInt i_p0_fault), .int (Int32.ofInt i_p0_wrongAt), .ref a_p0_places, .ref a_p0_stirred, .ref a_p0_ways, .ref a_p0_waysThen, .ref a_p0_stays, .ref a_p0_fewest, .ref a_p0_bowls, .ref a_p0_has, .ref a_p0_goesOn, .ref a_p0_isThere, .ref a_p0_isThereThen, .ref a_p0_bestRow, .ref a_p0_lanes, .ref a_p0_sizes, .ref a_p0_cells, .int (Int32.ofInt i_p0_torn)])), (a_p0_st, .inl (G 1, 152, .inl (zA v_p0_st))), (a_p0_brings, .inl (G 1, 35, .inl (zA v_p0_brings))), (a_p0_places, .inl (G 1, 7, .inl (zA o_v_p0_places))), (a_p0_fewest, .inl (G 1, 49, .inl (zA o_v_p0_fewest)))] (va_A [(a_p0, .inr (12, [.ref a_p0_st, .ref a_p0_isKept, .int (Int32.ofInt i_p0_seats), .int (Int32.ofInt i_p0_stirs), .ref a_p0_brings, .ref a_p0_need, .ref a_p0_draft, .int (Int32.ofInt i_p0_dSeats), .int (Int32.ofInt i_p0_dStirs), .ref a_p0_dStir, .ref a_p0_dNeed, .int (Int32.ofInt i_p0_told), .int (Int32.ofInt i_p0_highest), .ref a_p0_tape, .int (Int32.ofInt i_p0_taped), .int (Int32.ofInt i_p0_pos), .int (Int32.ofInt i_p0_from), .int (Int32.ofInt i_p0_sort), .int (Int32.ofInt i_p0_value), .int (Int32.ofInt i_p0_fault), .int (Int32.ofInt i_p0_wrongAt), .ref a_p0_places, .ref a_p0_stirred, .ref a_p0_ways, .ref a_p0_waysThen, .ref a_p0_stays, .ref a_p0_fewest, .ref a_p0_bowls, .ref a_p0_has, .ref a_p0_goesOn, .ref a_p0_isThere, .ref a_p0_isThereThen, .ref a_p0_bestRow, .ref a_p0_lanes, .ref a_p0_sizes, .ref a_p0_cells, .int (Int32.ofInt i_p0_torn)])), (a_p0_st, .inl (G 1, 152, .inl (zA v_p0_st))), (a_p0_brings, .inl (G 1, 35, .inl (zA v_p0_brings))), (a_p0_places, .inl (G 1, 7, .inl (zA v_p0_places))), (a_p0_fewest, .inl (G 1, 49, .inl (zA v_p0_fewest)))] sz)) 0 0 (va_A [(a_p0, .inr (12, [.ref a_p0_st, .ref a_p0_isKept, .int (Int32.ofInt i_p0_seats), .int (Int32.ofInt i_p0_stirs), .ref a_p0_brings, .ref a_p0_need, .ref a_p0_draft, .int (Int32.ofInt i_p0_dSeats), .int (Int32.ofInt i_p0_dStirs), .ref a_p0_dStir, .ref a_p0_dNeed, .int (Int32.ofInt i_p0_told), .int (Int32.ofInt i_p0_highest), .ref a_p0_tape, .int (Int32.ofInt i_p0_taped), .int (Int32.ofInt i_p0_pos), .int (Int32.ofInt i_p0_from), .int (Int32.ofInt i_p0_sort), .int (Int32.ofInt i_p0_value), .int (Int32.ofInt i_p0_fault), .int (Int32.ofInt i_p0_wrongAt), .ref a_p0_places, .ref a_p0_stirred, .ref a_p0_ways, .ref a_p0_waysThen, .ref a_p0_stays, .ref a_p0_fewest, .ref a_p0_bowls, .ref a_p0_has, .ref a_p0_goesOn, .ref a_p0_isThere, .ref a_p0_isThereThen, .ref a_p0_bestRow, .ref a_p0_lanes, .ref a_p0_sizes, .ref a_p0_cells, .int (Int32.ofInt i_p0_torn)])), (a_p0_st, .inl (G 1, 152, .inl (zA v_p0_st))), (a_p0_brings, .inl (G 1, 35, .inl (zA v_p0_brings))), (a_p0_places, .inl (G 1, 7, .inl (zA v_p0_places))), (a_p0_fewest, .inl (G 1, 49, .inl (zA v_p0_fewest)))] sz) := by
  refine Met.ofW (cc := cX12_raise) (maxL := 8) (ret := (some .int)) (by decide) rfl ?_
  intro p e s m args below meth c s₁ B hml hv
  obtain ⟨rfl, hsz, hP, hK, hD0⟩ := hv
  have hx := B.exec
  have hb := B.bytes
  have hr := B.returns
  have hts := atoms_spec (ws := wsX12_raise) B.pre
  have hown : s.vm.findClass RX12 = some m.cls := findClass_of_methodNamed B.named
  have hlocks := B.notSynchronized
  subst hsz
  have hD := hD0.self (sz := s.heap.size)
  generalize hAe : va_A [(a_p0, .inr (12, [.ref a_p0_st, .ref a_p0_isKept, .int (Int32.ofInt i_p0_seats), .int (Int32.ofInt i_p0_stirs), .ref a_p0_brings, .ref a_p0_need, .ref a_p0_draft, .int (Int32.ofInt i_p0_dSeats), .int (Int32.ofInt i_p0_dStirs), .ref a_p0_dStir, .ref a_p0_dNeed, .int (Int32.ofInt i_p0_told), .int (Int32.ofInt i_p0_highest), .ref a_p0_tape, .int (Int32.ofInt i_p0_taped), .int (Int32.ofInt i_p0_pos), .int (Int32.ofInt i_p0_from), .int (Int32.ofInt i_p0_sort), .int (Int32.ofInt i_p0_value), .int (Int32.ofInt i_p0_fault), .int (Int32.ofInt i_p0_wrongAt), .ref a_p0_places, .ref a_p0_stirred, .ref a_p0_ways, .ref a_p0_waysThen, .ref a_p0_stays, .ref a_p0_fewest, .ref a_p0_bowls, .ref a_p0_has, .ref a_p0_goesOn, .ref a_p0_isThere, .ref a_p0_isThereThen, .ref a_p0_bestRow, .ref a_p0_lanes, .ref a_p0_sizes, .ref a_p0_cells, .int (Int32.ofInt i_p0_torn)])), (a_p0_st, .inl (G 1, 152, .inl (zA v_p0_st))), (a_p0_brings, .inl (G 1, 35, .inl (zA v_p0_brings))), (a_p0_places, .inl (G 1, 7, .inl (zA v_p0_places))), (a_p0_fewest, .inl (G 1, 49, .inl (zA v_p0_fewest)))] s.heap.size = A at hD ⊢
  have hA : ∀ q : Nat, s.heap.size ≤ q → A q := fun q h => by rw [← hAe]; exact Or.inr h
  clear hAe hD0
  have hS : va_S A s.heap s.heap [] := va_S.rf
  have hl := lv_entry ([.ref a_p0, .int (Int32.ofInt x1), .int (Int32.ofInt x2)]) (n := 8) (Nat.le_of_ble_eq_true rfl)
  rw [lg_entry_eq]
  generalize (lg_sl ([.ref a_p0, .int (Int32.ofInt x1), .int (Int32.ofInt x2)]) ++ List.replicate (8 - (lg_sl ([.ref a_p0, .int (Int32.ofInt x1), .int (Int32.ofInt x2)])).length) Slot.unset).toArray = ls at hl ⊢
  have hl : lv_has ls 8 [(0, .ref a_p0), (1, .int (Int32.ofInt x1)), (2, .int (Int32.ofInt x2))] := hl
  refine W_nameQ (fun Q hQ => ?_)
  obtain ⟨H, hH⟩ : ∃ H, H = s.heap := ⟨_, rfl⟩
  replace hS : va_S A s.heap H [] := by rw [hH]; exact hS
  replace hP : va_P D vwCl [(a_p0, .inr (12, [.ref a_p0_st, .ref a_p0_isKept, .int (Int32.ofInt i_p0_seats), .int (Int32.ofInt i_p0_stirs), .ref a_p0_brings, .ref a_p0_need, .ref a_p0_draft, .int (Int32.ofInt i_p0_dSeats), .int (Int32.ofInt i_p0_dStirs), .ref a_p0_dStir, .ref a_p0_dNeed, .int (Int32.ofInt i_p0_told), .int (Int32.ofInt i_p0_highest), .ref a_p0_tape, .int (Int32.ofInt i_p0_taped), .int (Int32.ofInt i_p0_pos), .int (Int32.ofInt i_p0_from), .int (Int32.ofInt i_p0_sort), .int (Int32.ofInt i_p0_value), .int (Int32.ofInt i_p0_fault), .int (Int32.ofInt i_p0_wrongAt), .ref a_p0_places, .ref a_p0_stirred, .ref a_p0_ways, .ref a_p0_waysThen, .ref a_p0_stays, .ref a_p0_fewest, .ref a_p0_bowls, .ref a_p0_has, .ref a_p0_goesOn, .ref a_p0_isThere, .ref a_p0_isThereThen, .ref a_p0_bestRow, .ref a_p0_lanes, .ref a_p0_sizes, .ref a_p0_cells, .int (Int32.ofInt i_p0_torn)])), (a_p0_st, .inl (G 1, 152, .inl (zA v_p0_st))), (a_p0_brings, .inl (G 1, 35, .inl (zA v_p0_brings))), (a_p0_places, .inl (G 1, 7, .inl (zA v_p0_places))), (a_p0_fewest, .inl (G 1, 49, .inl (zA v_p0_fewest)))] H := by rw [hH]; exact hP
  rw [← hH]
  clear hH
  unfold f_X12_raise at hf
  refine lv_aload_n hx hb dX12_raise_0 rfl (lv_at hl 0 rfl) ?_
  refine lv_iload_n hx hb dX12_raise_1 rfl (lv_at hl 1 rfl) ?_
  have hq := bd1_s hf
  clear hf
  obtain ⟨z1, hcall, hf⟩ := hq
  refine gnI (va_runV (As := [.int (Int32.ofInt x1)]) (rest := []) ⟨hx, hb, hml, hown, hts⟩ (c_X12_isSeat (l := l) (D := D) (G := G) (sz := H.size) (a_p0 := a_p0) (a_p0_st := a_p0_st) (a_p0_isKept := a_p0_isKept) (a_p0_brings := a_p0_brings) (a_p0_need := a_p0_need) (a_p0_draft := a_p0_draft) (a_p0_dStir := a_p0_dStir) (a_p0_dNeed := a_p0_dNeed) (a_p0_tape := a_p0_tape) (a_p0_places := a_p0_places) (a_p0_stirred := a_p0_stirred) (a_p0_ways := a_p0_ways) (a_p0_waysThen := a_p0_waysThen) (a_p0_stays := a_p0_stays) (a_p0_fewest := a_p0_fewest) (a_p0_bowls := a_p0_bowls) (a_p0_has := a_p0_has) (a_p0_goesOn := a_p0_goesOn) (a_p0_isThere := a_p0_isThere) (a_p0_isThereThen := a_p0_isThereThen) (a_p0_bestRow := a_p0_bestRow) (a_p0_lanes := a_p0_lanes) (a_p0_sizes := a_p0_sizes) (a_p0_cells := a_p0_cells) (i_p0_seats := i_p0_seats) (i_p0_stirs := i_p0_stirs) (i_p0_dSeats := i_p0_dSeats) (i_p0_dStirs := i_p0_dStirs) (i_p0_told := i_p0_told) (i_p0_highest := i_p0_highest) (i_p0_taped := i_p0_taped) (i_p0_pos := i_p0_pos) (i_p0_from := i_p0_from) (i_p0_sort := i_p0_sort) (i_p0_value := i_p0_value) (i_p0_fault := i_p0_fault) (i_p0_wrongAt := i_p0_wrongAt) (i_p0_torn := i_p0_torn) (x1 := x1) (r := z1) (hf := hcall)) (cwV 1 hts gX12_raise_X12_isSeat rfl rfl rfl hdV_yX12_isSeat_RX12 ⟨Nat.le_of_ble_eq_true rfl, Nat.le_of_ble_eq_true rfl⟩) (preG_V (ci := 12) (q := (RX12, TX12, 37)) (hP.sub [0] rfl) (hD.sub [0] rfl rfl) hK rfl rfl) rfl rfl hl.1 rfl (lv_room (Nat.le_of_ble_eq_true rfl)) dX12_raise_2 ⟨Nat.le_of_ble_eq_true rfl, Nat.le_of_ble_eq_true rfl⟩) hP hD hS hA [0] rfl (fun H locs hP hD hS => ?_)
  clear hcall
  have hr1 := ck_c hf
  replace hf := ck_r hf
  refine lv_if_eq (tgt := 26) hx hb dX12_raise_5 (by decide) (fun cc => ?_) (fun cc => ?_)
  ·
    replace hf := ite_t ((z_eq0 hr1).mp cc) hf
    clear cc
    refine lv_iconst (v := Int32.ofInt (-1 : Int)) hx hb dX12_raise_26 (by decide) ?_
    obtain ⟨rfl, rfl, rfl⟩ := ou3 hf
    rw [hQ]
    exact W.iret hx hb hr (fun t ht hW => ⟨⟨_, (), rfl, rfl, by rw [ht]; exact hP, va_K.moved hW.alike hK, hD⟩, hS.F ht⟩) hS.2.2 dX12_raise_27
  ·
    replace hf := ite_f (fun h9 => cc ((z_eq0 hr1).mpr h9)) hf
    clear cc
    refine lv_iload_n hx hb dX12_raise_8 rfl (lv_at hl 2 rfl) ?_
    have hr2 := ck_c hf
    replace hf := ck_r hf
    have hq := jn_i hf
    clear hf
    obtain ⟨J4, eJ4, hf⟩ := hq
    have hJ4 : ∀  (ls : Array Slot) (H : Heap) (locs : List Loc), lv_has ls 8 [(0, .ref a_p0), (1, .int (Int32.ofInt x1)), (2, .int (Int32.ofInt x2))] → va_P D vwCl [(a_p0, .inr (12, [.ref a_p0_st, .ref a_p0_isKept, .int (Int32.ofInt i_p0_seats), .int (Int32.ofInt i_p0_stirs), .ref a_p0_brings, .ref a_p0_need, .ref a_p0_draft, .int (Int32.ofInt i_p0_dSeats), .int (Int32.ofInt i_p0_dStirs), .ref a_p0_dStir, .ref a_p0_dNeed, .int (Int32.ofInt i_p0_told), .int (Int32.ofInt i_p0_highest), .ref a_p0_tape, .int (Int32.ofInt i_p0_taped), .int (Int32.ofInt i_p0_pos), .int (Int32.ofInt i_p0_from), .int (Int32.ofInt i_p0_sort), .int (Int32.ofInt i_p0_value), .int (Int32.ofInt i_p0_fault), .int (Int32.ofInt i_p0_wrongAt), .ref a_p0_places, .ref a_p0_stirred, .ref a_p0_ways, .ref a_p0_waysThen, .ref a_p0_stays, .ref a_p0_fewest, .ref a_p0_bowls, .ref a_p0_has, .ref a_p0_goesOn, .ref a_p0_isThere, .ref a_p0_isThereThen, .ref a_p0_bestRow, .ref a_p0_lanes, .ref a_p0_sizes, .ref a_p0_cells, .int (Int32.ofInt i_p0_torn)])), (a_p0_st, .inl (G 1, 152, .inl (zA v_p0_st))), (a_p0_brings, .inl (G 1, 35, .inl (zA v_p0_brings))), (a_p0_places, .inl (G 1, 7, .inl (zA v_p0_places))), (a_p0_fewest, .inl (G 1, 49, .inl (zA v_p0_fewest)))] H → va_D A [(a_p0, .inr (12, [.ref a_p0_st, .ref a_p0_isKept, .int (Int32.ofInt i_p0_seats), .int (Int32.ofInt i_p0_stirs), .ref a_p0_brings, .ref a_p0_need, .ref a_p0_draft, .int (Int32.ofInt i_p0_dSeats), .int (Int32.ofInt i_p0_dStirs), .ref a_p0_dStir, .ref a_p0_dNeed, .int (Int32.ofInt i_p0_told), .int (Int32.ofInt i_p0_highest), .ref a_p0_tape, .int (Int32.ofInt i_p0_taped), .int (Int32.ofInt i_p0_pos), .int (Int32.ofInt i_p0_from), .int (Int32.ofInt i_p0_sort), .int (Int32.ofInt i_p0_value), .int (Int32.ofInt i_p0_fault), .int (Int32.ofInt i_p0_wrongAt), .ref a_p0_places, .ref a_p0_stirred, .ref a_p0_ways, .ref a_p0_waysThen, .ref a_p0_stays, .ref a_p0_fewest, .ref a_p0_bowls, .ref a_p0_has, .ref a_p0_goesOn, .ref a_p0_isThere, .ref a_p0_isThereThen, .ref a_p0_bestRow, .ref a_p0_lanes, .ref a_p0_sizes, .ref a_p0_cells, .int (Int32.ofInt i_p0_torn)])), (a_p0_st, .inl (G 1, 152, .inl (zA v_p0_st))), (a_p0_brings, .inl (G 1, 35, .inl (zA v_p0_brings))), (a_p0_places, .inl (G 1, 7, .inl (zA v_p0_places))), (a_p0_fewest, .inl (G 1, 49, .inl (zA v_p0_fewest)))] → va_S A s.heap H locs → J4  = some (r, o_v_p0_places, o_v_p0_fewest) → W p l e rm_X12_raise s m ([.ref a_p0, .int (Int32.ofInt x1), .int (Int32.ofInt x2)] : List Value).toArray below meth c H locs 0 0 Q (F0 m 28 ls []) := by
      clear hf hl hP hD hS
      intro  ls H locs hl hP hD hS hf
      replace hf := jn0_s eJ4 hf
      refine lv_aload_n hx hb dX12_raise_28 rfl (lv_at hl 0 rfl) ?_
      refine va_get (D := D) (ci := 12) (v := .int (Int32.ofInt i_p0_stirs)) (C := RX12) (T := TX12) (N := 37) hx hb hts inX12_raise_X12 hown hK hP 0 rfl rfl 3 (by decide) (hts _ mwX12_raise_1) (fun _ h9 => h9) rfl dX12_raise_29 ?_
      have hr4 := ck_c hf
      replace hf := ck_r hf
      refine lv_if_ne (tgt := 38) hx hb dX12_raise_32 (by decide) (fun cc => ?_) (fun cc => ?_)
      ·
        replace hf := ite_f (fun h9 => cc ((z_eq0 hr4).mpr h9)) hf
        clear cc
        refine lv_aload_n hx hb dX12_raise_38 rfl (lv_at hl 0 rfl) ?_
        refine lv_iload_n hx hb dX12_raise_39 rfl (lv_at hl 1 rfl) ?_
        have hq := bd2_s hf
        clear hf
        obtain ⟨w6, w7, hcall, hf⟩ := hq
        refine gsV (ws' := [(a_p0, .inr (12, [.ref a_p0_st, .ref a_p0_isKept, .int (Int32.ofInt i_p0_seats), .int (Int32.ofInt i_p0_stirs), .ref a_p0_brings, .ref a_p0_need, .ref a_p0_draft, .int (Int32.ofInt i_p0_dSeats), .int (Int32.ofInt i_p0_dStirs), .ref a_p0_dStir, .ref a_p0_dNeed, .int (Int32.ofInt i_p0_told), .int (Int32.ofInt i_p0_highest), .ref a_p0_tape, .int (Int32.ofInt i_p0_taped), .int (Int32.ofInt i_p0_pos), .int (Int32.ofInt i_p0_from), .int (Int32.ofInt i_p0_sort), .int (Int32.ofInt i_p0_value), .int (Int32.ofInt i_p0_fault), .int (Int32.ofInt i_p0_wrongAt), .ref a_p0_places, .ref a_p0_stirred, .ref a_p0_ways, .ref a_p0_waysThen, .ref a_p0_stays, .ref a_p0_fewest, .ref a_p0_bowls, .ref a_p0_has, .ref a_p0_goesOn, .ref a_p0_isThere, .ref a_p0_isThereThen, .ref a_p0_bestRow, .ref a_p0_lanes, .ref a_p0_sizes, .ref a_p0_cells, .int (Int32.ofInt i_p0_torn)])), (a_p0_st, .inl (G 1, 152, .inl (zA v_p0_st))), (a_p0_brings, .inl (G 1, 35, .inl (zA v_p0_brings))), (a_p0_places, .inl (G 1, 7, .inl (zA w6))), (a_p0_fewest, .inl (G 1, 49, .inl (zA w7)))]) (va_runV (As := [.int (Int32.ofInt x1)]) (rest := []) ⟨hx, hb, hml, hown, hts⟩ (c_X12_findFewest (l := l) (D := D) (G := G) (sz := H.size) (a_p0 := a_p0) (a_p0_st := a_p0_st) (a_p0_isKept := a_p0_isKept) (a_p0_brings := a_p0_brings) (a_p0_need := a_p0_need) (a_p0_draft := a_p0_draft) (a_p0_dStir := a_p0_dStir) (a_p0_dNeed := a_p0_dNeed) (a_p0_tape := a_p0_tape) (a_p0_places := a_p0_places) (a_p0_stirred := a_p0_stirred) (a_p0_ways := a_p0_ways) (a_p0_waysThen := a_p0_waysThen) (a_p0_stays := a_p0_stays) (a_p0_fewest := a_p0_fewest) (a_p0_bowls := a_p0_bowls) (a_p0_has := a_p0_has) (a_p0_goesOn := a_p0_goesOn) (a_p0_isThere := a_p0_isThere) (a_p0_isThereThen := a_p0_isThereThen) (a_p0_bestRow := a_p0_bestRow) (a_p0_lanes := a_p0_lanes) (a_p0_sizes := a_p0_sizes) (a_p0_cells := a_p0_cells) (i_p0_seats := i_p0_seats) (i_p0_stirs := i_p0_stirs) (i_p0_dSeats := i_p0_dSeats) (i_p0_dStirs := i_p0_dStirs) (i_p0_told := i_p0_told) (i_p0_highest := i_p0_highest) (i_p0_taped := i_p0_taped) (i_p0_pos := i_p0_pos) (i_p0_from := i_p0_from) (i_p0_sort := i_p0_sort) (i_p0_value := i_p0_value) (i_p0_fault := i_p0_fault) (i_p0_wrongAt := i_p0_wrongAt) (i_p0_torn := i_p0_torn) (v_p0_st := v_p0_st) (v_p0_brings := v_p0_brings) (v_p0_places := v_p0_places) (v_p0_fewest := v_p0_fewest) (x1 := x1) (o_v_p0_places := w6) (o_v_p0_fewest := w7) (hf := hcall)) (cwV 1 hts gX12_raise_X12_findFewest rfl rfl rfl hdV_yX12_findFewest_RX12 ⟨Nat.le_of_ble_eq_true rfl, Nat.le_of_ble_eq_true rfl⟩) (preG_V (ci := 12) (q := (RX12, TX12, 37)) (hP.sub [0, 1, 2, 3, 4] rfl) (hD.sub [0, 1, 2, 3, 4] rfl rfl) hK rfl rfl) rfl rfl hl.1 rfl (lv_room (Nat.le_of_ble_eq_true rfl)) dX12_raise_40 ⟨Nat.le_of_ble_eq_true rfl, Nat.le_of_ble_eq_true rfl⟩) hP hD hS hA [0, 1, 2, 3, 4] rfl rfl rfl (fun H locs hP hD hS => ?_)
        clear hcall
        refine lv_aload_n hx hb dX12_raise_43 rfl (lv_at hl 0 rfl) ?_
        have hq := bd1_s hf
        clear hf
        obtain ⟨z8, hcall, hf⟩ := hq
        refine gnI (va_runV (As := []) (rest := []) ⟨hx, hb, hml, hown, hts⟩ (c_X12_stateNow (l := l) (D := D) (G := G) (sz := H.size) (a_p0 := a_p0) (a_p0_st := a_p0_st) (a_p0_isKept := a_p0_isKept) (a_p0_brings := a_p0_brings) (a_p0_need := a_p0_need) (a_p0_draft := a_p0_draft) (a_p0_dStir := a_p0_dStir) (a_p0_dNeed := a_p0_dNeed) (a_p0_tape := a_p0_tape) (a_p0_places := a_p0_places) (a_p0_stirred := a_p0_stirred) (a_p0_ways := a_p0_ways) (a_p0_waysThen := a_p0_waysThen) (a_p0_stays := a_p0_stays) (a_p0_fewest := a_p0_fewest) (a_p0_bowls := a_p0_bowls) (a_p0_has := a_p0_has) (a_p0_goesOn := a_p0_goesOn) (a_p0_isThere := a_p0_isThere) (a_p0_isThereThen := a_p0_isThereThen) (a_p0_bestRow := a_p0_bestRow) (a_p0_lanes := a_p0_lanes) (a_p0_sizes := a_p0_sizes) (a_p0_cells := a_p0_cells) (i_p0_seats := i_p0_seats) (i_p0_stirs := i_p0_stirs) (i_p0_dSeats := i_p0_dSeats) (i_p0_dStirs := i_p0_dStirs) (i_p0_told := i_p0_told) (i_p0_highest := i_p0_highest) (i_p0_taped := i_p0_taped) (i_p0_pos := i_p0_pos) (i_p0_from := i_p0_from) (i_p0_sort := i_p0_sort) (i_p0_value := i_p0_value) (i_p0_fault := i_p0_fault) (i_p0_wrongAt := i_p0_wrongAt) (i_p0_torn := i_p0_torn) (v_p0_st := v_p0_st) (r := z8) (hf := hcall)) (cwV 0 hts gX12_raise_X12_stateNow rfl rfl rfl hdV_yX12_stateNow_RX12 ⟨Nat.le_of_ble_eq_true rfl, Nat.le_of_ble_eq_true rfl⟩) (preG_V (ci := 12) (q := (RX12, TX12, 37)) (hP.sub [0, 1] rfl) (hD.sub [0, 1] rfl rfl) hK rfl rfl) rfl rfl hl.1 rfl (lv_room (Nat.le_of_ble_eq_true rfl)) dX12_raise_44 ⟨Nat.le_of_ble_eq_true rfl, Nat.le_of_ble_eq_true rfl⟩) hP hD hS hA [0, 1] rfl (fun H locs hP hD hS => ?_)
        clear hcall
        refine z_topi (fun z9 ez => ?_)
        replace hf := bnd_s hf ez
        clear ez
        refine lv_istore_n (lv' := [(3, .int (Int32.ofInt z9)), (0, .ref a_p0), (1, .int (Int32.ofInt x1)), (2, .int (Int32.ofInt x2))]) hx hb dX12_raise_47 rfl hl (by decide) rfl (fun ls hl => ?_)
        refine lv_aload_n hx hb dX12_raise_48 rfl (lv_at hl 1 rfl) ?_
        refine va_get (D := D) (ci := 12) (v := .ref a_p0_fewest) (C := RX12) (T := TX12) (N := 37) hx hb hts inX12_raise_X12 hown hK hP 0 rfl rfl 26 (by decide) (hts _ mwX12_raise_3) (fun _ h9 => h9) rfl dX12_raise_49 ?_
        refine lv_iload_n hx hb dX12_raise_52 rfl (lv_at hl 0 rfl) ?_
        have hc := ck_c hf
        replace hf := ck_r hf
        refine va_iald hx hb hK hP 4 1 rfl rfl (z_ix_in hc) dX12_raise_53 (z_ci (z_ald w7 hc) ?_)
        clear hc
        refine z_topi (fun z10 ez => ?_)
        replace hf := bnd_s hf ez
        clear ez
        refine lv_istore (lv' := [(4, .int (Int32.ofInt z10)), (3, .int (Int32.ofInt z9)), (0, .ref a_p0), (1, .int (Int32.ofInt x1)), (2, .int (Int32.ofInt x2))]) hx hb dX12_raise_54 hl (by decide) rfl (fun ls hl => ?_)
        refine lv_iload hx hb dX12_raise_56 (lv_at hl 0 rfl) ?_
        refine lv_bipush (v := Int32.ofInt (10 : Int)) hx hb dX12_raise_58 (by decide) ?_
        have hr10 := ck_c hf
        replace hf := ck_r hf
        refine lv_icmp_le (tgt := 66) hx hb dX12_raise_60 (by decide) (fun cc => ?_) (fun cc => ?_)
        ·
          replace hf := ite_t ((z_le hr10 (by decide)).mp cc) hf
          clear cc
          refine lv_iload_n hx hb dX12_raise_66 rfl (lv_at hl 4 rfl) ?_
          refine lv_if_ne (tgt := 73) hx hb dX12_raise_67 (by decide) (fun cc => ?_) (fun cc => ?_)
          ·
            replace hf := ite_f (fun h9 => cc ((z_eq0 hr2).mpr h9)) hf
            clear cc
            refine lv_iload_n hx hb dX12_raise_73 rfl (lv_at hl 4 rfl) ?_
            refine lv_bipush (v := Int32.ofInt (10 : Int)) hx hb dX12_raise_74 (by decide) ?_
            refine lv_isub hx hb dX12_raise_76 (z_ci (Int32.ofInt_sub x2 (10 : Int)) ?_)
            refine lv_iload hx hb dX12_raise_77 (lv_at hl 0 rfl) ?_
            have hr11 := ck_c hf
            replace hf := ck_r hf
            refine lv_icmp_lt (tgt := 85) hx hb dX12_raise_79 (by decide) (fun cc => ?_) (fun cc => ?_)
            ·
              replace hf := ite_t ((z_lt hr11 hr10).mp cc) hf
              clear cc
              refine lv_bipush (v := Int32.ofInt (-4 : Int)) hx hb dX12_raise_85 (by decide) ?_
              refine z_topi (fun z13 ez => ?_)
              replace hf := bnd_s hf ez
              clear ez
              refine lv_istore (lv' := [(5, .int (Int32.ofInt z13)), (4, .int (Int32.ofInt z10)), (3, .int (Int32.ofInt z9)), (0, .ref a_p0), (1, .int (Int32.ofInt x1)), (2, .int (Int32.ofInt x2))]) hx hb dX12_raise_87 hl (by decide) rfl (fun ls hl => ?_)
              refine lv_iconst (v := Int32.ofInt (0 : Int)) hx hb dX12_raise_89 (by decide) ?_
              refine z_topi (fun z14 ez => ?_)
              replace hf := bnd_s hf ez
              clear ez
              refine lv_istore (lv' := [(6, .int (Int32.ofInt z14)), (5, .int (Int32.ofInt z13)), (4, .int (Int32.ofInt z10)), (3, .int (Int32.ofInt z9)), (0, .ref a_p0), (1, .int (Int32.ofInt x1)), (2, .int (Int32.ofInt x2))]) hx hb dX12_raise_90 hl (by decide) rfl (fun ls hl => ?_)
              have hq := lq4_i hf
              clear hf
              obtain ⟨B19, eB19, NB19, hf⟩ := hq
              have hB19 : ∀ (n : Nat) (z15 : Int) (z16 : Int) (z17 : Int) (w18 : (Int → Int)) (ls : Array Slot) (H : Heap) (locs : List Loc), lv_has ls 8 [(6, .int (Int32.ofInt z15)), (5, .int (Int32.ofInt z16)), (3, .int (Int32.ofInt z17)), (0, .ref a_p0), (2, .int (Int32.ofInt x2))] → va_P D vwCl [(a_p0, .inr (12, [.ref a_p0_st, .ref a_p0_isKept, .int (Int32.ofInt i_p0_seats), .int (Int32.ofInt i_p0_stirs), .ref a_p0_brings, .ref a_p0_need, .ref a_p0_draft, .int (Int32.ofInt i_p0_dSeats), .int (Int32.ofInt i_p0_dStirs), .ref a_p0_dStir, .ref a_p0_dNeed, .int (Int32.ofInt i_p0_told), .int (Int32.ofInt i_p0_highest), .ref a_p0_tape, .int (Int32.ofInt i_p0_taped), .int (Int32.ofInt i_p0_pos), .int (Int32.ofInt i_p0_from), .int (Int32.ofInt i_p0_sort), .int (Int32.ofInt i_p0_value), .int (Int32.ofInt i_p0_fault), .int (Int32.ofInt i_p0_wrongAt), .ref a_p0_places, .ref a_p0_stirred, .ref a_p0_ways, .ref a_p0_waysThen, .ref a_p0_stays, .ref a_p0_fewest, .ref a_p0_bowls, .ref a_p0_has, .ref a_p0_goesOn, .ref a_p0_isThere, .ref a_p0_isThereThen, .ref a_p0_bestRow, .ref a_p0_lanes, .ref a_p0_sizes, .ref a_p0_cells, .int (Int32.ofInt i_p0_torn)])), (a_p0_st, .inl (G 1, 152, .inl (zA v_p0_st))), (a_p0_brings, .inl (G 1, 35, .inl (zA v_p0_brings))), (a_p0_places, .inl (G 1, 7, .inl (zA w18))), (a_p0_fewest, .inl (G 1, 49, .inl (zA w7)))] H → va_D A [(a_p0, .inr (12, [.ref a_p0_st, .ref a_p0_isKept, .int (Int32.ofInt i_p0_seats), .int (Int32.ofInt i_p0_stirs), .ref a_p0_brings, .ref a_p0_need, .ref a_p0_draft, .int (Int32.ofInt i_p0_dSeats), .int (Int32.ofInt i_p0_dStirs), .ref a_p0_dStir, .ref a_p0_dNeed, .int (Int32.ofInt i_p0_told), .int (Int32.ofInt i_p0_highest), .ref a_p0_tape, .int (Int32.ofInt i_p0_taped), .int (Int32.ofInt i_p0_pos), .int (Int32.ofInt i_p0_from), .int (Int32.ofInt i_p0_sort), .int (Int32.ofInt i_p0_value), .int (Int32.ofInt i_p0_fault), .int (Int32.ofInt i_p0_wrongAt), .ref a_p0_places, .ref a_p0_stirred, .ref a_p0_ways, .ref a_p0_waysThen, .ref a_p0_stays, .ref a_p0_fewest, .ref a_p0_bowls, .ref a_p0_has, .ref a_p0_goesOn, .ref a_p0_isThere, .ref a_p0_isThereThen, .ref a_p0_bestRow, .ref a_p0_lanes, .ref a_p0_sizes, .ref a_p0_cells, .int (Int32.ofInt i_p0_torn)])), (a_p0_st, .inl (G 1, 152, .inl (zA v_p0_st))), (a_p0_brings, .inl (G 1, 35, .inl (zA v_p0_brings))), (a_p0_places, .inl (G 1, 7, .inl (zA w18))), (a_p0_fewest, .inl (G 1, 49, .inl (zA w7)))] → va_S A s.heap H locs → lq4 B19 n z15 z16 z17 w18 = some (r, o_v_p0_places, o_v_p0_fewest) → W p l e rm_X12_raise s m ([.ref a_p0, .int (Int32.ofInt x1), .int (Int32.ofInt x2)] : List Value).toArray below meth c H locs 0 0 Q (F0 m 92 ls []) := by
                clear hf hl hP hD hS
                intro n
                induction n with
                | zero =>
                  intro z15 z16 z17 w18 ls H locs hl hP hD hS hf
                  exact (lq4_0 hf).elim
                | succ n ih92 =>
                  intro z15 z16 z17 w18 ls H locs hl hP hD hS hf
                  replace hf := lq4_s eB19 hf
                  unfold B_X12_raise_92 at hf
                  refine lv_iload hx hb dX12_raise_92 (lv_at hl 0 rfl) ?_
                  refine lv_iload_n hx hb dX12_raise_94 rfl (lv_at hl 4 rfl) ?_
                  refine lv_bipush (v := Int32.ofInt (10 : Int)) hx hb dX12_raise_95 (by decide) ?_
                  refine lv_isub hx hb dX12_raise_97 (z_ci (Int32.ofInt_sub x2 (10 : Int)) ?_)
                  have hr19 := ck_c hf
                  replace hf := ck_r hf
                  refine lv_icmp_gt (tgt := 170) hx hb dX12_raise_98 (by decide) (fun cc => ?_) (fun cc => ?_)
                  ·
                    replace hf := ite_t ((z_lt hr11 hr19).mp cc) hf
                    clear cc
                    refine lv_iload hx hb dX12_raise_170 (lv_at hl 1 rfl) ?_
                    obtain ⟨rfl, rfl, rfl⟩ := ou3 hf
                    rw [hQ]
                    exact W.iret hx hb hr (fun t ht hW => ⟨⟨_, (), rfl, rfl, by rw [ht]; exact hP, va_K.moved hW.alike hK, hD⟩, hS.F ht⟩) hS.2.2 dX12_raise_172
                  ·
                    replace hf := ite_f (fun h9 => cc ((z_lt hr11 hr19).mpr h9)) hf
                    clear cc
                    refine lv_bipush (v := Int32.ofInt (-4 : Int)) hx hb dX12_raise_101 (by decide) ?_
                    refine z_topi (fun z21 ez => ?_)
                    replace hf := bnd_s hf ez
                    clear ez
                    refine lv_istore (lv' := [(5, .int (Int32.ofInt z21)), (6, .int (Int32.ofInt z15)), (3, .int (Int32.ofInt z17)), (0, .ref a_p0), (2, .int (Int32.ofInt x2))]) hx hb dX12_raise_103 hl (by decide) rfl (fun ls hl => ?_)
                    refine lv_aload_n hx hb dX12_raise_105 rfl (lv_at hl 3 rfl) ?_
                    refine va_get (D := D) (ci := 12) (v := .int (Int32.ofInt i_p0_stirs)) (C := RX12) (T := TX12) (N := 37) hx hb hts inX12_raise_X12 hown hK hP 0 rfl rfl 3 (by decide) (hts _ mwX12_raise_1) (fun _ h9 => h9) rfl dX12_raise_106 ?_
                    refine lv_iconst (v := Int32.ofInt (1 : Int)) hx hb dX12_raise_109 (by decide) ?_
                    refine lv_isub hx hb dX12_raise_110 (z_ci (Int32.ofInt_sub i_p0_stirs (1 : Int)) ?_)
                    refine z_topi (fun z22 ez => ?_)
                    replace hf := bnd_s hf ez
                    clear ez
                    refine lv_istore (lv' := [(7, .int (Int32.ofInt z22)), (5, .int (Int32.ofInt z21)), (6, .int (Int32.ofInt z15)), (3, .int (Int32.ofInt z17)), (0, .ref a_p0), (2, .int (Int32.ofInt x2))]) hx hb dX12_raise_111 hl (by decide) rfl (fun ls hl => ?_)
                    have hq := jn_i hf
                    clear hf
                    obtain ⟨J25, eJ25, hf⟩ := hq
                    have hJ25 : ∀ (z23 : Int) (w24 : (Int → Int)) (ls : Array Slot) (H : Heap) (locs : List Loc), lv_has ls 8 [(5, .int (Int32.ofInt z23)), (6, .int (Int32.ofInt z15)), (3, .int (Int32.ofInt z17)), (0, .ref a_p0), (2, .int (Int32.ofInt x2))] → va_P D vwCl [(a_p0, .inr (12, [.ref a_p0_st, .ref a_p0_isKept, .int (Int32.ofInt i_p0_seats), .int (Int32.ofInt i_p0_stirs), .ref a_p0_brings, .ref a_p0_need, .ref a_p0_draft, .int (Int32.ofInt i_p0_dSeats), .int (Int32.ofInt i_p0_dStirs), .ref a_p0_dStir, .ref a_p0_dNeed, .int (Int32.ofInt i_p0_told), .int (Int32.ofInt i_p0_highest), .ref a_p0_tape, .int (Int32.ofInt i_p0_taped), .int (Int32.ofInt i_p0_pos), .int (Int32.ofInt i_p0_from), .int (Int32.ofInt i_p0_sort), .int (Int32.ofInt i_p0_value), .int (Int32.ofInt i_p0_fault), .int (Int32.ofInt i_p0_wrongAt), .ref a_p0_places, .ref a_p0_stirred, .ref a_p0_ways, .ref a_p0_waysThen, .ref a_p0_stays, .ref a_p0_fewest, .ref a_p0_bowls, .ref a_p0_has, .ref a_p0_goesOn, .ref a_p0_isThere, .ref a_p0_isThereThen, .ref a_p0_bestRow, .ref a_p0_lanes, .ref a_p0_sizes, .ref a_p0_cells, .int (Int32.ofInt i_p0_torn)])), (a_p0_st, .inl (G 1, 152, .inl (zA v_p0_st))), (a_p0_brings, .inl (G 1, 35, .inl (zA v_p0_brings))), (a_p0_places, .inl (G 1, 7, .inl (zA w24))), (a_p0_fewest, .inl (G 1, 49, .inl (zA w7)))] H → va_D A [(a_p0, .inr (12, [.ref a_p0_st, .ref a_p0_isKept, .int (Int32.ofInt i_p0_seats), .int (Int32.ofInt i_p0_stirs), .ref a_p0_brings, .ref a_p0_need, .ref a_p0_draft, .int (Int32.ofInt i_p0_dSeats), .int (Int32.ofInt i_p0_dStirs), .ref a_p0_dStir, .ref a_p0_dNeed, .int (Int32.ofInt i_p0_told), .int (Int32.ofInt i_p0_highest), .ref a_p0_tape, .int (Int32.ofInt i_p0_taped), .int (Int32.ofInt i_p0_pos), .int (Int32.ofInt i_p0_from), .int (Int32.ofInt i_p0_sort), .int (Int32.ofInt i_p0_value), .int (Int32.ofInt i_p0_fault), .int (Int32.ofInt i_p0_wrongAt), .ref a_p0_places, .ref a_p0_stirred, .ref a_p0_ways, .ref a_p0_waysThen, .ref a_p0_stays, .ref a_p0_fewest, .ref a_p0_bowls, .ref a_p0_has, .ref a_p0_goesOn, .ref a_p0_isThere, .ref a_p0_isThereThen, .ref a_p0_bestRow, .ref a_p0_lanes, .ref a_p0_sizes, .ref a_p0_cells, .int (Int32.ofInt i_p0_torn)])), (a_p0_st, .inl (G 1, 152, .inl (zA v_p0_st))), (a_p0_brings, .inl (G 1, 35, .inl (zA v_p0_brings))), (a_p0_places, .inl (G 1, 7, .inl (zA w24))), (a_p0_fewest, .inl (G 1, 49, .inl (zA w7)))] → va_S A s.heap H locs → J25 z23 w24 = some (r, o_v_p0_places, o_v_p0_fewest) → W p l e rm_X12_raise s m ([.ref a_p0, .int (Int32.ofInt x1), .int (Int32.ofInt x2)] : List Value).toArray below meth c H locs 0 0 Q (F0 m 156 ls []) := by
                      clear hf hl hP hD hS
                      intro z23 w24 ls H locs hl hP hD hS hf
                      replace hf := jn2_s eJ25 hf
                      refine lv_aload_n hx hb dX12_raise_156 rfl (lv_at hl 3 rfl) ?_
                      refine lv_iload_n hx hb dX12_raise_157 rfl (lv_at hl 2 rfl) ?_
                      refine lv_iload hx hb dX12_raise_158 (lv_at hl 0 rfl) ?_
                      have hq := bd2_s hf
                      clear hf
                      obtain ⟨z26, w27, hcall, hf⟩ := hq
                      refine gsI (ws' := [(a_p0, .inr (12, [.ref a_p0_st, .ref a_p0_isKept, .int (Int32.ofInt i_p0_seats), .int (Int32.ofInt i_p0_stirs), .ref a_p0_brings, .ref a_p0_need, .ref a_p0_draft, .int (Int32.ofInt i_p0_dSeats), .int (Int32.ofInt i_p0_dStirs), .ref a_p0_dStir, .ref a_p0_dNeed, .int (Int32.ofInt i_p0_told), .int (Int32.ofInt i_p0_highest), .ref a_p0_tape, .int (Int32.ofInt i_p0_taped), .int (Int32.ofInt i_p0_pos), .int (Int32.ofInt i_p0_from), .int (Int32.ofInt i_p0_sort), .int (Int32.ofInt i_p0_value), .int (Int32.ofInt i_p0_fault), .int (Int32.ofInt i_p0_wrongAt), .ref a_p0_places, .ref a_p0_stirred, .ref a_p0_ways, .ref a_p0_waysThen, .ref a_p0_stays, .ref a_p0_fewest, .ref a_p0_bowls, .ref a_p0_has, .ref a_p0_goesOn, .ref a_p0_isThere, .ref a_p0_isThereThen, .ref a_p0_bestRow, .ref a_p0_lanes, .ref a_p0_sizes, .ref a_p0_cells, .int (Int32.ofInt i_p0_torn)])), (a_p0_st, .inl (G 1, 152, .inl (zA v_p0_st))), (a_p0_brings, .inl (G 1, 35, .inl (zA v_p0_brings))), (a_p0_places, .inl (G 1, 7, .inl (zA w27))), (a_p0_fewest, .inl (G 1, 49, .inl (zA w7)))]) (va_runV (As := [.int (Int32.ofInt z17), .int (Int32.ofInt z23)]) (rest := []) ⟨hx, hb, hml, hown, hts⟩ (c_X12_then (l := l) (D := D) (G := G) (sz := H.size) (a_p0 := a_p0) (a_p0_st := a_p0_st) (a_p0_isKept := a_p0_isKept) (a_p0_brings := a_p0_brings) (a_p0_need := a_p0_need) (a_p0_draft := a_p0_draft) (a_p0_dStir := a_p0_dStir) (a_p0_dNeed := a_p0_dNeed) (a_p0_tape := a_p0_tape) (a_p0_places := a_p0_places) (a_p0_stirred := a_p0_stirred) (a_p0_ways := a_p0_ways) (a_p0_waysThen := a_p0_waysThen) (a_p0_stays := a_p0_stays) (a_p0_fewest := a_p0_fewest) (a_p0_bowls := a_p0_bowls) (a_p0_has := a_p0_has) (a_p0_goesOn := a_p0_goesOn) (a_p0_isThere := a_p0_isThere) (a_p0_isThereThen := a_p0_isThereThen) (a_p0_bestRow := a_p0_bestRow) (a_p0_lanes := a_p0_lanes) (a_p0_sizes := a_p0_sizes) (a_p0_cells := a_p0_cells) (i_p0_seats := i_p0_seats) (i_p0_stirs := i_p0_stirs) (i_p0_dSeats := i_p0_dSeats) (i_p0_dStirs := i_p0_dStirs) (i_p0_told := i_p0_told) (i_p0_highest := i_p0_highest) (i_p0_taped := i_p0_taped) (i_p0_pos := i_p0_pos) (i_p0_from := i_p0_from) (i_p0_sort := i_p0_sort) (i_p0_value := i_p0_value) (i_p0_fault := i_p0_fault) (i_p0_wrongAt := i_p0_wrongAt) (i_p0_torn := i_p0_torn) (v_p0_st := v_p0_st) (v_p0_brings := v_p0_brings) (v_p0_places := w24) (x1 := z17) (x2 := z23) (r := z26) (o_v_p0_places := w27) (hf := hcall)) (cwV 2 hts gX12_raise_X12_then rfl rfl rfl hdV_yX12_then_RX12 ⟨Nat.le_of_ble_eq_true rfl, Nat.le_of_ble_eq_true rfl⟩) (preG_V (ci := 12) (q := (RX12, TX12, 37)) (hP.sub [0, 1, 2, 3] rfl) (hD.sub [0, 1, 2, 3] rfl rfl) hK rfl rfl) rfl rfl hl.1 rfl (lv_room (Nat.le_of_ble_eq_true rfl)) dX12_raise_160 ⟨Nat.le_of_ble_eq_true rfl, Nat.le_of_ble_eq_true rfl⟩) hP hD hS hA [0, 1, 2, 3] rfl rfl rfl (fun H locs hP hD hS => ?_)
                      clear hcall
                      refine z_topi (fun z28 ez => ?_)
                      replace hf := bnd_s hf ez
                      clear ez
                      refine lv_istore_n (lv' := [(3, .int (Int32.ofInt z28)), (5, .int (Int32.ofInt z23)), (6, .int (Int32.ofInt z15)), (0, .ref a_p0), (2, .int (Int32.ofInt x2))]) hx hb dX12_raise_163 rfl hl (by decide) rfl (fun ls hl => ?_)
                      obtain ⟨z29, ez⟩ : ∃ y : Int, y = (z15 + (1 : Int)) := ⟨_, rfl⟩
                      replace hf := bnd_s hf ez
                      refine lv_iinc (v := Int32.ofInt z29) (lv' := [(6, .int (Int32.ofInt z29)), (3, .int (Int32.ofInt z28)), (5, .int (Int32.ofInt z23)), (0, .ref a_p0), (2, .int (Int32.ofInt x2))]) hx hb dX12_raise_164 hl (k := 2) rfl (by rw [ez]; exact (Int32.ofInt_add _ _).symm) (by decide) rfl (fun ls hl => ?_)
                      clear ez
                      refine lv_goto (tgt := 92) hx hb dX12_raise_167 (by decide) ?_
                      exact ih92 _ _ _ _ _ _ _ (lv_sub hl [0, 2, 1, 3, 4] rfl) hP hD hS hf
                    have hq := lq3_i hf
                    clear hf
                    obtain ⟨B33, eB33, NB33, hf⟩ := hq
                    have hB33 : ∀ (n : Nat) (z30 : Int) (z31 : Int) (w32 : (Int → Int)) (ls : Array Slot) (H : Heap) (locs : List Loc), lv_has ls 8 [(7, .int (Int32.ofInt z30)), (5, .int (Int32.ofInt z31)), (6, .int (Int32.ofInt z15)), (3, .int (Int32.ofInt z17)), (0, .ref a_p0), (2, .int (Int32.ofInt x2))] → va_P D vwCl [(a_p0, .inr (12, [.ref a_p0_st, .ref a_p0_isKept, .int (Int32.ofInt i_p0_seats), .int (Int32.ofInt i_p0_stirs), .ref a_p0_brings, .ref a_p0_need, .ref a_p0_draft, .int (Int32.ofInt i_p0_dSeats), .int (Int32.ofInt i_p0_dStirs), .ref a_p0_dStir, .ref a_p0_dNeed, .int (Int32.ofInt i_p0_told), .int (Int32.ofInt i_p0_highest), .ref a_p0_tape, .int (Int32.ofInt i_p0_taped), .int (Int32.ofInt i_p0_pos), .int (Int32.ofInt i_p0_from), .int (Int32.ofInt i_p0_sort), .int (Int32.ofInt i_p0_value), .int (Int32.ofInt i_p0_fault), .int (Int32.ofInt i_p0_wrongAt), .ref a_p0_places, .ref a_p0_stirred, .ref a_p0_ways, .ref a_p0_waysThen, .ref a_p0_stays, .ref a_p0_fewest, .ref a_p0_bowls, .ref a_p0_has, .ref a_p0_goesOn, .ref a_p0_isThere, .ref a_p0_isThereThen, .ref a_p0_bestRow, .ref a_p0_lanes, .ref a_p0_sizes, .ref a_p0_cells, .int (Int32.ofInt i_p0_torn)])), (a_p0_st, .inl (G 1, 152, .inl (zA v_p0_st))), (a_p0_brings, .inl (G 1, 35, .inl (zA v_p0_brings))), (a_p0_places, .inl (G 1, 7, .inl (zA w32))), (a_p0_fewest, .inl (G 1, 49, .inl (zA w7)))] H → va_D A [(a_p0, .inr (12, [.ref a_p0_st, .ref a_p0_isKept, .int (Int32.ofInt i_p0_seats), .int (Int32.ofInt i_p0_stirs), .ref a_p0_brings, .ref a_p0_need, .ref a_p0_draft, .int (Int32.ofInt i_p0_dSeats), .int (Int32.ofInt i_p0_dStirs), .ref a_p0_dStir, .ref a_p0_dNeed, .int (Int32.ofInt i_p0_told), .int (Int32.ofInt i_p0_highest), .ref a_p0_tape, .int (Int32.ofInt i_p0_taped), .int (Int32.ofInt i_p0_pos), .int (Int32.ofInt i_p0_from), .int (Int32.ofInt i_p0_sort), .int (Int32.ofInt i_p0_value), .int (Int32.ofInt i_p0_fault), .int (Int32.ofInt i_p0_wrongAt), .ref a_p0_places, .ref a_p0_stirred, .ref a_p0_ways, .ref a_p0_waysThen, .ref a_p0_stays, .ref a_p0_fewest, .ref a_p0_bowls, .ref a_p0_has, .ref a_p0_goesOn, .ref a_p0_isThere, .ref a_p0_isThereThen, .ref a_p0_bestRow, .ref a_p0_lanes, .ref a_p0_sizes, .ref a_p0_cells, .int (Int32.ofInt i_p0_torn)])), (a_p0_st, .inl (G 1, 152, .inl (zA v_p0_st))), (a_p0_brings, .inl (G 1, 35, .inl (zA v_p0_brings))), (a_p0_places, .inl (G 1, 7, .inl (zA w32))), (a_p0_fewest, .inl (G 1, 49, .inl (zA w7)))] → va_S A s.heap H locs → lq3 B33 n z30 z31 w32 = some (r, o_v_p0_places, o_v_p0_fewest) → W p l e rm_X12_raise s m ([.ref a_p0, .int (Int32.ofInt x1), .int (Int32.ofInt x2)] : List Value).toArray below meth c H locs 0 0 Q (F0 m 113 ls []) := by
                      clear hf hl hP hD hS
                      intro n
                      induction n with
                      | zero =>
                        intro z30 z31 w32 ls H locs hl hP hD hS hf
                        exact (lq3_0 hf).elim
                      | succ n ih113 =>
                        intro z30 z31 w32 ls H locs hl hP hD hS hf
                        replace hf := lq3_s eB33 hf
                        unfold B_X12_raise_113 at hf
                        refine lv_iload hx hb dX12_raise_113 (lv_at hl 0 rfl) ?_
                        have hr33 := ck_c hf
                        replace hf := ck_r hf
                        refine lv_if_lt (tgt := 156) hx hb dX12_raise_115 (by decide) (fun cc => ?_) (fun cc => ?_)
                        ·
                          replace hf := ite_t ((z_lt0 hr33).mp cc) hf
                          clear cc
                          exact hJ25 _ _ _ _ _ (lv_sub hl [1, 2, 3, 4, 5] rfl) hP hD hS hf
                        ·
                          replace hf := ite_f (fun h9 => cc ((z_lt0 hr33).mpr h9)) hf
                          clear cc
                          refine lv_aload_n hx hb dX12_raise_118 rfl (lv_at hl 4 rfl) ?_
                          refine va_get (D := D) (ci := 12) (v := .ref a_p0_fewest) (C := RX12) (T := TX12) (N := 37) hx hb hts inX12_raise_X12 hown hK hP 0 rfl rfl 26 (by decide) (hts _ mwX12_raise_3) (fun _ h9 => h9) rfl dX12_raise_119 ?_
                          refine lv_aload_n hx hb dX12_raise_122 rfl (lv_at hl 4 rfl) ?_
                          refine lv_iload_n hx hb dX12_raise_123 rfl (lv_at hl 3 rfl) ?_
                          refine lv_iload hx hb dX12_raise_124 (lv_at hl 0 rfl) ?_
                          have hq := bd2_s hf
                          clear hf
                          obtain ⟨z35, w36, hcall, hf⟩ := hq
                          refine gsI (ws' := [(a_p0, .inr (12, [.ref a_p0_st, .ref a_p0_isKept, .int (Int32.ofInt i_p0_seats), .int (Int32.ofInt i_p0_stirs), .ref a_p0_brings, .ref a_p0_need, .ref a_p0_draft, .int (Int32.ofInt i_p0_dSeats), .int (Int32.ofInt i_p0_dStirs), .ref a_p0_dStir, .ref a_p0_dNeed, .int (Int32.ofInt i_p0_told), .int (Int32.ofInt i_p0_highest), .ref a_p0_tape, .int (Int32.ofInt i_p0_taped), .int (Int32.ofInt i_p0_pos), .int (Int32.ofInt i_p0_from), .int (Int32.ofInt i_p0_sort), .int (Int32.ofInt i_p0_value), .int (Int32.ofInt i_p0_fault), .int (Int32.ofInt i_p0_wrongAt), .ref a_p0_places, .ref a_p0_stirred, .ref a_p0_ways, .ref a_p0_waysThen, .ref a_p0_stays, .ref a_p0_fewest, .ref a_p0_bowls, .ref a_p0_has, .ref a_p0_goesOn, .ref a_p0_isThere, .ref a_p0_isThereThen, .ref a_p0_bestRow, .ref a_p0_lanes, .ref a_p0_sizes, .ref a_p0_cells, .int (Int32.ofInt i_p0_torn)])), (a_p0_st, .inl (G 1, 152, .inl (zA v_p0_st))), (a_p0_brings, .inl (G 1, 35, .inl (zA v_p0_brings))), (a_p0_places, .inl (G 1, 7, .inl (zA w36))), (a_p0_fewest, .inl (G 1, 49, .inl (zA w7)))]) (va_runV (As := [.int (Int32.ofInt z17), .int (Int32.ofInt z30)]) (rest := [.ref a_p0_fewest]) ⟨hx, hb, hml, hown, hts⟩ (c_X12_then (l := l) (D := D) (G := G) (sz := H.size) (a_p0 := a_p0) (a_p0_st := a_p0_st) (a_p0_isKept := a_p0_isKept) (a_p0_brings := a_p0_brings) (a_p0_need := a_p0_need) (a_p0_draft := a_p0_draft) (a_p0_dStir := a_p0_dStir) (a_p0_dNeed := a_p0_dNeed) (a_p0_tape := a_p0_tape) (a_p0_places := a_p0_places) (a_p0_stirred := a_p0_stirred) (a_p0_ways := a_p0_ways) (a_p0_waysThen := a_p0_waysThen) (a_p0_stays := a_p0_stays) (a_p0_fewest := a_p0_fewest) (a_p0_bowls := a_p0_bowls) (a_p0_has := a_p0_has) (a_p0_goesOn := a_p0_goesOn) (a_p0_isThere := a_p0_isThere) (a_p0_isThereThen := a_p0_isThereThen) (a_p0_bestRow := a_p0_bestRow) (a_p0_lanes := a_p0_lanes) (a_p0_sizes := a_p0_sizes) (a_p0_cells := a_p0_cells) (i_p0_seats := i_p0_seats) (i_p0_stirs := i_p0_stirs) (i_p0_dSeats := i_p0_dSeats) (i_p0_dStirs := i_p0_dStirs) (i_p0_told := i_p0_told) (i_p0_highest := i_p0_highest) (i_p0_taped := i_p0_taped) (i_p0_pos := i_p0_pos) (i_p0_from := i_p0_from) (i_p0_sort := i_p0_sort) (i_p0_value := i_p0_value) (i_p0_fault := i_p0_fault) (i_p0_wrongAt := i_p0_wrongAt) (i_p0_torn := i_p0_torn) (v_p0_st := v_p0_st) (v_p0_brings := v_p0_brings) (v_p0_places := w32) (x1 := z17) (x2 := z30) (r := z35) (o_v_p0_places := w36) (hf := hcall)) (cwV 2 hts gX12_raise_X12_then rfl rfl rfl hdV_yX12_then_RX12 ⟨Nat.le_of_ble_eq_true rfl, Nat.le_of_ble_eq_true rfl⟩) (preG_V (ci := 12) (q := (RX12, TX12, 37)) (hP.sub [0, 1, 2, 3] rfl) (hD.sub [0, 1, 2, 3] rfl rfl) hK rfl rfl) rfl rfl hl.1 rfl (lv_room (Nat.le_of_ble_eq_true rfl)) dX12_raise_126 ⟨Nat.le_of_ble_eq_true rfl, Nat.le_of_ble_eq_true rfl⟩) hP hD hS hA [0, 1, 2, 3] rfl rfl rfl (fun H locs hP hD hS => ?_)
                          clear hcall
                          have hc := ck_c hf
                          replace hf := ck_r hf
                          refine va_iald hx hb hK hP 4 1 rfl rfl (z_ix_in hc) dX12_raise_129 (z_ci (z_ald w7 hc) ?_)
                          clear hc
                          refine lv_iconst (v := Int32.ofInt (1 : Int)) hx hb dX12_raise_130 (by decide) ?_
                          refine lv_iadd hx hb dX12_raise_131 (z_ci (Int32.ofInt_add (w7 z35) (1 : Int)) ?_)
                          refine lv_aload_n hx hb dX12_raise_132 rfl (lv_at hl 4 rfl) ?_
                          refine va_get (D := D) (ci := 12) (v := .ref a_p0_fewest) (C := RX12) (T := TX12) (N := 37) hx hb hts inX12_raise_X12 hown hK hP 0 rfl rfl 26 (by decide) (hts _ mwX12_raise_3) (fun _ h9 => h9) rfl dX12_raise_133 ?_
                          refine lv_iload_n hx hb dX12_raise_136 rfl (lv_at hl 3 rfl) ?_
                          have hc := ck_c hf
                          replace hf := ck_r hf
                          refine va_iald hx hb hK hP 4 1 rfl rfl (z_ix_in hc) dX12_raise_137 (z_ci (z_ald w7 hc) ?_)
                          clear hc
                          have hr36 := ck_c hf
                          replace hf := ck_r hf
                          have hr37 := ck_c hf
                          replace hf := ck_r hf
                          refine lv_icmp_ne (tgt := 146) hx hb dX12_raise_138 (by decide) (fun cc => ?_) (fun cc => ?_)
                          ·
                            replace hf := ite_f (fun h9 => cc ((z_eq hr36 hr37).mpr h9)) hf
                            clear cc
                            refine lv_iload hx hb dX12_raise_146 (lv_at hl 1 rfl) ?_
                            refine z_topi (fun z39 ez => ?_)
                            replace hf := bnd_s hf ez
                            clear ez
                            refine lv_istore (lv' := [(5, .int (Int32.ofInt z39)), (7, .int (Int32.ofInt z30)), (6, .int (Int32.ofInt z15)), (3, .int (Int32.ofInt z17)), (0, .ref a_p0), (2, .int (Int32.ofInt x2))]) hx hb dX12_raise_148 hl (by decide) rfl (fun ls hl => ?_)
                            obtain ⟨z40, ez⟩ : ∃ y : Int, y = (z30 + (-1 : Int)) := ⟨_, rfl⟩
                            replace hf := bnd_s hf ez
                            refine lv_iinc (v := Int32.ofInt z40) (lv' := [(7, .int (Int32.ofInt z40)), (5, .int (Int32.ofInt z39)), (6, .int (Int32.ofInt z15)), (3, .int (Int32.ofInt z17)), (0, .ref a_p0), (2, .int (Int32.ofInt x2))]) hx hb dX12_raise_150 hl (k := 1) rfl (by rw [ez]; exact (Int32.ofInt_add _ _).symm) (by decide) rfl (fun ls hl => ?_)
                            clear ez
                            refine lv_goto (tgt := 113) hx hb dX12_raise_153 (by decide) ?_
                            exact ih113 _ _ _ _ _ _ (lv_sub hl [0, 1, 2, 3, 4, 5] rfl) hP hD hS hf
                          ·
                            replace hf := ite_t ((z_eq hr36 hr37).mp cc) hf
                            clear cc
                            refine lv_iload hx hb dX12_raise_141 (lv_at hl 0 rfl) ?_
                            refine lv_goto (tgt := 148) hx hb dX12_raise_143 (by decide) ?_
                            refine z_topi (fun z41 ez => ?_)
                            replace hf := bnd_s hf ez
                            clear ez
                            refine lv_istore (lv' := [(5, .int (Int32.ofInt z41)), (7, .int (Int32.ofInt z30)), (6, .int (Int32.ofInt z15)), (3, .int (Int32.ofInt z17)), (0, .ref a_p0), (2, .int (Int32.ofInt x2))]) hx hb dX12_raise_148 hl (by decide) rfl (fun ls hl => ?_)
                            obtain ⟨z42, ez⟩ : ∃ y : Int, y = (z30 + (-1 : Int)) := ⟨_, rfl⟩
                            replace hf := bnd_s hf ez
                            refine lv_iinc (v := Int32.ofInt z42) (lv' := [(7, .int (Int32.ofInt z42)), (5, .int (Int32.ofInt z41)), (6, .int (Int32.ofInt z15)), (3, .int (Int32.ofInt z17)), (0, .ref a_p0), (2, .int (Int32.ofInt x2))]) hx hb dX12_raise_150 hl (k := 1) rfl (by rw [ez]; exact (Int32.ofInt_add _ _).symm) (by decide) rfl (fun ls hl => ?_)
                            clear ez
                            refine lv_goto (tgt := 113) hx hb dX12_raise_153 (by decide) ?_
                            exact ih113 _ _ _ _ _ _ (lv_sub hl [0, 1, 2, 3, 4, 5] rfl) hP hD hS hf
                    exact hB33 _ _ _ _ _ _ _ (lv_sub hl [0, 1, 2, 3, 4, 5] rfl) hP hD hS hf
              exact hB19 _ _ _ _ _ _ _ _ (lv_sub hl [0, 1, 3, 4, 6] rfl) hP hD hS hf
            ·
              replace hf := ite_f (fun h9 => cc ((z_lt hr11 hr10).mpr h9)) hf
              clear cc
              refine lv_bipush (v := Int32.ofInt (-4 : Int)) hx hb dX12_raise_82 (by decide) ?_
              obtain ⟨rfl, rfl, rfl⟩ := ou3 hf
              rw [hQ]
              exact W.iret hx hb hr (fun t ht hW => ⟨⟨_, (), rfl, rfl, by rw [ht]; exact hP, va_K.moved hW.alike hK, hD⟩, hS.F ht⟩) hS.2.2 dX12_raise_84
          ·
            replace hf := ite_t ((z_eq0 hr2).mp cc) hf
            clear cc
            refine lv_iload hx hb dX12_raise_70 (lv_at hl 0 rfl) ?_
            obtain ⟨rfl, rfl, rfl⟩ := ou3 hf
            rw [hQ]
            exact W.iret hx hb hr (fun t ht hW => ⟨⟨_, (), rfl, rfl, by rw [ht]; exact hP, va_K.moved hW.alike hK, hD⟩, hS.F ht⟩) hS.2.2 dX12_raise_72
        ·
          replace hf := ite_f (fun h9 => cc ((z_le hr10 (by decide)).mpr h9)) hf
          clear cc
          refine lv_bipush (v := Int32.ofInt (-4 : Int)) hx hb dX12_raise_63 (by decide) ?_
          obtain ⟨rfl, rfl, rfl⟩ := ou3 hf
          rw [hQ]
          exact W.iret hx hb hr (fun t ht hW => ⟨⟨_, (), rfl, rfl, by rw [ht]; exact hP, va_K.moved hW.alike hK, hD⟩, hS.F ht⟩) hS.2.2 dX12_raise_65
      ·
        replace hf := ite_t ((z_eq0 hr4).mp cc) hf
        clear cc
        refine lv_bipush (v := Int32.ofInt (-2 : Int)) hx hb dX12_raise_35 (by decide) ?_
        obtain ⟨rfl, rfl, rfl⟩ := ou3 hf
        rw [hQ]
        exact W.iret hx hb hr (fun t ht hW => ⟨⟨_, (), rfl, rfl, by rw [ht]; exact hP, va_K.moved hW.alike hK, hD⟩, hS.F ht⟩) hS.2.2 dX12_raise_37
    refine lv_if_eq (tgt := 28) hx hb dX12_raise_9 (by decide) (fun cc => ?_) (fun cc => ?_)
    ·
      replace hf := ite_t ((z_eq0 hr2).mp cc) hf
      clear cc
      exact hJ4  _ _ _ (lv_sub hl [0, 1, 2] rfl) hP hD hS hf
    ·
      replace hf := ite_f (fun h9 => cc ((z_eq0 hr2).mpr h9)) hf
      clear cc
      refine lv_iload_n hx hb dX12_raise_12 rfl (lv_at hl 2 rfl) ?_
      refine lv_i2l (v := Int64.ofInt x2) hx hb dX12_raise_13 (z_i2l hr2) ?_
      refine lv_ldc2 (v := (10 : Int64)) hx hb hown (hts _ mwX12_raise_4) dX12_raise_14 (z_cl (show Int64.ofInt (10 : Int) = _ from by decide) ?_)
      refine lv_ldc2 (v := (19 : Int64)) hx hb hown (hts _ mwX12_raise_5) dX12_raise_17 (z_cl (show Int64.ofInt (19 : Int) = _ from by decide) ?_)
      have hq := bd1_s hf
      clear hf
      obtain ⟨z43, hcall, hf⟩ := hq
      refine gnI (va_runS (As := [.long (Int64.ofInt x2), .long (Int64.ofInt (10 : Int)), .long (Int64.ofInt (19 : Int))]) (rest := []) ⟨hx, hb, hml, hown, hts⟩ (c_X12_in (l := l) (D := D) (G := G) (sz := H.size) (x0 := x2) (x2 := (10 : Int)) (x4 := (19 : Int)) (r := z43) (hf := hcall)) (va_cwS 3 hts gX12_raise_X12_in rfl rfl rfl (by decide +kernel) ⟨Nat.le_of_ble_eq_true rfl, Nat.le_of_ble_eq_true rfl⟩) (preG_S (hP.sub [] rfl) (hD.sub [] rfl rfl) hK) rfl rfl hl.1 rfl (lv_room (Nat.le_of_ble_eq_true rfl)) dX12_raise_20 ⟨Nat.le_of_ble_eq_true rfl, Nat.le_of_ble_eq_true rfl⟩) hP hD hS hA [] rfl (fun H locs hP hD hS => ?_)
      clear hcall
      have hr43 := ck_c hf
      replace hf := ck_r hf
      refine lv_if_ne (tgt := 28) hx hb dX12_raise_23 (by decide) (fun cc => ?_) (fun cc => ?_)
      ·
        replace hf := ite_f (fun h9 => cc ((z_eq0 hr43).mpr h9)) hf
        clear cc
        exact hJ4  _ _ _ (lv_sub hl [0, 1, 2] rfl) hP hD hS hf
      ·
        replace hf := ite_t ((z_eq0 hr43).mp cc) hf
        clear cc
        refine lv_iconst (v := Int32.ofInt (-1 : Int)) hx hb dX12_raise_26 (by decide) ?_
        obtain ⟨rfl, rfl, rfl⟩ := ou3 hf
        rw [hQ]
        exact W.iret hx hb hr (fun t ht hW => ⟨⟨_, (), rfl, rfl, by rw [ht]; exact hP, va_K.moved hW.alike hK, hD⟩, hS.F ht⟩) hS.2.2 dX12_raise_27
