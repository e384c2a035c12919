noncomputable def f_X12_fault (i_p0_fault : Int) : Option (Int) := (some i_p0_fault)
abbrev rm_X12_fault : Room := { frames := 0, cells := 0, slots := 0, locals := 0 }
theorem inX12_fault_X12 : ∀ w ∈ wsX120, w ∈ wsX12_fault := by first | exact fun w h => List.mem_cons_of_mem _ (List.mem_append_right _ h) | decide +kernel
theorem mwX12_fault_1 : Cond.fieldLink RX12 119 "LadleKingsModel" "fault" "I" ∈ wsX12_fault := by first | exact List.mem_of_getElem? (i := 1) rfl | decide +kernel
set_option maxHeartbeats 8000000 in
set_option maxRecDepth 100000 in
theorem c_X12_fault (l : Launch) (D : va_G) (G : Nat → ClassId) (sz : Nat) (a_p0 : Nat) (a_p0_st : Nat) (a_p0_isKept : Nat) (a_p0_brings : Nat) (a_p0_need : Nat) (a_p0_draft : Nat) (a_p0_dStir : Nat) (a_p0_dNeed : Nat) (a_p0_tape : Nat) (a_p0_places : Nat) (a_p0_stirred : Nat) (a_p0_ways : Nat) (a_p0_waysThen : Nat) (a_p0_stays : Nat) (a_p0_fewest : Nat) (a_p0_bowls : Nat) (a_p0_has : Nat) (a_p0_goesOn : Nat) (a_p0_isThere : Nat) (a_p0_isThereThen : Nat) (a_p0_bestRow : Nat) (a_p0_lanes : Nat) (a_p0_sizes : Nat) (a_p0_cells : Nat) (i_p0_seats : Int) (i_p0_stirs : Int) (i_p0_dSeats : Int) (i_p0_dStirs : Int) (i_p0_told : Int) (i_p0_highest : Int) (i_p0_taped : Int) (i_p0_pos : Int) (i_p0_from : Int) (i_p0_sort : Int) (i_p0_value : Int) (i_p0_fault : Int) (i_p0_wrongAt : Int) (i_p0_torn : Int) (r : Int) (hf : f_X12_fault i_p0_fault = some r) : Met l yX12_fault wsX12_fault rm_X12_fault (pcG D G [.ref a_p0] sz [(a_p0, .inr (12, [.ref a_p0_st, .ref a_p0_isKept, .int (Int32.ofInt i_p0_seats), .int (Int32.ofInt i_p0_stirs), .ref a_p0_brings, .ref a_p0_need, .ref a_p0_draft, .int (Int32.ofInt i_p0_dSeats), .int (Int32.ofInt i_p0_dStirs), .ref a_p0_dStir, .ref a_p0_dNeed, .int (Int32.ofInt i_p0_told), .int (Int32.ofInt i_p0_highest), .ref a_p0_tape, .int (Int32.ofInt i_p0_taped), .int (Int32.ofInt i_p0_pos), .int (Int32.ofInt i_p0_from), .int (Int32.ofInt i_p0_sort), .int (Int32.ofInt i_p0_value), .int (Int32.ofInt i_p0_fault), .int (Int32.ofInt i_p0_wrongAt), .ref a_p0_places, .ref a_p0_stirred, .ref a_p0_ways, .ref a_p0_waysThen, .ref a_p0_stays, .ref a_p0_fewest, .ref a_p0_bowls, .ref a_p0_has, .ref a_p0_goesOn, .ref a_p0_isThere, .ref a_p0_isThereThen, .ref a_p0_bestRow, .ref a_p0_lanes, .ref a_p0_sizes, .ref a_p0_cells, .int (Int32.ofInt i_p0_torn)]))]) (qcI D G (Int32.ofInt r) [(a_p0, .inr (12, [.ref a_p0_st, .ref a_p0_isKept, .int (Int32.ofInt i_p0_seats), .int (Int32.ofInt i_p0_stirs), .ref a_p0_brings, .ref a_p0_need, .ref a_p0_draft, .int (Int32.ofInt i_p0_dSeats), .int (Int32.ofInt i_p0_dStirs), .ref a_p0_dStir, .ref a_p0_dNeed, .int (Int32.ofInt i_p0_told), .int (Int32.ofInt i_p0_highest), .ref a_p0_tape, .int (Int32.ofInt i_p0_taped), .int (Int32.ofInt i_p0_pos), .int (Int32.ofInt i_p0_from), .int (Int32.ofInt i_p0_sort), .int (Int32.ofInt i_p0_value), .int (Int32.ofInt i_p0_fault), .int (Int32.ofInt i_p0_wrongAt), .ref a_p0_places, .ref a_p0_stirred, .ref a_p0_ways, .ref a_p0_waysThen, .ref a_p0_stays, .ref a_p0_fewest, .ref a_p0_bowls, .ref a_p0_has, .ref a_p0_goesOn, .ref a_p0_isThere, .ref a_p0_isThereThen, .ref a_p0_bestRow, .ref a_p0_lanes, .ref a_p0_sizes, .ref a_p0_cells, .int (Int32.ofInt i_p0_torn)]))] (va_A [(a_p0, .inr (12, [.ref a_p0_st, .ref a_p0_isKept, .int (Int32.ofInt i_p0_seats), .int (Int32.ofInt i_p0_stirs), .ref a_p0_brings, .ref a_p0_need, .ref a_p0_draft, .int (Int32.ofInt i_p0_dSeats), .int (Int32.ofInt i_p0_dStirs), .ref a_p0_dStir, .ref a_p0_dNeed, .int (Int32.ofInt i_p0_told), .int (Int32.ofInt i_p0_highest), .ref a_p0_tape, .int (Int32.ofInt i_p0_taped), .int (Int32.ofInt i_p0_pos), .int (Int32.ofInt i_p0_from), .int (Int32.ofInt i_p0_sort), .int (Int32.ofInt i_p0_value), .int (Int32.ofInt i_p0_fault), .int (Int32.ofInt i_p0_wrongAt), .ref a_p0_places, .ref a_p0_stirred, .ref a_p0_ways, .ref a_p0_waysThen, .ref a_p0_stays, .ref a_p0_fewest, .ref a_p0_bowls, .ref a_p0_has, .ref a_p0_goesOn, .ref a_p0_isThere, .ref a_p0_isThereThen, .ref a_p0_bestRow, .ref a_p0_lanes, .ref a_p0_sizes, .ref a_p0_cells, .int (Int32.ofInt i_p0_torn)]))] sz)) 0 0 (va_A [(a_p0, .inr (12, [.ref a_p0_st, .ref a_p0_isKept, .int (Int32.ofInt i_p0_seats), .int (Int32.ofInt i_p0_stirs), .ref a_p0_brings, .ref a_p0_need, .ref a_p0_draft, .int (Int32.ofInt i_p0_dSeats), .int (Int32.ofInt i_p0_dStirs), .ref a_p0_dStir, .ref a_p0_dNeed, .int (Int32.ofInt i_p0_told), .int (Int32.ofInt i_p0_highest), .ref a_p0_tape, .int (Int32.ofInt i_p0_taped), .int (Int32.ofInt i_p0_pos), .int (Int32.ofInt i_p0_from), .int (Int32.ofInt i_p0_sort), .int (Int32.ofInt i_p0_value), .int (Int32.ofInt i_p0_fault), .int (Int32.ofInt i_p0_wrongAt), .ref a_p0_places, .ref a_p0_stirred, .ref a_p0_ways, .ref a_p0_waysThen, .ref a_p0_stays, .ref a_p0_fewest, .ref a_p0_bowls, .ref a_p0_has, .ref a_p0_goesOn, .ref a_p0_isThere, .ref a_p0_isThereThen, .ref a_p0_bestRow, .ref a_p0_lanes, .ref a_p0_sizes, .ref a_p0_cells, .int (Int32.ofInt i_p0_torn)]))] sz) := by
  refine Met.ofW (cc := cX12_fault) (maxL := 1) (ret := (some .int)) (by decide) rfl ?_
  intro p e s m args below meth c s₁ B hml hv
  obtain ⟨rfl, hsz, hP, hK, hD0⟩ := hv
  have hx := B.exec
  have hb := B.bytes
  have hr := B.returns
  have hts := atoms_spec (ws := wsX12_fault) B.pre
  have hown : s.vm.findClass RX12 = some m.cls := findClass_of_methodNamed B.named
  have hlocks := B.notSynchronized
  subst hsz
  have hD := hD0.self (sz := s.heap.size)
  generalize hAe : va_A [(a_p0, .inr (12, [.ref a_p0_st, .ref a_p0_isKept, .int (Int32.ofInt i_p0_seats), .int (Int32.ofInt i_p0_stirs), .ref a_p0_brings, .ref a_p0_need, .ref a_p0_draft, .int (Int32.ofInt i_p0_dSeats), .int (Int32.ofInt i_p0_dStirs), .ref a_p0_dStir, .ref a_p0_dNeed, .int (Int32.ofInt i_p0_told), .int (Int32.ofInt i_p0_highest), .ref a_p0_tape, .int (Int32.ofInt i_p0_taped), .int (Int32.ofInt i_p0_pos), .int (Int32.ofInt i_p0_from), .int (Int32.ofInt i_p0_sort), .int (Int32.ofInt i_p0_value), .int (Int32.ofInt i_p0_fault), .int (Int32.ofInt i_p0_wrongAt), .ref a_p0_places, .ref a_p0_stirred, .ref a_p0_ways, .ref a_p0_waysThen, .ref a_p0_stays, .ref a_p0_fewest, .ref a_p0_bowls, .ref a_p0_has, .ref a_p0_goesOn, .ref a_p0_isThere, .ref a_p0_isThereThen, .ref a_p0_bestRow, .ref a_p0_lanes, .ref a_p0_sizes, .ref a_p0_cells, .int (Int32.ofInt i_p0_torn)]))] s.heap.size = A at hD ⊢
  have hA : ∀ q : Nat, s.heap.size ≤ q → A q := fun q h => by rw [← hAe]; exact Or.inr h
  clear hAe hD0
  have hS : va_S A s.heap s.heap [] := va_S.rf
  have hl := lv_entry ([.ref a_p0]) (n := 1) (Nat.le_of_ble_eq_true rfl)
  rw [lg_entry_eq]
  generalize (lg_sl ([.ref a_p0]) ++ List.replicate (1 - (lg_sl ([.ref a_p0])).length) Slot.unset).toArray = ls at hl ⊢
  have hl : lv_has ls 1 [(0, .ref a_p0)] := hl
  refine W_nameQ (fun Q hQ => ?_)
  obtain ⟨H, hH⟩ : ∃ H, H = s.heap := ⟨_, rfl⟩
  replace hS : va_S A s.heap H [] := by rw [hH]; exact hS
  replace hP : va_P D vwCl [(a_p0, .inr (12, [.ref a_p0_st, .ref a_p0_isKept, .int (Int32.ofInt i_p0_seats), .int (Int32.ofInt i_p0_stirs), .ref a_p0_brings, .ref a_p0_need, .ref a_p0_draft, .int (Int32.ofInt i_p0_dSeats), .int (Int32.ofInt i_p0_dStirs), .ref a_p0_dStir, .ref a_p0_dNeed, .int (Int32.ofInt i_p0_told), .int (Int32.ofInt i_p0_highest), .ref a_p0_tape, .int (Int32.ofInt i_p0_taped), .int (Int32.ofInt i_p0_pos), .int (Int32.ofInt i_p0_from), .int (Int32.ofInt i_p0_sort), .int (Int32.ofInt i_p0_value), .int (Int32.ofInt i_p0_fault), .int (Int32.ofInt i_p0_wrongAt), .ref a_p0_places, .ref a_p0_stirred, .ref a_p0_ways, .ref a_p0_waysThen, .ref a_p0_stays, .ref a_p0_fewest, .ref a_p0_bowls, .ref a_p0_has, .ref a_p0_goesOn, .ref a_p0_isThere, .ref a_p0_isThereThen, .ref a_p0_bestRow, .ref a_p0_lanes, .ref a_p0_sizes, .ref a_p0_cells, .int (Int32.ofInt i_p0_torn)]))] H := by rw [hH]; exact hP
  rw [← hH]
  clear hH
  unfold f_X12_fault at hf
  refine lv_aload_n hx hb dX12_fault_0 rfl (lv_at hl 0 rfl) ?_
  refine va_get (D := D) (ci := 12) (v := .int (Int32.ofInt i_p0_fault)) (C := RX12) (T := TX12) (N := 37) hx hb hts inX12_fault_X12 hown hK hP 0 rfl rfl 19 (by decide) (hts _ mwX12_fault_1) (fun _ h9 => h9) rfl dX12_fault_1 ?_
  obtain rfl := ou1 hf
  rw [hQ]
  exact W.iret hx hb hr (fun t ht hW => ⟨⟨_, (), rfl, rfl, by rw [ht]; exact hP, va_K.moved hW.alike hK, hD⟩, hS.F ht⟩) hS.2.2 dX12_fault_4

noncomputable def f_X12_isSeat (i_p0_seats : Int) (x1 : Int) : Option (Int) := (ck (z_r32 x1) (ck (z_r32 (i_p0_seats - (1 : Int))) (bd1 (f_X12_in x1 (0 : Int) (i_p0_seats - (1 : Int))) (fun (z3 : Int) => (ck (z_bB z3) (some z3))))))
abbrev rm_X12_isSeat : Room := { frames := 1, cells := 0, slots := 0, locals := 25 }
theorem inX12_isSeat_X12 : ∀ w ∈ wsX120, w ∈ wsX12_isSeat := by first | exact fun w h => List.mem_cons_of_mem _ (List.mem_append_right _ h) | decide +kernel
theorem mwX12_isSeat_1 : Cond.fieldLink RX12 100 "LadleKingsModel" "seats" "I" ∈ wsX12_isSeat := by first | exact List.mem_of_getElem? (i := 1) rfl | decide +kernel
set_option maxHeartbeats 8000000 in
set_option maxRecDepth 100000 in
theorem c_X12_isSeat (l : Launch) (D : va_G) (G : Nat → ClassId) (sz : Nat) (a_p0 : Nat) (a_p0_st : Nat) (a_p0_isKept : Nat) (a_p0_brings : Nat) (a_p0_need : Nat) (a_p0_draft : Nat) (a_p0_dStir : Nat) (a_p0_dNeed : Nat) (a_p0_tape : Nat) (a_p0_places : Nat) (a_p0_stirred : Nat) (a_p0_ways : Nat) (a_p0_waysThen : Nat) (a_p0_stays : Nat) (a_p0_fewest : Nat) (a_p0_bowls : Nat) (a_p0_has : Nat) (a_p0_goesOn : Nat) (a_p0_isThere : Nat) (a_p0_isThereThen : Nat) (a_p0_bestRow : Nat) (a_p0_lanes : Nat) (a_p0_sizes : Nat) (a_p0_cells : Nat) (i_p0_seats : Int) (i_p0_stirs : Int) (i_p0_dSeats : Int) (i_p0_dStirs : Int) (i_p0_told : Int) (i_p0_highest : Int) (i_p0_taped : Int) (i_p0_pos : Int) (i_p0_from : Int) (i_p0_sort : Int) (i_p0_value : Int) (i_p0_fault : Int) (i_p0_wrongAt : Int) (i_p0_torn : Int) (x1 : Int) (r : Int) (hf : f_X12_isSeat i_p0_seats x1 = some r) : Met l yX12_isSeat wsX12_isSeat rm_X12_isSeat (pcG D G [.ref a_p0, .int (Int32.ofInt x1)] sz [(a_p0, .inr (12, [.ref a_p0_st, .ref a_p0_isKept, .int (Int32.ofInt i_p0_seats), .int (Int32.ofInt i_p0_stirs), .ref a_p0_brings, .ref a_p0_need, .ref a_p0_draft, .int (Int32.ofInt i_p0_dSeats), .int (Int32.ofInt i_p0_dStirs), .ref a_p0_dStir, .ref a_p0_dNeed, .int (Int32.ofInt i_p0_told), .int (Int32.ofInt i_p0_highest), .ref a_p0_tape, .int (Int32.ofInt i_p0_taped), .int (Int32.ofInt i_p0_pos), .int (Int32.ofInt i_p0_from), .int (Int32.ofInt i_p0_sort), .int (Int32.ofInt i_p0_value), .int (Int32.ofInt i_p0_fault), .int (Int32.ofInt i_p0_wrongAt), .ref a_p0_places, .ref a_p0_stirred, .ref a_p0_ways, .ref a_p0_waysThen, .ref a_p0_stays, .ref a_p0_fewest, .ref a_p0_bowls, .ref a_p0_has, .ref a_p0_goesOn, .ref a_p0_isThere, .ref a_p0_isThereThen, .ref a_p0_bestRow, .ref a_p0_lanes, .ref a_p0_sizes, .ref a_p0_cells, .int (Int32.ofInt i_p0_torn)]))]) (qcI D G (Int32.ofInt r) [(a_p0, .inr (12, [.ref a_p0_st, .ref a_p0_isKept, .int (Int32.ofInt i_p0_seats), .int (Int32.ofInt i_p0_stirs), .ref a_p0_brings, .ref a_p0_need, .ref a_p0_draft, .int (Int32.ofInt i_p0_dSeats), .int (Int32.ofInt i_p0_dStirs), .ref a_p0_dStir, .ref a_p0_dNeed, .int (Int32.ofInt i_p0_told), .int (Int32.ofInt i_p0_highest), .ref a_p0_tape, .int (Int32.ofInt i_p0_taped), .int (Int32.ofInt i_p0_pos), .int (Int32.ofInt i_p0_from), .int (Int32.ofInt i_p0_sort), .int (Int32.ofInt i_p0_value), .int (Int32.ofInt i_p0_fault), .int (Int32.ofInt i_p0_wrongAt), .ref a_p0_places, .ref a_p0_stirred, .ref a_p0_ways, .ref a_p0_waysThen, .ref a_p0_stays, .ref a_p0_fewest, .ref a_p0_bowls, .ref a_p0_has, .ref a_p0_goesOn, .ref a_p0_isThere, .ref a_p0_isThereThen, .ref a_p0_bestRow, .ref a_p0_lanes, .ref a_p0_sizes, .ref a_p0_cells, .int (Int32.ofInt i_p0_torn)]))] (va_A [(a_p0, .inr (12, [.ref a_p0_st, .ref a_p0_isKept, .int (Int32.ofInt i_p0_seats), .int (Int32.ofInt i_p0_stirs), .ref a_p0_brings, .ref a_p0_need, .ref a_p0_draft, .int (Int32.ofInt i_p0_dSeats), .int (Int32.ofInt i_p0_dStirs), .ref a_p0_dStir, .ref a_p0_dNeed, .int (Int32.ofInt i_p0_told), .int (Int32.ofInt i_p0_highest), .ref a_p0_tape, .int (Int32.ofInt i_p0_taped), .int (Int32.ofInt i_p0_pos), .int (Int32.ofInt i_p0_from), .int (Int32.ofInt i_p0_sort), .int (Int32.ofInt i_p0_value), .int (Int32.ofInt i_p0_fault), .int (Int32.ofInt i_p0_wrongAt), .ref a_p0_places, .ref a_p0_stirred, .ref a_p0_ways, .ref a_p0_waysThen, .ref a_p0_stays, .ref a_p0_fewest, .ref a_p0_bowls, .ref a_p0_has, .ref a_p0_goesOn, .ref a_p0_isThere, .ref a_p0_isThereThen, .ref a_p0_bestRow, .ref a_p0_lanes, .ref a_p0_sizes, .ref a_p0_cells, .int (Int32.ofInt i_p0_torn)]))] sz)) 0 0 (va_A [(a_p0, .inr (12, [.ref a_p0_st, .ref a_p0_isKept, .int (Int32.ofInt i_p0_seats), .int (Int32.ofInt i_p0_stirs), .ref a_p0_brings, .ref a_p0_need, .ref a_p0_draft, .int (Int32.ofInt i_p0_dSeats), .int (Int32.ofInt i_p0_dStirs), .ref a_p0_dStir, .ref a_p0_dNeed, .int (Int32.ofInt i_p0_told), .int (Int32.ofInt i_p0_highest), .ref a_p0_tape, .int (Int32.ofInt i_p0_taped), .int (Int32.ofInt i_p0_pos), .int (Int32.ofInt i_p0_from), .int (Int32.ofInt i_p0_sort), .int (Int32.ofInt i_p0_value), .int (Int32.ofInt i_p0_fault), .int (Int32.ofInt i_p0_wrongAt), .ref a_p0_places, .ref a_p0_stirred, .ref a_p0_ways, .ref a_p0_waysThen, .ref a_p0_stays, .ref a_p0_fewest, .ref a_p0_bowls, .ref a_p0_has, .ref a_p0_goesOn, .ref a_p0_isThere, .ref a_p0_isThereThen, .ref a_p0_bestRow, .ref a_p0_lanes, .ref a_p0_sizes, .ref a_p0_cells, .int (Int32.ofInt i_p0_torn)]))] sz) := by
  refine Met.ofW (cc := cX12_isSeat) (maxL := 2) (ret := (some .boolean)) (by decide) rfl ?_
  intro p e s m args below meth c s₁ B hml hv
  obtain ⟨rfl, hsz, hP, hK, hD0⟩ := hv
  have hx := B.exec
  have hb := B.bytes
  have hr := B.returns
  have hts := atoms_spec (ws := wsX12_isSeat) B.pre
  have hown : s.vm.findClass RX12 = some m.cls := findClass_of_methodNamed B.named
  have hlocks := B.notSynchronized
  subst hsz
  have hD := hD0.self (sz := s.heap.size)
  generalize hAe : va_A [(a_p0, .inr (12, [.ref a_p0_st, .ref a_p0_isKept, .int (Int32.ofInt i_p0_seats), .int (Int32.ofInt i_p0_stirs), .ref a_p0_brings, .ref a_p0_need, .ref a_p0_draft, .int (Int32.ofInt i_p0_dSeats), .int (Int32.ofInt i_p0_dStirs), .ref a_p0_dStir, .ref a_p0_dNeed, .int (Int32.ofInt i_p0_told), .int (Int32.ofInt i_p0_highest), .ref a_p0_tape, .int (Int32.ofInt i_p0_taped), .int (Int32.ofInt i_p0_pos), .int (Int32.ofInt i_p0_from), .int (Int32.ofInt i_p0_sort), .int (Int32.ofInt i_p0_value), .int (Int32.ofInt i_p0_fault), .int (Int32.ofInt i_p0_wrongAt), .ref a_p0_places, .ref a_p0_stirred, .ref a_p0_ways, .ref a_p0_waysThen, .ref a_p0_stays, .ref a_p0_fewest, .ref a_p0_bowls, .ref a_p0_has, .ref a_p0_goesOn, .ref a_p0_isThere, .ref a_p0_isThereThen, .ref a_p0_bestRow, .ref a_p0_lanes, .ref a_p0_sizes, .ref a_p0_cells, .int (Int32.ofInt i_p0_torn)]))] s.heap.size = A at hD ⊢
  have hA : ∀ q : Nat, s.heap.size ≤ q → A q := fun q h => by rw [← hAe]; exact Or.inr h
  clear hAe hD0
  have hS : va_S A s.heap s.heap [] := va_S.rf
  have hl := lv_entry ([.ref a_p0, .int (Int32.ofInt x1)]) (n := 2) (Nat.le_of_ble_eq_true rfl)
  rw [lg_entry_eq]
  generalize (lg_sl ([.ref a_p0, .int (Int32.ofInt x1)]) ++ List.replicate (2 - (lg_sl ([.ref a_p0, .int (Int32.ofInt x1)])).length) Slot.unset).toArray = ls at hl ⊢
  have hl : lv_has ls 2 [(0, .ref a_p0), (1, .int (Int32.ofInt x1))] := hl
  refine W_nameQ (fun Q hQ => ?_)
  obtain ⟨H, hH⟩ : ∃ H, H = s.heap := ⟨_, rfl⟩
  replace hS : va_S A s.heap H [] := by rw [hH]; exact hS
  replace hP : va_P D vwCl [(a_p0, .inr (12, [.ref a_p0_st, .ref a_p0_isKept, .int (Int32.ofInt i_p0_seats), .int (Int32.ofInt i_p0_stirs), .ref a_p0_brings, .ref a_p0_need, .ref a_p0_draft, .int (Int32.ofInt i_p0_dSeats), .int (Int32.ofInt i_p0_dStirs), .ref a_p0_dStir, .ref a_p0_dNeed, .int (Int32.ofInt i_p0_told), .int (Int32.ofInt i_p0_highest), .ref a_p0_tape, .int (Int32.ofInt i_p0_taped), .int (Int32.ofInt i_p0_pos), .int (Int32.ofInt i_p0_from), .int (Int32.ofInt i_p0_sort), .int (Int32.ofInt i_p0_value), .int (Int32.ofInt i_p0_fault), .int (Int32.ofInt i_p0_wrongAt), .ref a_p0_places, .ref a_p0_stirred, .ref a_p0_ways, .ref a_p0_waysThen, .ref a_p0_stays, .ref a_p0_fewest, .ref a_p0_bowls, .ref a_p0_has, .ref a_p0_goesOn, .ref a_p0_isThere, .ref a_p0_isThereThen, .ref a_p0_bestRow, .ref a_p0_lanes, .ref a_p0_sizes, .ref a_p0_cells, .int (Int32.ofInt i_p0_torn)]))] H := by rw [hH]; exact hP
  rw [← hH]
  clear hH
  unfold f_X12_isSeat at hf
  refine lv_iload_n hx hb dX12_isSeat_0 rfl (lv_at hl 1 rfl) ?_
  have hr0 := ck_c hf
  replace hf := ck_r hf
  refine lv_i2l (v := Int64.ofInt x1) hx hb dX12_isSeat_1 (z_i2l hr0) ?_
  refine lv_lconst (v := Int64.ofInt (0 : Int)) hx hb dX12_isSeat_2 (by decide) ?_
  refine lv_aload_n hx hb dX12_isSeat_3 rfl (lv_at hl 0 rfl) ?_
  refine va_get (D := D) (ci := 12) (v := .int (Int32.ofInt i_p0_seats)) (C := RX12) (T := TX12) (N := 37) hx hb hts inX12_isSeat_X12 hown hK hP 0 rfl rfl 2 (by decide) (hts _ mwX12_isSeat_1) (fun _ h9 => h9) rfl dX12_isSeat_4 ?_
  refine lv_iconst (v := Int32.ofInt (1 : Int)) hx hb dX12_isSeat_7 (by decide) ?_
  refine lv_isub hx hb dX12_isSeat_8 (z_ci (Int32.ofInt_sub i_p0_seats (1 : Int)) ?_)
  have hr1 := ck_c hf
  replace hf := ck_r hf
  refine lv_i2l (v := Int64.ofInt (i_p0_seats - (1 : Int))) hx hb dX12_isSeat_9 (z_i2l hr1) ?_
  have hq := bd1_s hf
  clear hf
  obtain ⟨z3, hcall, hf⟩ := hq
  refine gnI (va_runS (As := [.long (Int64.ofInt x1), .long (Int64.ofInt (0 : Int)), .long (Int64.ofInt (i_p0_seats - (1 : Int)))]) (rest := []) ⟨hx, hb, hml, hown, hts⟩ (c_X12_in (l := l) (D := D) (G := G) (sz := H.size) (x0 := x1) (x2 := (0 : Int)) (x4 := (i_p0_seats - (1 : Int))) (r := z3) (hf := hcall)) (va_cwS 3 hts gX12_isSeat_X12_in rfl rfl rfl (by decide +kernel) ⟨Nat.le_of_ble_eq_true rfl, Nat.le_of_ble_eq_true rfl⟩) (preG_S (hP.sub [] rfl) (hD.sub [] rfl rfl) hK) rfl rfl hl.1 rfl (lv_room (Nat.le_of_ble_eq_true rfl)) dX12_isSeat_10 ⟨Nat.le_of_ble_eq_true rfl, Nat.le_of_ble_eq_true rfl⟩) hP hD hS hA [] rfl (fun H locs hP hD hS => ?_)
  clear hcall
  have hz := ck_c hf
  replace hf := ck_r hf
  obtain rfl := ou1 hf
  rw [hQ]
  exact W.zret hx hb hr (z_bn hz) (fun t ht hW => ⟨⟨_, (), rfl, rfl, by rw [ht]; exact hP, va_K.moved hW.alike hK, hD⟩, hS.F ht⟩) hS.2.2 dX12_isSeat_13

noncomputable def f_X12_isStir (i_p0_stirs : Int) (x1 : Int) : Option (Int) := (ck (z_r32 x1) (ck (z_r32 (i_p0_stirs - (1 : Int))) (bd1 (f_X12_in x1 (0 : Int) (i_p0_stirs - (1 : Int))) (fun (z3 : Int) => (ck (z_bB z3) (some z3))))))
abbrev rm_X12_isStir : Room := { frames := 1, cells := 0, slots := 0, locals := 25 }
theorem inX12_isStir_X12 : ∀ w ∈ wsX120, w ∈ wsX12_isStir := by first | exact fun w h => List.mem_cons_of_mem _ (List.mem_append_right _ h) | decide +kernel
theorem mwX12_isStir_1 : Cond.fieldLink RX12 103 "LadleKingsModel" "stirs" "I" ∈ wsX12_isStir := by first | exact List.mem_of_getElem? (i := 1) rfl | decide +kernel
set_option maxHeartbeats 8000000 in
set_option maxRecDepth 100000 in
theorem c_X12_isStir (l : Launch) (D : va_G) (G : Nat → ClassId) (sz : Nat) (a_p0 : Nat) (a_p0_st : Nat) (a_p0_isKept : Nat) (a_p0_brings : Nat) (a_p0_need : Nat) (a_p0_draft : Nat) (a_p0_dStir : Nat) (a_p0_dNeed : Nat) (a_p0_tape : Nat) (a_p0_places : Nat) (a_p0_stirred : Nat) (a_p0_ways : Nat) (a_p0_waysThen : Nat) (a_p0_stays : Nat) (a_p0_fewest : Nat) (a_p0_bowls : Nat) (a_p0_has : Nat) (a_p0_goesOn : Nat) (a_p0_isThere : Nat) (a_p0_isThereThen : Nat) (a_p0_bestRow : Nat) (a_p0_lanes : Nat) (a_p0_sizes : Nat) (a_p0_cells : Nat) (i_p0_seats : Int) (i_p0_stirs : Int) (i_p0_dSeats : Int) (i_p0_dStirs : Int) (i_p0_told : Int) (i_p0_highest : Int) (i_p0_taped : Int) (i_p0_pos : Int) (i_p0_from : Int) (i_p0_sort : Int) (i_p0_value : Int) (i_p0_fault : Int) (i_p0_wrongAt : Int) (i_p0_torn : Int) (x1 : Int) (r : Int) (hf : f_X12_isStir i_p0_stirs x1 = some r) : Met l yX12_isStir wsX12_isStir rm_X12_isStir (pcG D G [.ref a_p0, .int (Int32.ofInt x1)] sz [(a_p0, .inr (12, [.ref a_p0_st, .ref a_p0_isKept, .int (Int32.ofInt i_p0_seats), .int (Int32.ofInt i_p0_stirs), .ref a_p0_brings, .ref a_p0_need, .ref a_p0_draft, .int (Int32.ofInt i_p0_dSeats), .int (Int32.ofInt i_p0_dStirs), .ref a_p0_dStir, .ref a_p0_dNeed, .int (Int32.ofInt i_p0_told), .int (Int32.ofInt i_p0_highest), .ref a_p0_tape, .int (Int32.ofInt i_p0_taped), .int (Int32.ofInt i_p0_pos), .int (Int32.ofInt i_p0_from), .int (Int32.ofInt i_p0_sort), .int (Int32.ofInt i_p0_value), .int (Int32.ofInt i_p0_fault), .int (Int32.ofInt i_p0_wrongAt), .ref a_p0_places, .ref a_p0_stirred, .ref a_p0_ways, .ref a_p0_waysThen, .ref a_p0_stays, .ref a_p0_fewest, .ref a_p0_bowls, .ref a_p0_has, .ref a_p0_goesOn, .ref a_p0_isThere, .ref a_p0_isThereThen, .ref a_p0_bestRow, .ref a_p0_lanes, .ref a_p0_sizes, .ref a_p0_cells, .int (Int32.ofInt i_p0_torn)]))]) (qcI D G (Int32.ofInt r) [(a_p0, .inr (12, [.ref a_p0_st, .ref a_p0_isKept, .int (Int32.ofInt i_p0_seats), .int (Int32.ofInt i_p0_stirs), .ref a_p0_brings, .ref a_p0_need, .ref a_p0_draft, .int (Int32.ofInt i_p0_dSeats), .int (Int32.ofInt i_p0_dStirs), .ref a_p0_dStir, .ref a_p0_dNeed, .int (Int32.ofInt i_p0_told), .int (Int32.ofInt i_p0_highest), .ref a_p0_tape, .int (Int32.ofInt i_p0_taped), .int (Int32.ofInt i_p0_pos), .int (Int32.ofInt i_p0_from), .int (Int32.ofInt i_p0_sort), .int (Int32.ofInt i_p0_value), .int (Int32.ofInt i_p0_fault), .int (Int32.ofInt i_p0_wrongAt), .ref a_p0_places, .ref a_p0_stirred, .ref a_p0_ways, .ref a_p0_waysThen, .ref a_p0_stays, .ref a_p0_fewest, .ref a_p0_bowls, .ref a_p0_has, .ref a_p0_goesOn, .ref a_p0_isThere, .ref a_p0_isThereThen, .ref a_p0_bestRow, .ref a_p0_lanes, .ref a_p0_sizes, .ref a_p0_cells, .int (Int32.ofInt i_p0_torn)]))] (va_A [(a_p0, .inr (12, [.ref a_p0_st, .ref a_p0_isKept, .int (Int32.ofInt i_p0_seats), .int (Int32.ofInt i_p0_stirs), .ref a_p0_brings, .ref a_p0_need, .ref a_p0_draft, .int (Int32.ofInt i_p0_dSeats), .int (Int32.ofInt i_p0_dStirs), .ref a_p0_dStir, .ref a_p0_dNeed, .int (Int32.ofInt i_p0_told), .int (Int32.ofInt i_p0_highest), .ref a_p0_tape, .int (Int32.ofInt i_p0_taped), .int (Int32.ofInt i_p0_pos), .int (Int32.ofInt i_p0_from), .int (Int32.ofInt i_p0_sort), .int (Int32.ofInt i_p0_value), .int (Int32.ofInt i_p0_fault), .int (Int32.ofInt i_p0_wrongAt), .ref a_p0_places, .ref a_p0_stirred, .ref a_p0_ways, .ref a_p0_waysThen, .ref a_p0_stays, .ref a_p0_fewest, .ref a_p0_bowls, .ref a_p0_has, .ref a_p0_goesOn, .ref a_p0_isThere, .ref a_p0_isThereThen, .ref a_p0_bestRow, .ref a_p0_lanes, .ref a_p0_sizes, .ref a_p0_cells, .int (Int32.ofInt i_p0_torn)]))] sz)) 0 0 (va_A [(a_p0, .inr (12, [.ref a_p0_st, .ref a_p0_isKept, .int (Int32.ofInt i_p0_seats), .int (Int32.ofInt i_p0_stirs), .ref a_p0_brings, .ref a_p0_need, .ref a_p0_draft, .int (Int32.ofInt i_p0_dSeats), .int (Int32.ofInt i_p0_dStirs), .ref a_p0_dStir, .ref a_p0_dNeed, .int (Int32.ofInt i_p0_told), .int (Int32.ofInt i_p0_highest), .ref a_p0_tape, .int (Int32.ofInt i_p0_taped), .int (Int32.ofInt i_p0_pos), .int (Int32.ofInt i_p0_from), .int (Int32.ofInt i_p0_sort), .int (Int32.ofInt i_p0_value), .int (Int32.ofInt i_p0_fault), .int (Int32.ofInt i_p0_wrongAt), .ref a_p0_places, .ref a_p0_stirred, .ref a_p0_ways, .ref a_p0_waysThen, .ref a_p0_stays, .ref a_p0_fewest, .ref a_p0_bowls, .ref a_p0_has, .ref a_p0_goesOn, .ref a_p0_isThere, .ref a_p0_isThereThen, .ref a_p0_bestRow, .ref a_p0_lanes, .ref a_p0_sizes, .ref a_p0_cells, .int (Int32.ofInt i_p0_torn)]))] sz) := by
  refine Met.ofW (cc := cX12_isStir) (maxL := 2) (ret := (some .boolean)) (by decide) rfl ?_
  intro p e s m args below meth c s₁ B hml hv
  obtain ⟨rfl, hsz, hP, hK, hD0⟩ := hv
  have hx := B.exec
  have hb := B.bytes
  have hr := B.returns
  have hts := atoms_spec (ws := wsX12_isStir) B.pre
  have hown : s.vm.findClass RX12 = some m.cls := findClass_of_methodNamed B.named
  have hlocks := B.notSynchronized
  subst hsz
  have hD := hD0.self (sz := s.heap.size)
  generalize hAe : va_A [(a_p0, .inr (12, [.ref a_p0_st, .ref a_p0_isKept, .int (Int32.ofInt i_p0_seats), .int (Int32.ofInt i_p0_stirs), .ref a_p0_brings, .ref a_p0_need, .ref a_p0_draft, .int (Int32.ofInt i_p0_dSeats), .int (Int32.ofInt i_p0_dStirs), .ref a_p0_dStir, .ref a_p0_dNeed, .int (Int32.ofInt i_p0_told), .int (Int32.ofInt i_p0_highest), .ref a_p0_tape, .int (Int32.ofInt i_p0_taped), .int (Int32.ofInt i_p0_pos), .int (Int32.ofInt i_p0_from), .int (Int32.ofInt i_p0_sort), .int (Int32.ofInt i_p0_value), .int (Int32.ofInt i_p0_fault), .int (Int32.ofInt i_p0_wrongAt), .ref a_p0_places, .ref a_p0_stirred, .ref a_p0_ways, .ref a_p0_waysThen, .ref a_p0_stays, .ref a_p0_fewest, .ref a_p0_bowls, .ref a_p0_has, .ref a_p0_goesOn, .ref a_p0_isThere, .ref a_p0_isThereThen, .ref a_p0_bestRow, .ref a_p0_lanes, .ref a_p0_sizes, .ref a_p0_cells, .int (Int32.ofInt i_p0_torn)]))] s.heap.size = A at hD ⊢
  have hA : ∀ q : Nat, s.heap.size ≤ q → A q := fun q h => by rw [← hAe]; exact Or.inr h
  clear hAe hD0
  have hS : va_S A s.heap s.heap [] := va_S.rf
  have hl := lv_entry ([.ref a_p0, .int (Int32.ofInt x1)]) (n := 2) (Nat.le_of_ble_eq_true rfl)
  rw [lg_entry_eq]
  generalize (lg_sl ([.ref a_p0, .int (Int32.ofInt x1)]) ++ List.replicate (2 - (lg_sl ([.ref a_p0, .int (Int32.ofInt x1)])).length) Slot.unset).toArray = ls at hl ⊢
  have hl : lv_has ls 2 [(0, .ref a_p0), (1, .int (Int32.ofInt x1))] := hl
  refine W_nameQ (fun Q hQ => ?_)
  obtain ⟨H, hH⟩ : ∃ H, H = s.heap := ⟨_, rfl⟩
  replace hS : va_S A s.heap H [] := by rw [hH]; exact hS
  replace hP : va_P D vwCl [(a_p0, .inr (12, [.ref a_p0_st, .ref a_p0_isKept, .int (Int32.ofInt i_p0_seats), .int (Int32.ofInt i_p0_stirs), .ref a_p0_brings, .ref a_p0_need, .ref a_p0_draft, .int (Int32.ofInt i_p0_dSeats), .int (Int32.ofInt i_p0_dStirs), .ref a_p0_dStir, .ref a_p0_dNeed, .int (Int32.ofInt i_p0_told), .int (Int32.ofInt i_p0_highest), .ref a_p0_tape, .int (Int32.ofInt i_p0_taped), .int (Int32.ofInt i_p0_pos), .int (Int32.ofInt i_p0_from), .int (Int32.ofInt i_p0_sort), .int (Int32.ofInt i_p0_value), .int (Int32.ofInt i_p0_fault), .int (Int32.ofInt i_p0_wrongAt), .ref a_p0_places, .ref a_p0_stirred, .ref a_p0_ways, .ref a_p0_waysThen, .ref a_p0_stays, .ref a_p0_fewest, .ref a_p0_bowls, .ref a_p0_has, .ref a_p0_goesOn, .ref a_p0_isThere, .ref a_p0_isThereThen, .ref a_p0_bestRow, .ref a_p0_lanes, .ref a_p0_sizes, .ref a_p0_cells, .int (Int32.ofInt i_p0_torn)]))] H := by rw [hH]; exact hP
  rw [← hH]
  clear hH
  unfold f_X12_isStir at hf
  refine lv_iload_n hx hb dX12_isStir_0 rfl (lv_at hl 1 rfl) ?_
  have hr0 := ck_c hf
  replace hf := ck_r hf
  refine lv_i2l (v := Int64.ofInt x1) hx hb dX12_isStir_1 (z_i2l hr0) ?_
  refine lv_lconst (v := Int64.ofInt (0 : Int)) hx hb dX12_isStir_2 (by decide) ?_
  refine lv_aload_n hx hb dX12_isStir_3 rfl (lv_at hl 0 rfl) ?_
  refine va_get (D := D) (ci := 12) (v := .int (Int32.ofInt i_p0_stirs)) (C := RX12) (T := TX12) (N := 37) hx hb hts inX12_isStir_X12 hown hK hP 0 rfl rfl 3 (by decide) (hts _ mwX12_isStir_1) (fun _ h9 => h9) rfl dX12_isStir_4 ?_
  refine lv_iconst (v := Int32.ofInt (1 : Int)) hx hb dX12_isStir_7 (by decide) ?_
  refine lv_isub hx hb dX12_isStir_8 (z_ci (Int32.ofInt_sub i_p0_stirs (1 : Int)) ?_)
  have hr1 := ck_c hf
  replace hf := ck_r hf
  refine lv_i2l (v := Int64.ofInt (i_p0_stirs - (1 : Int))) hx hb dX12_isStir_9 (z_i2l hr1) ?_
  have hq := bd1_s hf
  clear hf
  obtain ⟨z3, hcall, hf⟩ := hq
  refine gnI (va_runS (As := [.long (Int64.ofInt x1), .long (Int64.ofInt (0 : Int)), .long (Int64.ofInt (i_p0_stirs - (1 : Int)))]) (rest := []) ⟨hx, hb, hml, hown, hts⟩ (c_X12_in (l := l) (D := D) (G := G) (sz := H.size) (x0 := x1) (x2 := (0 : Int)) (x4 := (i_p0_stirs - (1 : Int))) (r := z3) (hf := hcall)) (va_cwS 3 hts gX12_isStir_X12_in rfl rfl rfl (by decide +kernel) ⟨Nat.le_of_ble_eq_true rfl, Nat.le_of_ble_eq_true rfl⟩) (preG_S (hP.sub [] rfl) (hD.sub [] rfl rfl) hK) rfl rfl hl.1 rfl (lv_room (Nat.le_of_ble_eq_true rfl)) dX12_isStir_10 ⟨Nat.le_of_ble_eq_true rfl, Nat.le_of_ble_eq_true rfl⟩) hP hD hS hA [] rfl (fun H locs hP hD hS => ?_)
  clear hcall
  have hz := ck_c hf
  replace hf := ck_r hf
  obtain rfl := ou1 hf
  rw [hQ]
  exact W.zret hx hb hr (z_bn hz) (fun t ht hW => ⟨⟨_, (), rfl, rfl, by rw [ht]; exact hP, va_K.moved hW.alike hK, hD⟩, hS.F ht⟩) hS.2.2 dX12_isStir_13

noncomputable def f_X12_rule (i_p0_seats : Int) (i_p0_stirs : Int) (v_p0_st : (Int → Int)) (x1 : Int) : Option (Int) := (ck (z_r32 x1) (if x1 = (0 : Int) then (some i_p0_seats) else (if x1 = (1 : Int) then (some i_p0_stirs) else (if x1 = (2 : Int) then (ck (z_ix (8 : Int) 152) (some (v_p0_st (8 : Int)))) else (if x1 = (3 : Int) then (ck (z_ix (30 : Int) 152) (some (v_p0_st (30 : Int)))) else (if x1 = (4 : Int) then (ck (z_ix (7 : Int) 152) (some (v_p0_st (7 : Int)))) else (some (-1 : Int))))))))
abbrev rm_X12_rule : Room := { frames := 0, cells := 0, slots := 0, locals := 0 }
theorem inX12_rule_X12 : ∀ w ∈ wsX120, w ∈ wsX12_rule := by first | exact fun w h => List.mem_cons_of_mem _ (List.mem_append_right _ h) | decide +kernel
theorem mwX12_rule_1 : Cond.fieldLink RX12 100 "LadleKingsModel" "seats" "I" ∈ wsX12_rule := by first | exact List.mem_of_getElem? (i := 1) rfl | decide +kernel
theorem mwX12_rule_2 : Cond.fieldLink RX12 103 "LadleKingsModel" "stirs" "I" ∈ wsX12_rule := by first | exact List.mem_of_getElem? (i := 2) rfl | decide +kernel
theorem mwX12_rule_3 : Cond.fieldLink RX12 7 "LadleKingsModel" "st" "[I" ∈ wsX12_rule := by first | exact List.mem_of_getElem? (i := 3) rfl | decide +kernel
set_option maxHeartbeats 8000000 in
set_option maxRecDepth 100000 in
theorem c_X12_rule (l : Launch) (D : va_G) (G : Nat → ClassId) (sz : Nat) (a_p0 : Nat) (a_p0_st : Nat) (a_p0_isKept : Nat) (a_p0_brings : Nat) (a_p0_need : Nat) (a_p0_draft : Nat) (a_p0_dStir : Nat) (a_p0_dNeed : Nat) (a_p0_tape : Nat) (a_p0_places : Nat) (a_p0_stirred : Nat) (a_p0_ways : Nat) (a_p0_waysThen : Nat) (a_p0_stays : Nat) (a_p0_fewest : Nat) (a_p0_bowls : Nat) (a_p0_has : Nat) (a_p0_goesOn : Nat) (a_p0_isThere : Nat) (a_p0_isThereThen : Nat) (a_p0_bestRow : Nat) (a_p0_lanes : Nat) (a_p0_sizes : Nat) (a_p0_cells : Nat) (i_p0_seats : Int) (i_p0_stirs : Int) (i_p0_dSeats : Int) (i_p0_dStirs : Int) (i_p0_told : Int) (i_p0_highest : Int) (i_p0_taped : Int) (i_p0_pos : Int) (i_p0_from : Int) (i_p0_sort : Int) (i_p0_value : Int) (i_p0_fault : Int) (i_p0_wrongAt : Int) (i_p0_torn : Int) (v_p0_st : (Int → Int)) (x1 : Int) (r : Int) (hf : f_X12_rule i_p0_seats i_p0_stirs v_p0_st x1 = some r) : Met l yX12_rule wsX12_rule rm_X12_rule (pcG D G [.ref a_p0, .int (Int32.ofInt x1)] sz [(a_p0, .inr (12, [.ref a_p0_st, .ref a_p0_isKept, .int (Int32.ofInt i_p0_seats), .int (Int32.ofInt i_p0_stirs), .ref a_p0_brings, .ref a_p0_need, .ref a_p0_draft, .int (Int32.ofInt i_p0_dSeats), .int (Int32.ofInt i_p0_dStirs), .ref a_p0_dStir, .ref a_p0_dNeed, .int (Int32.ofInt i_p0_told), .int (Int32.ofInt i_p0_highest), .ref a_p0_tape, .int (Int32.ofInt i_p0_taped), .int (Int32.ofInt i_p0_pos), .int (Int32.ofInt i_p0_from), .int (Int32.ofInt i_p0_sort), .int (Int32.ofInt i_p0_value), .int (Int32.ofInt i_p0_fault), .int (Int32.ofInt i_p0_wrongAt), .ref a_p0_places, .ref a_p0_stirred, .ref a_p0_ways, .ref a_p0_waysThen, .ref a_p0_stays, .ref a_p0_fewest, .ref a_p0_bowls, .ref a_p0_has, .ref a_p0_goesOn, .ref a_p0_isThere, .ref a_p0_isThereThen, .ref a_p0_bestRow, .ref a_p0_lanes, .ref a_p0_sizes, .ref a_p0_cells, .int (Int32.ofInt i_p0_torn)])), (a_p0_st, .inl (G 1, 152, .inl (zA v_p0_st)))]) (qcI D G (Int32.ofInt r) [(a_p0, .inr (12, [.ref a_p0_st, .ref a_p0_isKept, .int (Int32.ofInt i_p0_seats), .int (Int32.ofInt i_p0_stirs), .ref a_p0_brings, .ref a_p0_need, .ref a_p0_draft, .int (Int32.ofInt i_p0_dSeats), .int (Int32.ofInt i_p0_dStirs), .ref a_p0_dStir, .ref a_p0_dNeed, .int (Int32.ofInt i_p0_told), .int (Int32.ofInt i_p0_highest), .ref a_p0_tape, .int (Int32.ofInt i_p0_taped), .int (Int32.ofInt i_p0_pos), .int (Int32.ofInt i_p0_from), .int (Int32.ofInt i_p0_sort), .int (Int32.ofInt i_p0_value), .int (Int32.ofInt i_p0_fault), .int (Int32.ofInt i_p0_wrongAt), .ref a_p0_places, .ref a_p0_stirred, .ref a_p0_ways, .ref a_p0_waysThen, .ref a_p0_stays, .ref a_p0_fewest, .ref a_p0_bowls, .ref a_p0_has, .ref a_p0_goesOn, .ref a_p0_isThere, .ref a_p0_isThereThen, .ref a_p0_bestRow, .ref a_p0_lanes, .ref a_p0_sizes, .ref a_p0_cells, .int (Int32.ofInt i_p0_torn)])), (a_p0_st, .inl (G 1, 152, .inl (zA v_p0_st)))] (va_A [(a_p0, .inr (12, [.ref a_p0_st, .ref a_p0_isKept, .int (Int32.ofInt i_p0_seats), .int (Int32.ofInt i_p0_stirs), .ref a_p0_brings, .ref a_p0_need, .ref a_p0_draft, .int (Int32.ofInt i_p0_dSeats), .int (Int32.ofInt i_p0_dStirs), .ref a_p0_dStir, .ref a_p0_dNeed, .int (Int32.ofInt i_p0_told), .int (Int32.ofInt i_p0_highest), .ref a_p0_tape, .int (Int32.ofInt i_p0_taped), .int (Int32.ofInt i_p0_pos), .int (Int32.ofInt i_p0_from), .int (Int32.ofInt i_p0_sort), .int (Int32.ofInt i_p0_value), .int (Int32.ofInt i_p0_fault), .int (Int32.ofInt i_p0_wrongAt), .ref a_p0_places, .ref a_p0_stirred, .ref a_p0_ways, .ref a_p0_waysThen, .ref a_p0_stays, .ref a_p0_fewest, .ref a_p0_bowls, .ref a_p0_has, .ref a_p0_goesOn, .ref a_p0_isThere, .ref a_p0_isThereThen, .ref a_p0_bestRow, .ref a_p0_lanes, .ref a_p0_sizes, .ref a_p0_cells, .int (Int32.ofInt i_p0_torn)])), (a_p0_st, .inl (G 1, 152, .inl (zA v_p0_st)))] sz)) 0 0 (va_A [(a_p0, .inr (12, [.ref a_p0_st, .ref a_p0_isKept, .int (Int32.ofInt i_p0_seats), .int (Int32.ofInt i_p0_stirs), .ref a_p0_brings, .ref a_p0_need, .ref a_p0_draft, .int (Int32.ofInt i_p0_dSeats), .int (Int32.ofInt i_p0_dStirs), .ref a_p0_dStir, .ref a_p0_dNeed, .int (Int32.ofInt i_p0_told), .int (Int32.ofInt i_p0_highest), .ref a_p0_tape, .int (Int32.ofInt i_p0_taped), .int (Int32.ofInt i_p0_pos), .int (Int32.ofInt i_p0_from), .int (Int32.ofInt i_p0_sort), .int (Int32.ofInt i_p0_value), .int (Int32.ofInt i_p0_fault), .int (Int32.ofInt i_p0_wrongAt), .ref a_p0_places, .ref a_p0_stirred, .ref a_p0_ways, .ref a_p0_waysThen, .ref a_p0_stays, .ref a_p0_fewest, .ref a_p0_bowls, .ref a_p0_has, .ref a_p0_goesOn, .ref a_p0_isThere, .ref a_p0_isThereThen, .ref a_p0_bestRow, .ref a_p0_lanes, .ref a_p0_sizes, .ref a_p0_cells, .int (Int32.ofInt i_p0_torn)])), (a_p0_st, .inl (G 1, 152, .inl (zA v_p0_st)))] sz) := by
  refine Met.ofW (cc := cX12_rule) (maxL := 2) (ret := (some .int)) (by decide) rfl ?_
  intro p e s m args below meth c s₁ B hml hv
  obtain ⟨rfl, hsz, hP, hK, hD0⟩ := hv
  have hx := B.exec
  have hb := B.bytes
  have hr := B.returns
  have hts := atoms_spec (ws := wsX12_rule) B.pre
  have hown : s.vm.findClass RX12 = some m.cls := findClass_of_methodNamed B.named
  have hlocks := B.notSynchronized
  subst hsz
  have hD := hD0.self (sz := s.heap.size)
  generalize hAe : va_A [(a_p0, .inr (12, [.ref a_p0_st, .ref a_p0_isKept, .int (Int32.ofInt i_p0_seats), .int (Int32.ofInt i_p0_stirs), .ref a_p0_brings, .ref a_p0_need, .ref a_p0_draft, .int (Int32.ofInt i_p0_dSeats), .int (Int32.ofInt i_p0_dStirs), .ref a_p0_dStir, .ref a_p0_dNeed, .int (Int32.ofInt i_p0_told), .int (Int32.ofInt i_p0_highest), .ref a_p0_tape, .int (Int32.ofInt i_p0_taped), .int (Int32.ofInt i_p0_pos), .int (Int32.ofInt i_p0_from), .int (Int32.ofInt i_p0_sort), .int (Int32.ofInt i_p0_value), .int (Int32.ofInt i_p0_fault), .int (Int32.ofInt i_p0_wrongAt), .ref a_p0_places, .ref a_p0_stirred, .ref a_p0_ways, .ref a_p0_waysThen, .ref a_p0_stays, .ref a_p0_fewest, .ref a_p0_bowls, .ref a_p0_has, .ref a_p0_goesOn, .ref a_p0_isThere, .ref a_p0_isThereThen, .ref a_p0_bestRow, .ref a_p0_lanes, .ref a_p0_sizes, .ref a_p0_cells, .int (Int32.ofInt i_p0_torn)])), (a_p0_st, .inl (G 1, 152, .inl (zA v_p0_st)))] s.heap.size = A at hD ⊢
  have hA : ∀ q : Nat, s.heap.size ≤ q → A q := fun q h => by rw [← hAe]; exact Or.inr h
  clear hAe hD0
  have hS : va_S A s.heap s.heap [] := va_S.rf
  have hl := lv_entry ([.ref a_p0, .int (Int32.ofInt x1)]) (n := 2) (Nat.le_of_ble_eq_true rfl)
  rw [lg_entry_eq]
  generalize (lg_sl ([.ref a_p0, .int (Int32.ofInt x1)]) ++ List.replicate (2 - (lg_sl ([.ref a_p0, .int (Int32.ofInt x1)])).length) Slot.unset).toArray = ls at hl ⊢
  have hl : lv_has ls 2 [(0, .ref a_p0), (1, .int (Int32.ofInt x1))] := hl
  refine W_nameQ (fun Q hQ => ?_)
  obtain ⟨H, hH⟩ : ∃ H, H = s.heap := ⟨_, rfl⟩
  replace hS : va_S A s.heap H [] := by rw [hH]; exact hS
  replace hP : va_P D vwCl [(a_p0, .inr (12, [.ref a_p0_st, .ref a_p0_isKept, .int (Int32.ofInt i_p0_seats), .int (Int32.ofInt i_p0_stirs), .ref a_p0_brings, .ref a_p0_need, .ref a_p0_draft, .int (Int32.ofInt i_p0_dSeats), .int (Int32.ofInt i_p0_dStirs), .ref a_p0_dStir, .ref a_p0_dNeed, .int (Int32.ofInt i_p0_told), .int (Int32.ofInt i_p0_highest), .ref a_p0_tape, .int (Int32.ofInt i_p0_taped), .int (Int32.ofInt i_p0_pos), .int (Int32.ofInt i_p0_from), .int (Int32.ofInt i_p0_sort), .int (Int32.ofInt i_p0_value), .int (Int32.ofInt i_p0_fault), .int (Int32.ofInt i_p0_wrongAt), .ref a_p0_places, .ref a_p0_stirred, .ref a_p0_ways, .ref a_p0_waysThen, .ref a_p0_stays, .ref a_p0_fewest, .ref a_p0_bowls, .ref a_p0_has, .ref a_p0_goesOn, .ref a_p0_isThere, .ref a_p0_isThereThen, .ref a_p0_bestRow, .ref a_p0_lanes, .ref a_p0_sizes, .ref a_p0_cells, .int (Int32.ofInt i_p0_torn)])), (a_p0_st, .inl (G 1, 152, .inl (zA v_p0_st)))] H := by rw [hH]; exact hP
  rw [← hH]
  clear hH
  unfold f_X12_rule at hf
  refine lv_iload_n hx hb dX12_rule_0 rfl (lv_at hl 1 rfl) ?_
  have hr0 := ck_c hf
  replace hf := ck_r hf
  rcases Decidable.em (x1 = (0 : Int)) with hk2 | hk2
  ·
    replace hf := ite_t hk2 hf
    refine lv_tableIn (tgt := 36) hx hb dX12_rule_1 (by rw [hk2]; decide) (by rw [hk2]; decide) (by rw [hk2]; rfl) (by decide) ?_
    clear hk2
    refine lv_aload_n hx hb dX12_rule_36 rfl (lv_at hl 0 rfl) ?_
    refine va_get (D := D) (ci := 12) (v := .int (Int32.ofInt i_p0_seats)) (C := RX12) (T := TX12) (N := 37) hx hb hts inX12_rule_X12 hown hK hP 0 rfl rfl 2 (by decide) (hts _ mwX12_rule_1) (fun _ h9 => h9) rfl dX12_rule_37 ?_
    obtain rfl := ou1 hf
    rw [hQ]
    exact W.iret hx hb hr (fun t ht hW => ⟨⟨_, (), rfl, rfl, by rw [ht]; exact hP, va_K.moved hW.alike hK, hD⟩, hS.F ht⟩) hS.2.2 dX12_rule_40
  replace hf := ite_f hk2 hf
  rcases Decidable.em (x1 = (1 : Int)) with hk3 | hk3
  ·
    replace hf := ite_t hk3 hf
    refine lv_tableIn (tgt := 41) hx hb dX12_rule_1 (by rw [hk3]; decide) (by rw [hk3]; decide) (by rw [hk3]; rfl) (by decide) ?_
    clear hk3 hk2
    refine lv_aload_n hx hb dX12_rule_41 rfl (lv_at hl 0 rfl) ?_
    refine va_get (D := D) (ci := 12) (v := .int (Int32.ofInt i_p0_stirs)) (C := RX12) (T := TX12) (N := 37) hx hb hts inX12_rule_X12 hown hK hP 0 rfl rfl 3 (by decide) (hts _ mwX12_rule_2) (fun _ h9 => h9) rfl dX12_rule_42 ?_
    obtain rfl := ou1 hf
    rw [hQ]
    exact W.iret hx hb hr (fun t ht hW => ⟨⟨_, (), rfl, rfl, by rw [ht]; exact hP, va_K.moved hW.alike hK, hD⟩, hS.F ht⟩) hS.2.2 dX12_rule_45
  replace hf := ite_f hk3 hf
  rcases Decidable.em (x1 = (2 : Int)) with hk4 | hk4
  ·
    replace hf := ite_t hk4 hf
    refine lv_tableIn (tgt := 46) hx hb dX12_rule_1 (by rw [hk4]; decide) (by rw [hk4]; decide) (by rw [hk4]; rfl) (by decide) ?_
    clear hk4 hk2 hk3
    refine lv_aload_n hx hb dX12_rule_46 rfl (lv_at hl 0 rfl) ?_
    refine va_get (D := D) (ci := 12) (v := .ref a_p0_st) (C := RX12) (T := TX12) (N := 37) hx hb hts inX12_rule_X12 hown hK hP 0 rfl rfl 0 (by decide) (hts _ mwX12_rule_3) (fun _ h9 => h9) rfl dX12_rule_47 ?_
    refine lv_bipush (v := Int32.ofInt (8 : Int)) hx hb dX12_rule_50 (by decide) ?_
    have hc := ck_c hf
    replace hf := ck_r hf
    refine va_iald hx hb hK hP 1 1 rfl rfl (z_ix_in hc) dX12_rule_52 (z_ci (z_ald v_p0_st hc) ?_)
    clear hc
    obtain rfl := ou1 hf
    rw [hQ]
    exact W.iret hx hb hr (fun t ht hW => ⟨⟨_, (), rfl, rfl, by rw [ht]; exact hP, va_K.moved hW.alike hK, hD⟩, hS.F ht⟩) hS.2.2 dX12_rule_53
  replace hf := ite_f hk4 hf
  rcases Decidable.em (x1 = (3 : Int)) with hk5 | hk5
  ·
    replace hf := ite_t hk5 hf
    refine lv_tableIn (tgt := 54) hx hb dX12_rule_1 (by rw [hk5]; decide) (by rw [hk5]; decide) (by rw [hk5]; rfl) (by decide) ?_
    clear hk5 hk2 hk3 hk4
    refine lv_aload_n hx hb dX12_rule_54 rfl (lv_at hl 0 rfl) ?_
    refine va_get (D := D) (ci := 12) (v := .ref a_p0_st) (C := RX12) (T := TX12) (N := 37) hx hb hts inX12_rule_X12 hown hK hP 0 rfl rfl 0 (by decide) (hts _ mwX12_rule_3) (fun _ h9 => h9) rfl dX12_rule_55 ?_
    refine lv_bipush (v := Int32.ofInt (30 : Int)) hx hb dX12_rule_58 (by decide) ?_
    have hc := ck_c hf
    replace hf := ck_r hf
    refine va_iald hx hb hK hP 1 1 rfl rfl (z_ix_in hc) dX12_rule_60 (z_ci (z_ald v_p0_st hc) ?_)
    clear hc
    obtain rfl := ou1 hf
    rw [hQ]
    exact W.iret hx hb hr (fun t ht hW => ⟨⟨_, (), rfl, rfl, by rw [ht]; exact hP, va_K.moved hW.alike hK, hD⟩, hS.F ht⟩) hS.2.2 dX12_rule_61
  replace hf := ite_f hk5 hf
  rcases Decidable.em (x1 = (4 : Int)) with hk6 | hk6
  ·
    replace hf := ite_t hk6 hf
    refine lv_tableIn (tgt := 62) hx hb dX12_rule_1 (by rw [hk6]; decide) (by rw [hk6]; decide) (by rw [hk6]; rfl) (by decide) ?_
    clear hk6 hk2 hk3 hk4 hk5
    refine lv_aload_n hx hb dX12_rule_62 rfl (lv_at hl 0 rfl) ?_
    refine va_get (D := D) (ci := 12) (v := .ref a_p0_st) (C := RX12) (T := TX12) (N := 37) hx hb hts inX12_rule_X12 hown hK hP 0 rfl rfl 0 (by decide) (hts _ mwX12_rule_3) (fun _ h9 => h9) rfl dX12_rule_63 ?_
    refine lv_bipush (v := Int32.ofInt (7 : Int)) hx hb dX12_rule_66 (by decide) ?_
    have hc := ck_c hf
    replace hf := ck_r hf
    refine va_iald hx hb hK hP 1 1 rfl rfl (z_ix_in hc) dX12_rule_68 (z_ci (z_ald v_p0_st hc) ?_)
    clear hc
    obtain rfl := ou1 hf
    rw [hQ]
    exact W.iret hx hb hr (fun t ht hW => ⟨⟨_, (), rfl, rfl, by rw [ht]; exact hP, va_K.moved hW.alike hK, hD⟩, hS.F ht⟩) hS.2.2 dX12_rule_69
  replace hf := ite_f hk6 hf
  refine lv_tableOut (tgt := 70) hx hb dX12_rule_1 (by rw [z_ti hr0]; omega) (by decide) ?_
  clear hk2 hk3 hk4 hk5 hk6
  refine lv_iconst (v := Int32.ofInt (-1 : Int)) hx hb dX12_rule_70 (by decide) ?_
  obtain rfl := ou1 hf
  rw [hQ]
  exact W.iret hx hb hr (fun t ht hW => ⟨⟨_, (), rfl, rfl, by rw [ht]; exact hP, va_K.moved hW.alike hK, hD⟩, hS.F ht⟩) hS.2.2 dX12_rule_71

noncomputable def f_X12_pot (i_p0_seats : Int) (v_p0_st : (Int → Int)) (x1 : Int) : Option (Int) := (bd1 (f_X12_isSeat i_p0_seats x1) (fun (z1 : Int) => (ck (z_r32 z1) (if z1 = (0 : Int) then (some (-1 : Int)) else (ck (z_ix x1 152) (some (v_p0_st x1)))))))
abbrev rm_X12_pot : Room := { frames := 2, cells := 0, slots := 0, locals := 46 }
theorem hdV_yX12_isSeat_RX12 : yX12_isSeat.cls = RX12 ∧ yX12_isSeat.cls ≠ "java/lang/invoke/MethodHandle" ∧ yX12_isSeat.cls ≠ "java/lang/invoke/VarHandle" ∧ (parseMethodDescriptor yX12_isSeat.desc).map (fun d => d.parameters.length) = some 1 := by decide +kernel
theorem inX12_pot_X12 : ∀ w ∈ wsX120, w ∈ wsX12_pot := by first | exact fun w h => List.mem_cons_of_mem _ (List.mem_append_right _ h) | decide +kernel
theorem mwX12_pot_2 : Cond.fieldLink RX12 7 "LadleKingsModel" "st" "[I" ∈ wsX12_pot := by first | exact List.mem_of_getElem? (i := 1) rfl | decide +kernel
set_option maxHeartbeats 8000000 in
set_option maxRecDepth 100000 in
theorem c_X12_pot (l : Launch) (D : va_G) (G : Nat → ClassId) (sz : Nat) (a_p0 : Nat) (a_p0_st : Nat) (a_p0_isKept : Nat) (a_p0_brings : Nat) (a_p0_need : Nat) (a_p0_draft : Nat) (a_p0_dStir : Nat) (a_p0_dNeed : Nat) (a_p0_tape : Nat) (a_p0_places : Nat) (a_p0_stirred : Nat) (a_p0_ways : Nat) (a_p0_waysThen : Nat) (a_p0_stays : Nat) (a_p0_fewest : Nat) (a_p0_bowls : Nat) (a_p0_has : Nat) (a_p0_goesOn : Nat) (a_p0_isThere : Nat) (a_p0_isThereThen : Nat) (a_p0_bestRow : Nat) (a_p0_lanes : Nat) (a_p0_sizes : Nat) (a_p0_cells : Nat) (i_p0_seats : Int) (i_p0_stirs : Int) (i_p0_dSeats : Int) (i_p0_dStirs : Int) (i_p0_told : Int) (i_p0_highest : Int) (i_p0_taped : Int) (i_p0_pos : Int) (i_p0_from : Int) (i_p0_sort : Int) (i_p0_value : Int) (i_p0_fault : Int) (i_p0_wrongAt : Int) (i_p0_torn : Int) (v_p0_st : (Int → Int)) (x1 : Int) (r : Int) (hf : f_X12_pot i_p0_seats v_p0_st x1 = some r) : Met l yX12_pot wsX12_pot rm_X12_pot (pcG D G [.ref a_p0, .int (Int32.ofInt x1)] sz [(a_p0, .inr (12, [.ref a_p0_st, .ref a_p0_isKept, .int (Int32.ofInt i_p0_seats), .int (Int32.ofInt i_p0_stirs), .ref a_p0_brings, .ref a_p0_need, .ref a_p0_draft, .int (Int32.ofInt i_p0_dSeats), .int (Int32.ofInt i_p0_dStirs), .ref a_p0_dStir, .ref a_p0_dNeed, .int (Int32.ofInt i_p0_told), .int (Int32.ofInt i_p0_highest), .ref a_p0_tape, .int (Int32.ofInt i_p0_taped), .int (Int32.ofInt i_p0_pos), .int (Int32.ofInt i_p0_from), .int (Int32.ofInt i_p0_sort), .int (Int32.ofInt i_p0_value), .int (Int32.ofInt i_p0_fault), .int (Int32.ofInt i_p0_wrongAt), .ref a_p0_places, .ref a_p0_stirred, .ref a_p0_ways, .ref a_p0_waysThen, .ref a_p0_stays, .ref a_p0_fewest, .ref a_p0_bowls, .ref a_p0_has, .ref a_p0_goesOn, .ref a_p0_isThere, .ref a_p0_isThereThen, .ref a_p0_bestRow, .ref a_p0_lanes, .ref a_p0_sizes, .ref a_p0_cells, .int (Int32.ofInt i_p0_torn)])), (a_p0_st, .inl (G 1, 152, .inl (zA v_p0_st)))]) (qcI D G (Int32.ofInt r) [(a_p0, .inr (12, [.ref a_p0_st, .ref a_p0_isKept, .int (Int32.ofInt i_p0_seats), .int (Int32.ofInt i_p0_stirs), .ref a_p0_brings, .ref a_p0_need, .ref a_p0_draft, .int (Int32.ofInt i_p0_dSeats), .int (Int32.ofInt i_p0_dStirs), .ref a_p0_dStir, .ref a_p0_dNeed, .int (Int32.ofInt i_p0_told), .int (Int32.ofInt i_p0_highest), .ref a_p0_tape, .int (Int32.ofInt i_p0_taped), .int (Int32.ofInt i_p0_pos), .int (Int32.ofInt i_p0_from), .int (Int32.ofInt i_p0_sort), .int (Int32.ofInt i_p0_value), .int (Int32.ofInt i_p0_fault), .int (Int32.ofInt i_p0_wrongAt), .ref a_p0_places, .ref a_p0_stirred, .ref a_p0_ways, .ref a_p0_waysThen, .ref a_p0_stays, .ref a_p0_fewest, .ref a_p0_bowls, .ref a_p0_has, .ref a_p0_goesOn, .ref a_p0_isThere, .ref a_p0_isThereThen, .ref a_p0_bestRow, .ref a_p0_lanes, .ref a_p0_sizes, .ref a_p0_cells, .int (Int32.ofInt i_p0_torn)])), (a_p0_st, .inl (G 1, 152, .inl (zA v_p0_st)))] (va_A [(a_p0, .inr (12, [.ref a_p0_st, .ref a_p0_isKept, .int (Int32.ofInt i_p0_seats), .int (Int32.ofInt i_p0_stirs), .ref a_p0_brings, .ref a_p0_need, .ref a_p0_draft, .int (Int32.ofInt i_p0_dSeats), .int (Int32.ofInt i_p0_dStirs), .ref a_p0_dStir, .ref a_p0_dNeed, .int (Int32.ofInt i_p0_told), .int (Int32.ofInt i_p0_highest), .ref a_p0_tape, .int (Int32.ofInt i_p0_taped), .int (Int32.ofInt i_p0_pos), .int (Int32.ofInt i_p0_from), .int (Int32.ofInt i_p0_sort), .int (Int32.ofInt i_p0_value), .int (Int32.ofInt i_p0_fault), .int (Int32.ofInt i_p0_wrongAt), .ref a_p0_places, .ref a_p0_stirred, .ref a_p0_ways, .ref a_p0_waysThen, .ref a_p0_stays, .ref a_p0_fewest, .ref a_p0_bowls, .ref a_p0_has, .ref a_p0_goesOn, .ref a_p0_isThere, .ref a_p0_isThereThen, .ref a_p0_bestRow, .ref a_p0_lanes, .ref a_p0_sizes, .ref a_p0_cells, .int (Int32.ofInt i_p0_torn)])), (a_p0_st, .inl (G 1, 152, .inl (zA v_p0_st)))] sz)) 0 0 (va_A [(a_p0, .inr (12, [.ref a_p0_st, .ref a_p0_isKept, .int (Int32.ofInt i_p0_seats), .int (Int32.ofInt i_p0_stirs), .ref a_p0_brings, .ref a_p0_need, .ref a_p0_draft, .int (Int32.ofInt i_p0_dSeats), .int (Int32.ofInt i_p0_dStirs), .ref a_p0_dStir, .ref a_p0_dNeed, .int (Int32.ofInt i_p0_told), .int (Int32.ofInt i_p0_highest), .ref a_p0_tape, .int (Int32.ofInt i_p0_taped), .int (Int32.ofInt i_p0_pos), .int (Int32.ofInt i_p0_from), .int (Int32.ofInt i_p0_sort), .int (Int32.ofInt i_p0_value), .int (Int32.ofInt i_p0_fault), .int (Int32.ofInt i_p0_wrongAt), .ref a_p0_places, .ref a_p0_stirred, .ref a_p0_ways, .ref a_p0_waysThen, .ref a_p0_stays, .ref a_p0_fewest, .ref a_p0_bowls, .ref a_p0_has, .ref a_p0_goesOn, .ref a_p0_isThere, .ref a_p0_isThereThen, .ref a_p0_bestRow, .ref a_p0_lanes, .ref a_p0_sizes, .ref a_p0_cells, .int (Int32.ofInt i_p0_torn)])), (a_p0_st, .inl (G 1, 152, .inl (zA v_p0_st)))] sz) := by
  refine Met.ofW (cc := cX12_pot) (maxL := 2) (ret := (some .int)) (by decide) rfl ?_
  intro p e s m args below meth c s₁ B hml hv
  obtain ⟨rfl, hsz, hP, hK, hD0⟩ := hv
  have hx := B.exec
  have hb := B.bytes
  have hr := B.returns
  have hts := atoms_spec (ws := wsX12_pot) B.pre
  have hown : s.vm.findClass RX12 = some m.cls := findClass_of_methodNamed B.named
  have hlocks := B.notSynchronized
  subst hsz
  have hD := hD0.self (sz := s.heap.size)
  generalize hAe : va_A [(a_p0, .inr (12, [.ref a_p0_st, .ref a_p0_isKept, .int (Int32.ofInt i_p0_seats), .int (Int32.ofInt i_p0_stirs), .ref a_p0_brings, .ref a_p0_need, .ref a_p0_draft, .int (Int32.ofInt i_p0_dSeats), .int (Int32.ofInt i_p0_dStirs), .ref a_p0_dStir, .ref a_p0_dNeed, .int (Int32.ofInt i_p0_told), .int (Int32.ofInt i_p0_highest), .ref a_p0_tape, .int (Int32.ofInt i_p0_taped), .int (Int32.ofInt i_p0_pos), .int (Int32.ofInt i_p0_from), .int (Int32.ofInt i_p0_sort), .int (Int32.ofInt i_p0_value), .int (Int32.ofInt i_p0_fault), .int (Int32.ofInt i_p0_wrongAt), .ref a_p0_places, .ref a_p0_stirred, .ref a_p0_ways, .ref a_p0_waysThen, .ref a_p0_stays, .ref a_p0_fewest, .ref a_p0_bowls, .ref a_p0_has, .ref a_p0_goesOn, .ref a_p0_isThere, .ref a_p0_isThereThen, .ref a_p0_bestRow, .ref a_p0_lanes, .ref a_p0_sizes, .ref a_p0_cells, .int (Int32.ofInt i_p0_torn)])), (a_p0_st, .inl (G 1, 152, .inl (zA v_p0_st)))] s.heap.size = A at hD ⊢
  have hA : ∀ q : Nat, s.heap.size ≤ q → A q := fun q h => by rw [← hAe]; exact Or.inr h
  clear hAe hD0
  have hS : va_S A s.heap s.heap [] := va_S.rf
  have hl := lv_entry ([.ref a_p0, .int (Int32.ofInt x1)]) (n := 2) (Nat.le_of_ble_eq_true rfl)
  rw [lg_entry_eq]
  generalize (lg_sl ([.ref a_p0, .int (Int32.ofInt x1)]) ++ List.replicate (2 - (lg_sl ([.ref a_p0, .int (Int32.ofInt x1)])).length) Slot.unset).toArray = ls at hl ⊢
  have hl : lv_has ls 2 [(0, .ref a_p0), (1, .int (Int32.ofInt x1))] := hl
  refine W_nameQ (fun Q hQ => ?_)
  obtain ⟨H, hH⟩ : ∃ H, H = s.heap := ⟨_, rfl⟩
  replace hS : va_S A s.heap H [] := by rw [hH]; exact hS
  replace hP : va_P D vwCl [(a_p0, .inr (12, [.ref a_p0_st, .ref a_p0_isKept, .int (Int32.ofInt i_p0_seats), .int (Int32.ofInt i_p0_stirs), .ref a_p0_brings, .ref a_p0_need, .ref a_p0_draft, .int (Int32.ofInt i_p0_dSeats), .int (Int32.ofInt i_p0_dStirs), .ref a_p0_dStir, .ref a_p0_dNeed, .int (Int32.ofInt i_p0_told), .int (Int32.ofInt i_p0_highest), .ref a_p0_tape, .int (Int32.ofInt i_p0_taped), .int (Int32.ofInt i_p0_pos), .int (Int32.ofInt i_p0_from), .int (Int32.ofInt i_p0_sort), .int (Int32.ofInt i_p0_value), .int (Int32.ofInt i_p0_fault), .int (Int32.ofInt i_p0_wrongAt), .ref a_p0_places, .ref a_p0_stirred, .ref a_p0_ways, .ref a_p0_waysThen, .ref a_p0_stays, .ref a_p0_fewest, .ref a_p0_bowls, .ref a_p0_has, .ref a_p0_goesOn, .ref a_p0_isThere, .ref a_p0_isThereThen, .ref a_p0_bestRow, .ref a_p0_lanes, .ref a_p0_sizes, .ref a_p0_cells, .int (Int32.ofInt i_p0_torn)])), (a_p0_st, .inl (G 1, 152, .inl (zA v_p0_st)))] H := by rw [hH]; exact hP
  rw [← hH]
  clear hH
  unfold f_X12_pot at hf
  refine lv_aload_n hx hb dX12_pot_0 rfl (lv_at hl 0 rfl) ?_
  refine lv_iload_n hx hb dX12_pot_1 rfl (lv_at hl 1 rfl) ?_
  have hq := bd1_s hf
  clear hf
  obtain ⟨z1, hcall, hf⟩ := hq
  refine gnI (va_runV (As := [.int (Int32.ofInt x1)]) (rest := []) ⟨hx, hb, hml, hown, hts⟩ (c_X12_isSeat (l := l) (D := D) (G := G) (sz := H.size) (a_p0 := a_p0) (a_p0_st := a_p0_st) (a_p0_isKept := a_p0_isKept) (a_p0_brings := a_p0_brings) (a_p0_need := a_p0_need) (a_p0_draft := a_p0_draft) (a_p0_dStir := a_p0_dStir) (a_p0_dNeed := a_p0_dNeed) (a_p0_tape := a_p0_tape) (a_p0_places := a_p0_places) (a_p0_stirred := a_p0_stirred) (a_p0_ways := a_p0_ways) (a_p0_waysThen := a_p0_waysThen) (a_p0_stays := a_p0_stays) (a_p0_fewest := a_p0_fewest) (a_p0_bowls := a_p0_bowls) (a_p0_has := a_p0_has) (a_p0_goesOn := a_p0_goesOn) (a_p0_isThere := a_p0_isThere) (a_p0_isThereThen := a_p0_isThereThen) (a_p0_bestRow := a_p0_bestRow) (a_p0_lanes := a_p0_lanes) (a_p0_sizes := a_p0_sizes) (a_p0_cells := a_p0_cells) (i_p0_seats := i_p0_seats) (i_p0_stirs := i_p0_stirs) (i_p0_dSeats := i_p0_dSeats) (i_p0_dStirs := i_p0_dStirs) (i_p0_told := i_p0_told) (i_p0_highest := i_p0_highest) (i_p0_taped := i_p0_taped) (i_p0_pos := i_p0_pos) (i_p0_from := i_p0_from) (i_p0_sort := i_p0_sort) (i_p0_value := i_p0_value) (i_p0_fault := i_p0_fault) (i_p0_wrongAt := i_p0_wrongAt) (i_p0_torn := i_p0_torn) (x1 := x1) (r := z1) (hf := hcall)) (cwV 1 hts gX12_pot_X12_isSeat rfl rfl rfl hdV_yX12_isSeat_RX12 ⟨Nat.le_of_ble_eq_true rfl, Nat.le_of_ble_eq_true rfl⟩) (preG_V (ci := 12) (q := (RX12, TX12, 37)) (hP.sub [0] rfl) (hD.sub [0] rfl rfl) hK rfl rfl) rfl rfl hl.1 rfl (lv_room (Nat.le_of_ble_eq_true rfl)) dX12_pot_2 ⟨Nat.le_of_ble_eq_true rfl, Nat.le_of_ble_eq_true rfl⟩) hP hD hS hA [0] rfl (fun H locs hP hD hS => ?_)
  clear hcall
  have hr1 := ck_c hf
  replace hf := ck_r hf
  refine lv_if_eq (tgt := 17) hx hb dX12_pot_5 (by decide) (fun cc => ?_) (fun cc => ?_)
  ·
    replace hf := ite_t ((z_eq0 hr1).mp cc) hf
    clear cc
    refine lv_iconst (v := Int32.ofInt (-1 : Int)) hx hb dX12_pot_17 (by decide) ?_
    obtain rfl := ou1 hf
    rw [hQ]
    exact W.iret hx hb hr (fun t ht hW => ⟨⟨_, (), rfl, rfl, by rw [ht]; exact hP, va_K.moved hW.alike hK, hD⟩, hS.F ht⟩) hS.2.2 dX12_pot_18
  ·
    replace hf := ite_f (fun h9 => cc ((z_eq0 hr1).mpr h9)) hf
    clear cc
    refine lv_aload_n hx hb dX12_pot_8 rfl (lv_at hl 0 rfl) ?_
    refine va_get (D := D) (ci := 12) (v := .ref a_p0_st) (C := RX12) (T := TX12) (N := 37) hx hb hts inX12_pot_X12 hown hK hP 0 rfl rfl 0 (by decide) (hts _ mwX12_pot_2) (fun _ h9 => h9) rfl dX12_pot_9 ?_
    refine lv_iload_n hx hb dX12_pot_12 rfl (lv_at hl 1 rfl) ?_
    have hc := ck_c hf
    replace hf := ck_r hf
    refine va_iald hx hb hK hP 1 1 rfl rfl (z_ix_in hc) dX12_pot_13 (z_ci (z_ald v_p0_st hc) ?_)
    clear hc
    refine lv_goto (tgt := 18) hx hb dX12_pot_14 (by decide) ?_
    obtain rfl := ou1 hf
    rw [hQ]
    exact W.iret hx hb hr (fun t ht hW => ⟨⟨_, (), rfl, rfl, by rw [ht]; exact hP, va_K.moved hW.alike hK, hD⟩, hS.F ht⟩) hS.2.2 dX12_pot_18

noncomputable def f_X12_one (i_p0_seats : Int) (v_p0_st : (Int → Int)) (v_p0_need : (Int → Int)) (x1 : Int) (x2 : Int) : Option (Int) := (bd1 (f_X12_isSeat i_p0_seats x1) (fun (z1 : Int) => (ck (z_r32 z1) (if z1 = (0 : Int) then (some (-1 : Int)) else (ck (z_r32 x2) (if x2 = (0 : Int) then (ck (z_ix ((9 : Int) + x1) 152) (some (v_p0_st ((9 : Int) + x1)))) else (if x2 = (1 : Int) then (ck (z_ix ((16 : Int) + x1) 152) (some (v_p0_st ((16 : Int) + x1)))) else (if x2 = (2 : Int) then (ck (z_ix x1 7) (some (v_p0_need x1))) else (if x2 = (3 : Int) then (ck (z_ix ((23 : Int) + x1) 152) (some (v_p0_st ((23 : Int) + x1)))) else (some (-1 : Int)))))))))))
abbrev rm_X12_one : Room := { frames := 2, cells := 0, slots := 0, locals := 46 }
theorem inX12_one_X12 : ∀ w ∈ wsX120, w ∈ wsX12_one := by first | exact fun w h => List.mem_cons_of_mem _ (List.mem_append_right _ h) | decide +kernel
theorem mwX12_one_1 : Cond.fieldLink RX12 7 "LadleKingsModel" "st" "[I" ∈ wsX12_one := by first | exact List.mem_of_getElem? (i := 1) rfl | decide +kernel
theorem mwX12_one_2 : Cond.fieldLink RX12 20 "LadleKingsModel" "need" "[I" ∈ wsX12_one := by first | exact List.mem_of_getElem? (i := 2) rfl | decide +kernel
set_option maxHeartbeats 8000000 in
set_option maxRecDepth 100000 in
theorem c_X12_one (l : Launch) (D : va_G) (G : Nat → ClassId) (sz : Nat) (a_p0 : Nat) (a_p0_st : Nat) (a_p0_isKept : Nat) (a_p0_brings : Nat) (a_p0_need : Nat) (a_p0_draft : Nat) (a_p0_dStir : Nat) (a_p0_dNeed : Nat) (a_p0_tape : Nat) (a_p0_places : Nat) (a_p0_stirred : Nat) (a_p0_ways : Nat) (a_p0_waysThen : Nat) (a_p0_stays : Nat) (a_p0_fewest : Nat) (a_p0_bowls : Nat) (a_p0_has : Nat) (a_p0_goesOn : Nat) (a_p0_isThere : Nat) (a_p0_isThereThen : Nat) (a_p0_bestRow : Nat) (a_p0_lanes : Nat) (a_p0_sizes : Nat) (a_p0_cells : Nat) (i_p0_seats : Int) (i_p0_stirs : Int) (i_p0_dSeats : Int) (i_p0_dStirs : Int) (i_p0_told : Int) (i_p0_highest : Int) (i_p0_taped : Int) (i_p0_pos : Int) (i_p0_from : Int) (i_p0_sort : Int) (i_p0_value : Int) (i_p0_fault : Int) (i_p0_wrongAt : Int) (i_p0_torn : Int) (v_p0_st : (Int → Int)) (v_p0_need : (Int → Int)) (x1 : Int) (x2 : Int) (r : Int) (hf : f_X12_one i_p0_seats v_p0_st v_p0_need x1 x2 = some r) : Met l yX12_one wsX12_one rm_X12_one (pcG D G [.ref a_p0, .int (Int32.ofInt x1), .int (Int32.ofInt x2)] sz [(a_p0, .inr (12, [.ref a_p0_st, .ref a_p0_isKept, .int (Int32.ofInt i_p0_seats), .int (Int32.ofInt i_p0_stirs), .ref a_p0_brings, .ref a_p0_need, .ref a_p0_draft, .int (Int32.ofInt i_p0_dSeats), .int (Int32.ofInt i_p0_dStirs), .ref a_p0_dStir, .ref a_p0_dNeed, .int (Int32.ofInt i_p0_told), .int (Int32.ofInt i_p0_highest), .ref a_p0_tape, .int (Int32.ofInt i_p0_taped), .int (Int32.ofInt i_p0_pos), .int (Int32.ofInt i_p0_from), .int (Int32.ofInt i_p0_sort), .int (Int32.ofInt i_p0_value), .int (Int32.ofInt i_p0_fault), .int (Int32.ofInt i_p0_wrongAt), .ref a_p0_places, .ref a_p0_stirred, .ref a_p0_ways, .ref a_p0_waysThen, .ref a_p0_stays, .ref a_p0_fewest, .ref a_p0_bowls, .ref a_p0_has, .ref a_p0_goesOn, .ref a_p0_isThere, .ref a_p0_isThereThen, .ref a_p0_bestRow, .ref a_p0_lanes, .ref a_p0_sizes, .ref a_p0_cells, .int (Int32.ofInt i_p0_torn)])), (a_p0_st, .inl (G 1, 152, .inl (zA v_p0_st))), (a_p0_need, .inl (G 1, 7, .inl (zA v_p0_need)))]) (qcI D G (Int32.ofInt r) [(a_p0, .inr (12, [.ref a_p0_st, .ref a_p0_isKept, .int (Int32.ofInt i_p0_seats), .int (Int32.ofInt i_p0_stirs), .ref a_p0_brings, .ref a_p0_need, .ref a_p0_draft, .int (Int32.ofInt i_p0_dSeats), .int (Int32.ofInt i_p0_dStirs), .ref a_p0_dStir, .ref a_p0_dNeed, .int (Int32.ofInt i_p0_told), .int (Int32.ofInt i_p0_highest), .ref a_p0_tape, .int (Int32.ofInt i_p0_taped), .int (Int32.ofInt i_p0_pos), .int (Int32.ofInt i_p0_from), .int (Int32.ofInt i_p0_sort), .int (Int32.ofInt i_p0_value), .int (Int32.ofInt i_p0_fault), .int (Int32.ofInt i_p0_wrongAt), .ref a_p0_places, .ref a_p0_stirred, .ref a_p0_ways, .ref a_p0_waysThen, .ref a_p0_stays, .ref a_p0_fewest, .ref a_p0_bowls, .ref a_p0_has, .ref a_p0_goesOn, .ref a_p0_isThere, .ref a_p0_isThereThen, .ref a_p0_bestRow, .ref a_p0_lanes, .ref a_p0_sizes, .ref a_p0_cells, .int (Int32.ofInt i_p0_torn)])), (a_p0_st, .inl (G 1, 152, .inl (zA v_p0_st))), (a_p0_need, .inl (G 1, 7, .inl (zA v_p0_need)))] (va_A [(a_p0, .inr (12, [.ref a_p0_st, .ref a_p0_isKept, .int (Int32.ofInt i_p0_seats), .int (Int32.ofInt i_p0_stirs), .ref a_p0_brings, .ref a_p0_need, .ref a_p0_draft, .int (Int32.ofInt i_p0_dSeats), .int (Int32.ofInt i_p0_dStirs), .ref a_p0_dStir, .ref a_p0_dNeed, .int (Int32.ofInt i_p0_told), .int (Int32.ofInt i_p0_highest), .ref a_p0_tape, .int (Int32.ofInt i_p0_taped), .int (Int32.ofInt i_p0_pos), .int (Int32.ofInt i_p0_from), .int (Int32.ofInt i_p0_sort), .int (Int32.ofInt i_p0_value), .int (Int32.ofInt i_p0_fault), .int (Int32.ofInt i_p0_wrongAt), .ref a_p0_places, .ref a_p0_stirred, .ref a_p0_ways, .ref a_p0_waysThen, .ref a_p0_stays, .ref a_p0_fewest, .ref a_p0_bowls, .ref a_p0_has, .ref a_p0_goesOn, .ref a_p0_isThere, .ref a_p0_isThereThen, .ref a_p0_bestRow, .ref a_p0_lanes, .ref a_p0_sizes, .ref a_p0_cells, .int (Int32.ofInt i_p0_torn)])), (a_p0_st, .inl (G 1, 152, .inl (zA v_p0_st))), (a_p0_need, .inl (G 1, 7, .inl (zA v_p0_need)))] sz)) 0 0 (va_A [(a_p0, .inr (12, [.ref a_p0_st, .ref a_p0_isKept, .int (Int32.ofInt i_p0_seats), .int (Int32.ofInt i_p0_stirs), .ref a_p0_brings, .ref a_p0_need, .ref a_p0_draft, .int (Int32.ofInt i_p0_dSeats), .int (Int32.ofInt i_p0_dStirs), .ref a_p0_dStir, .ref a_p0_dNeed, .int (Int32.ofInt i_p0_told), .int (Int32.ofInt i_p0_highest), .ref a_p0_tape, .int (Int32.ofInt i_p0_taped), .int (Int32.ofInt i_p0_pos), .int (Int32.ofInt i_p0_from), .int (Int32.ofInt i_p0_sort), .int (Int32.ofInt i_p0_value), .int (Int32.ofInt i_p0_fault), .int (Int32.ofInt i_p0_wrongAt), .ref a_p0_places, .ref a_p0_stirred, .ref a_p0_ways, .ref a_p0_waysThen, .ref a_p0_stays, .ref a_p0_fewest, .ref a_p0_bowls, .ref a_p0_has, .ref a_p0_goesOn, .ref a_p0_isThere, .ref a_p0_isThereThen, .ref a_p0_bestRow, .ref a_p0_lanes, .ref a_p0_sizes, .ref a_p0_cells, .int (Int32.ofInt i_p0_torn)])), (a_p0_st, .inl (G 1, 152, .inl (zA v_p0_st))), (a_p0_need, .inl (G 1, 7, .inl (zA v_p0_need)))] sz) := by
  refine Met.ofW (cc := cX12_one) (maxL := 3) (ret := (some .int)) (by decide) rfl ?_
  intro p e s m args below meth c s₁ B hml hv
  obtain ⟨rfl, hsz, hP, hK, hD0⟩ := hv
  have hx := B.exec
  have hb := B.bytes
  have hr := B.returns
  have hts := atoms_spec (ws := wsX12_one) B.pre
  have hown : s.vm.findClass RX12 = some m.cls := findClass_of_methodNamed B.named
  have hlocks := B.notSynchronized
  subst hsz
  have hD := hD0.self (sz := s.heap.size)
  generalize hAe : va_A [(a_p0, .inr (12, [.ref a_p0_st, .ref a_p0_isKept, .int (Int32.ofInt i_p0_seats), .int (Int32.ofInt i_p0_stirs), .ref a_p0_brings, .ref a_p0_need, .ref a_p0_draft, .int (Int32.ofInt i_p0_dSeats), .int (Int32.ofInt i_p0_dStirs), .ref a_p0_dStir, .ref a_p0_dNeed, .int (Int32.ofInt i_p0_told), .int (Int32.ofInt i_p0_highest), .ref a_p0_tape, .int (Int32.ofInt i_p0_taped), .int (Int32.ofInt i_p0_pos), .int (Int32.ofInt i_p0_from), .int (Int32.ofInt i_p0_sort), .int (Int32.ofInt i_p0_value), .int (Int32.ofInt i_p0_fault), .int (Int32.ofInt i_p0_wrongAt), .ref a_p0_places, .ref a_p0_stirred, .ref a_p0_ways, .ref a_p0_waysThen, .ref a_p0_stays, .ref a_p0_fewest, .ref a_p0_bowls, .ref a_p0_has, .ref a_p0_goesOn, .ref a_p0_isThere, .ref a_p0_isThereThen, .ref a_p0_bestRow, .ref a_p0_lanes, .ref a_p0_sizes, .ref a_p0_cells, .int (Int32.ofInt i_p0_torn)])), (a_p0_st, .inl (G 1, 152, .inl (zA v_p0_st))), (a_p0_need, .inl (G 1, 7, .inl (zA v_p0_need)))] s.heap.size = A at hD ⊢
  have hA : ∀ q : Nat, s.heap.size ≤ q → A q := fun q h => by rw [← hAe]; exact Or.inr h
  clear hAe hD0
  have hS : va_S A s.heap s.heap [] := va_S.rf
  have hl := lv_entry ([.ref a_p0, .int (Int32.ofInt x1), .int (Int32.ofInt x2)]) (n := 3) (Nat.le_of_ble_eq_true rfl)
  rw [lg_entry_eq]
  generalize (lg_sl ([.ref a_p0, .int (Int32.ofInt x1), .int (Int32.ofInt x2)]) ++ List.replicate (3 - (lg_sl ([.ref a_p0, .int (Int32.ofInt x1), .int (Int32.ofInt x2)])).length) Slot.unset).toArray = ls at hl ⊢
  have hl : lv_has ls 3 [(0, .ref a_p0), (1, .int (Int32.ofInt x1)), (2, .int (Int32.ofInt x2))] := hl
  refine W_nameQ (fun Q hQ => ?_)
  obtain ⟨H, hH⟩ : ∃ H, H = s.heap := ⟨_, rfl⟩
  replace hS : va_S A s.heap H [] := by rw [hH]; exact hS
  replace hP : va_P D vwCl [(a_p0, .inr (12, [.ref a_p0_st, .ref a_p0_isKept, .int (Int32.ofInt i_p0_seats), .int (Int32.ofInt i_p0_stirs), .ref a_p0_brings, .ref a_p0_need, .ref a_p0_draft, .int (Int32.ofInt i_p0_dSeats), .int (Int32.ofInt i_p0_dStirs), .ref a_p0_dStir, .ref a_p0_dNeed, .int (Int32.ofInt i_p0_told), .int (Int32.ofInt i_p0_highest), .ref a_p0_tape, .int (Int32.ofInt i_p0_taped), .int (Int32.ofInt i_p0_pos), .int (Int32.ofInt i_p0_from), .int (Int32.ofInt i_p0_sort), .int (Int32.ofInt i_p0_value), .int (Int32.ofInt i_p0_fault), .int (Int32.ofInt i_p0_wrongAt), .ref a_p0_places, .ref a_p0_stirred, .ref a_p0_ways, .ref a_p0_waysThen, .ref a_p0_stays, .ref a_p0_fewest, .ref a_p0_bowls, .ref a_p0_has, .ref a_p0_goesOn, .ref a_p0_isThere, .ref a_p0_isThereThen, .ref a_p0_bestRow, .ref a_p0_lanes, .ref a_p0_sizes, .ref a_p0_cells, .int (Int32.ofInt i_p0_torn)])), (a_p0_st, .inl (G 1, 152, .inl (zA v_p0_st))), (a_p0_need, .inl (G 1, 7, .inl (zA v_p0_need)))] H := by rw [hH]; exact hP
  rw [← hH]
  clear hH
  unfold f_X12_one at hf
  refine lv_aload_n hx hb dX12_one_0 rfl (lv_at hl 0 rfl) ?_
  refine lv_iload_n hx hb dX12_one_1 rfl (lv_at hl 1 rfl) ?_
  have hq := bd1_s hf
  clear hf
  obtain ⟨z1, hcall, hf⟩ := hq
  refine gnI (va_runV (As := [.int (Int32.ofInt x1)]) (rest := []) ⟨hx, hb, hml, hown, hts⟩ (c_X12_isSeat (l := l) (D := D) (G := G) (sz := H.size) (a_p0 := a_p0) (a_p0_st := a_p0_st) (a_p0_isKept := a_p0_isKept) (a_p0_brings := a_p0_brings) (a_p0_need := a_p0_need) (a_p0_draft := a_p0_draft) (a_p0_dStir := a_p0_dStir) (a_p0_dNeed := a_p0_dNeed) (a_p0_tape := a_p0_tape) (a_p0_places := a_p0_places) (a_p0_stirred := a_p0_stirred) (a_p0_ways := a_p0_ways) (a_p0_waysThen := a_p0_waysThen) (a_p0_stays := a_p0_stays) (a_p0_fewest := a_p0_fewest) (a_p0_bowls := a_p0_bowls) (a_p0_has := a_p0_has) (a_p0_goesOn := a_p0_goesOn) (a_p0_isThere := a_p0_isThere) (a_p0_isThereThen := a_p0_isThereThen) (a_p0_bestRow := a_p0_bestRow) (a_p0_lanes := a_p0_lanes) (a_p0_sizes := a_p0_sizes) (a_p0_cells := a_p0_cells) (i_p0_seats := i_p0_seats) (i_p0_stirs := i_p0_stirs) (i_p0_dSeats := i_p0_dSeats) (i_p0_dStirs := i_p0_dStirs) (i_p0_told := i_p0_told) (i_p0_highest := i_p0_highest) (i_p0_taped := i_p0_taped) (i_p0_pos := i_p0_pos) (i_p0_from := i_p0_from) (i_p0_sort := i_p0_sort) (i_p0_value := i_p0_value) (i_p0_fault := i_p0_fault) (i_p0_wrongAt := i_p0_wrongAt) (i_p0_torn := i_p0_torn) (x1 := x1) (r := z1) (hf := hcall)) (cwV 1 hts gX12_one_X12_isSeat rfl rfl rfl hdV_yX12_isSeat_RX12 ⟨Nat.le_of_ble_eq_true rfl, Nat.le_of_ble_eq_true rfl⟩) (preG_V (ci := 12) (q := (RX12, TX12, 37)) (hP.sub [0] rfl) (hD.sub [0] rfl rfl) hK rfl rfl) rfl rfl hl.1 rfl (lv_room (Nat.le_of_ble_eq_true rfl)) dX12_one_2 ⟨Nat.le_of_ble_eq_true rfl, Nat.le_of_ble_eq_true rfl⟩) hP hD hS hA [0] rfl (fun H locs hP hD hS => ?_)
  clear hcall
  have hr1 := ck_c hf
  replace hf := ck_r hf
  refine lv_if_ne (tgt := 10) hx hb dX12_one_5 (by decide) (fun cc => ?_) (fun cc => ?_)
  ·
    replace hf := ite_f (fun h9 => cc ((z_eq0 hr1).mpr h9)) hf
    clear cc
    refine lv_iload_n hx hb dX12_one_10 rfl (lv_at hl 2 rfl) ?_
    have hr2 := ck_c hf
    replace hf := ck_r hf
    rcases Decidable.em (x2 = (0 : Int)) with hk4 | hk4
    ·
      replace hf := ite_t hk4 hf
      refine lv_tableIn (tgt := 40) hx hb dX12_one_11 (by rw [hk4]; decide) (by rw [hk4]; decide) (by rw [hk4]; rfl) (by decide) ?_
      clear hk4
      refine lv_aload_n hx hb dX12_one_40 rfl (lv_at hl 0 rfl) ?_
      refine va_get (D := D) (ci := 12) (v := .ref a_p0_st) (C := RX12) (T := TX12) (N := 37) hx hb hts inX12_one_X12 hown hK hP 0 rfl rfl 0 (by decide) (hts _ mwX12_one_1) (fun _ h9 => h9) rfl dX12_one_41 ?_
      refine lv_bipush (v := Int32.ofInt (9 : Int)) hx hb dX12_one_44 (by decide) ?_
      refine lv_iload_n hx hb dX12_one_46 rfl (lv_at hl 1 rfl) ?_
      refine lv_iadd hx hb dX12_one_47 (z_ci (Int32.ofInt_add (9 : Int) x1) ?_)
      have hc := ck_c hf
      replace hf := ck_r hf
      refine va_iald hx hb hK hP 1 1 rfl rfl (z_ix_in hc) dX12_one_48 (z_ci (z_ald v_p0_st hc) ?_)
      clear hc
      obtain rfl := ou1 hf
      rw [hQ]
      exact W.iret hx hb hr (fun t ht hW => ⟨⟨_, (), rfl, rfl, by rw [ht]; exact hP, va_K.moved hW.alike hK, hD⟩, hS.F ht⟩) hS.2.2 dX12_one_49
    replace hf := ite_f hk4 hf
    rcases Decidable.em (x2 = (1 : Int)) with hk5 | hk5
    ·
      replace hf := ite_t hk5 hf
      refine lv_tableIn (tgt := 50) hx hb dX12_one_11 (by rw [hk5]; decide) (by rw [hk5]; decide) (by rw [hk5]; rfl) (by decide) ?_
      clear hk5 hk4
      refine lv_aload_n hx hb dX12_one_50 rfl (lv_at hl 0 rfl) ?_
      refine va_get (D := D) (ci := 12) (v := .ref a_p0_st) (C := RX12) (T := TX12) (N := 37) hx hb hts inX12_one_X12 hown hK hP 0 rfl rfl 0 (by decide) (hts _ mwX12_one_1) (fun _ h9 => h9) rfl dX12_one_51 ?_
      refine lv_bipush (v := Int32.ofInt (16 : Int)) hx hb dX12_one_54 (by decide) ?_
      refine lv_iload_n hx hb dX12_one_56 rfl (lv_at hl 1 rfl) ?_
      refine lv_iadd hx hb dX12_one_57 (z_ci (Int32.ofInt_add (16 : Int) x1) ?_)
      have hc := ck_c hf
      replace hf := ck_r hf
      refine va_iald hx hb hK hP 1 1 rfl rfl (z_ix_in hc) dX12_one_58 (z_ci (z_ald v_p0_st hc) ?_)
      clear hc
      obtain rfl := ou1 hf
      rw [hQ]
      exact W.iret hx hb hr (fun t ht hW => ⟨⟨_, (), rfl, rfl, by rw [ht]; exact hP, va_K.moved hW.alike hK, hD⟩, hS.F ht⟩) hS.2.2 dX12_one_59
    replace hf := ite_f hk5 hf
    rcases Decidable.em (x2 = (2 : Int)) with hk6 | hk6
    ·
      replace hf := ite_t hk6 hf
      refine lv_tableIn (tgt := 60) hx hb dX12_one_11 (by rw [hk6]; decide) (by rw [hk6]; decide) (by rw [hk6]; rfl) (by decide) ?_
      clear hk6 hk4 hk5
      refine lv_aload_n hx hb dX12_one_60 rfl (lv_at hl 0 rfl) ?_
      refine va_get (D := D) (ci := 12) (v := .ref a_p0_need) (C := RX12) (T := TX12) (N := 37) hx hb hts inX12_one_X12 hown hK hP 0 rfl rfl 5 (by decide) (hts _ mwX12_one_2) (fun _ h9 => h9) rfl dX12_one_61 ?_
      refine lv_iload_n hx hb dX12_one_64 rfl (lv_at hl 1 rfl) ?_
      have hc := ck_c hf
      replace hf := ck_r hf
      refine va_iald hx hb hK hP 2 1 rfl rfl (z_ix_in hc) dX12_one_65 (z_ci (z_ald v_p0_need hc) ?_)
      clear hc
      obtain rfl := ou1 hf
      rw [hQ]
      exact W.iret hx hb hr (fun t ht hW => ⟨⟨_, (), rfl, rfl, by rw [ht]; exact hP, va_K.moved hW.alike hK, hD⟩, hS.F ht⟩) hS.2.2 dX12_one_66
    replace hf := ite_f hk6 hf
    rcases Decidable.em (x2 = (3 : Int)) with hk7 | hk7
    ·
      replace hf := ite_t hk7 hf
      refine lv_tableIn (tgt := 67) hx hb dX12_one_11 (by rw [hk7]; decide) (by rw [hk7]; decide) (by rw [hk7]; rfl) (by decide) ?_
      clear hk7 hk4 hk5 hk6
      refine lv_aload_n hx hb dX12_one_67 rfl (lv_at hl 0 rfl) ?_
      refine va_get (D := D) (ci := 12) (v := .ref a_p0_st) (C := RX12) (T := TX12) (N := 37) hx hb hts inX12_one_X12 hown hK hP 0 rfl rfl 0 (by decide) (hts _ mwX12_one_1) (fun _ h9 => h9) rfl dX12_one_68 ?_
      refine lv_bipush (v := Int32.ofInt (23 : Int)) hx hb dX12_one_71 (by decide) ?_
      refine lv_iload_n hx hb dX12_one_73 rfl (lv_at hl 1 rfl) ?_
      refine lv_iadd hx hb dX12_one_74 (z_ci (Int32.ofInt_add (23 : Int) x1) ?_)
      have hc := ck_c hf
      replace hf := ck_r hf
      refine va_iald hx hb hK hP 1 1 rfl rfl (z_ix_in hc) dX12_one_75 (z_ci (z_ald v_p0_st hc) ?_)
      clear hc
      obtain rfl := ou1 hf
      rw [hQ]
      exact W.iret hx hb hr (fun t ht hW => ⟨⟨_, (), rfl, rfl, by rw [ht]; exact hP, va_K.moved hW.alike hK, hD⟩, hS.F ht⟩) hS.2.2 dX12_one_76
    replace hf := ite_f hk7 hf
    refine lv_tableOut (tgt := 77) hx hb dX12_one_11 (by rw [z_ti hr2]; omega) (by decide) ?_
    clear hk4 hk5 hk6 hk7
    refine lv_iconst (v := Int32.ofInt (-1 : Int)) hx hb dX12_one_77 (by decide) ?_
    obtain rfl := ou1 hf
    rw [hQ]
    exact W.iret hx hb hr (fun t ht hW => ⟨⟨_, (), rfl, rfl, by rw [ht]; exact hP, va_K.moved hW.alike hK, hD⟩, hS.F ht⟩) hS.2.2 dX12_one_78
  ·
    replace hf := ite_t ((z_eq0 hr1).mp cc) hf
    clear cc
    refine lv_iconst (v := Int32.ofInt (-1 : Int)) hx hb dX12_one_8 (by decide) ?_
    obtain rfl := ou1 hf
    rw [hQ]
    exact W.iret hx hb hr (fun t ht hW => ⟨⟨_, (), rfl, rfl, by rw [ht]; exact hP, va_K.moved hW.alike hK, hD⟩, hS.F ht⟩) hS.2.2 dX12_one_9

noncomputable def f_X12_stir (i_p0_seats : Int) (i_p0_stirs : Int) (v_p0_brings : (Int → Int)) (x1 : Int) (x2 : Int) : Option (Int) := (bd1 (f_X12_isStir i_p0_stirs x1) (fun (z1 : Int) => (ck (z_r32 z1) (if z1 = (0 : Int) then (some (-1 : Int)) else (bd1 (f_X12_isSeat i_p0_seats x2) (fun (z3 : Int) => (ck (z_r32 z3) (if z3 = (0 : Int) then (some (-1 : Int)) else (ck (z_ix (((7 : Int) * x1) + x2) 35) (some (v_p0_brings (((7 : Int) * x1) + x2))))))))))))
abbrev rm_X12_stir : Room := { frames := 2, cells := 0, slots := 0, locals := 46 }
theorem hdV_yX12_isStir_RX12 : yX12_isStir.cls = RX12 ∧ yX12_isStir.cls ≠ "java/lang/invoke/MethodHandle" ∧ yX12_isStir.cls ≠ "java/lang/invoke/VarHandle" ∧ (parseMethodDescriptor yX12_isStir.desc).map (fun d => d.parameters.length) = some 1 := by decide +kernel
theorem inX12_stir_X12 : ∀ w ∈ wsX120, w ∈ wsX12_stir := by first | exact fun w h => List.mem_cons_of_mem _ (List.mem_append_right _ h) | decide +kernel
theorem mwX12_stir_2 : Cond.fieldLink RX12 17 "LadleKingsModel" "brings" "[I" ∈ wsX12_stir := by first | exact List.mem_of_getElem? (i := 1) rfl | decide +kernel
set_option maxHeartbeats 8000000 in
set_option maxRecDepth 100000 in
theorem c_X12_stir (l : Launch) (D : va_G) (G : Nat → ClassId) (sz : Nat) (a_p0 : Nat) (a_p0_st : Nat) (a_p0_isKept : Nat) (a_p0_brings : Nat) (a_p0_need : Nat) (a_p0_draft : Nat) (a_p0_dStir : Nat) (a_p0_dNeed : Nat) (a_p0_tape : Nat) (a_p0_places : Nat) (a_p0_stirred : Nat) (a_p0_ways : Nat) (a_p0_waysThen : Nat) (a_p0_stays : Nat) (a_p0_fewest : Nat) (a_p0_bowls : Nat) (a_p0_has : Nat) (a_p0_goesOn : Nat) (a_p0_isThere : Nat) (a_p0_isThereThen : Nat) (a_p0_bestRow : Nat) (a_p0_lanes : Nat) (a_p0_sizes : Nat) (a_p0_cells : Nat) (i_p0_seats : Int) (i_p0_stirs : Int) (i_p0_dSeats : Int) (i_p0_dStirs : Int) (i_p0_told : Int) (i_p0_highest : Int) (i_p0_taped : Int) (i_p0_pos : Int) (i_p0_from : Int) (i_p0_sort : Int) (i_p0_value : Int) (i_p0_fault : Int) (i_p0_wrongAt : Int) (i_p0_torn : Int) (v_p0_brings : (Int → Int)) (x1 : Int) (x2 : Int) (r : Int) (hf : f_X12_stir i_p0_seats i_p0_stirs v_p0_brings x1 x2 = some r) : Met l yX12_stir wsX12_stir rm_X12_stir (pcG D G [.ref a_p0, .int (Int32.ofInt x1), .int (Int32.ofInt x2)] sz [(a_p0, .inr (12, [.ref a_p0_st, .ref a_p0_isKept, .int (Int32.ofInt i_p0_seats), .int (Int32.ofInt i_p0_stirs), .ref a_p0_brings, .ref a_p0_need, .ref a_p0_draft, .int (Int32.ofInt i_p0_dSeats), .int (Int32.ofInt i_p0_dStirs), .ref a_p0_dStir, .ref a_p0_dNeed, .int (Int32.ofInt i_p0_told), .int (Int32.ofInt i_p0_highest), .ref a_p0_tape, .int (Int32.ofInt i_p0_taped), .int (Int32.ofInt i_p0_pos), .int (Int32.ofInt i_p0_from), .int (Int32.ofInt i_p0_sort), .int (Int32.ofInt i_p0_value), .int (Int32.ofInt i_p0_fault), .int (Int32.ofInt i_p0_wrongAt), .ref a_p0_places, .ref a_p0_stirred, .ref a_p0_ways, .ref a_p0_waysThen, .ref a_p0_stays, .ref a_p0_fewest, .ref a_p0_bowls, .ref a_p0_has, .ref a_p0_goesOn, .ref a_p0_isThere, .ref a_p0_isThereThen, .ref a_p0_bestRow, .ref a_p0_lanes, .ref a_p0_sizes, .ref a_p0_cells, .int (Int32.ofInt i_p0_torn)])), (a_p0_brings, .inl (G 1, 35, .inl (zA v_p0_brings)))]) (qcI D G (Int32.ofInt r) [(a_p0, .inr (12, [.ref a_p0_st, .ref a_p0_isKept, .int (Int32.ofInt i_p0_seats), .int (Int32.ofInt i_p0_stirs), .ref a_p0_brings, .ref a_p0_need, .ref a_p0_draft, .int (Int32.ofInt i_p0_dSeats), .int (Int32.ofInt i_p0_dStirs), .ref a_p0_dStir, .ref a_p0_dNeed, .int (Int32.ofInt i_p0_told), .int (Int32.ofInt i_p0_highest), .ref a_p0_tape, .int (Int32.ofInt i_p0_taped), .int (Int32.ofInt i_p0_pos), .int (Int32.ofInt i_p0_from), .int (Int32.ofInt i_p0_sort), .int (Int32.ofInt i_p0_value), .int (Int32.ofInt i_p0_fault), .int (Int32.ofInt i_p0_wrongAt), .ref a_p0_places, .ref a_p0_stirred, .ref a_p0_ways, .ref a_p0_waysThen, .ref a_p0_stays, .ref a_p0_fewest, .ref a_p0_bowls, .ref a_p0_has, .ref a_p0_goesOn, .ref a_p0_isThere, .ref a_p0_isThereThen, .ref a_p0_bestRow, .ref a_p0_lanes, .ref a_p0_sizes, .ref a_p0_cells, .int (Int32.ofInt i_p0_torn)])), (a_p0_brings, .inl (G 1, 35, .inl (zA v_p0_brings)))] (va_A [(a_p0, .inr (12, [.ref a_p0_st, .ref a_p0_isKept, .int (Int32.ofInt i_p0_seats), .int (Int32.ofInt i_p0_stirs), .ref a_p0_brings, .ref a_p0_need, .ref a_p0_draft, .int (Int32.ofInt i_p0_dSeats), .int (Int32.ofInt i_p0_dStirs), .ref a_p0_dStir, .ref a_p0_dNeed, .int (Int32.ofInt i_p0_told), .int (Int32.ofInt i_p0_highest), .ref a_p0_tape, .int (Int32.ofInt i_p0_taped), .int (Int32.ofInt i_p0_pos), .int (Int32.ofInt i_p0_from), .int (Int32.ofInt i_p0_sort), .int (Int32.ofInt i_p0_value), .int (Int32.ofInt i_p0_fault), .int (Int32.ofInt i_p0_wrongAt), .ref a_p0_places, .ref a_p0_stirred, .ref a_p0_ways, .ref a_p0_waysThen, .ref a_p0_stays, .ref a_p0_fewest, .ref a_p0_bowls, .ref a_p0_has, .ref a_p0_goesOn, .ref a_p0_isThere, .ref a_p0_isThereThen, .ref a_p0_bestRow, .ref a_p0_lanes, .ref a_p0_sizes, .ref a_p0_cells, .int (Int32.ofInt i_p0_torn)])), (a_p0_brings, .inl (G 1, 35, .inl (zA v_p0_brings)))] sz)) 0 0 (va_A [(a_p0, .inr (12, [.ref a_p0_st, .ref a_p0_isKept, .int (Int32.ofInt i_p0_seats), .int (Int32.ofInt i_p0_stirs), .ref a_p0_brings, .ref a_p0_need, .ref a_p0_draft, .int (Int32.ofInt i_p0_dSeats), .int (Int32.ofInt i_p0_dStirs), .ref a_p0_dStir, .ref a_p0_dNeed, .int (Int32.ofInt i_p0_told), .int (Int32.ofInt i_p0_highest), .ref a_p0_tape, .int (Int32.ofInt i_p0_taped), .int (Int32.ofInt i_p0_pos), .int (Int32.ofInt i_p0_from), .int (Int32.ofInt i_p0_sort), .int (Int32.ofInt i_p0_value), .int (Int32.ofInt i_p0_fault), .int (Int32.ofInt i_p0_wrongAt), .ref a_p0_places, .ref a_p0_stirred, .ref a_p0_ways, .ref a_p0_waysThen, .ref a_p0_stays, .ref a_p0_fewest, .ref a_p0_bowls, .ref a_p0_has, .ref a_p0_goesOn, .ref a_p0_isThere, .ref a_p0_isThereThen, .ref a_p0_bestRow, .ref a_p0_lanes, .ref a_p0_sizes, .ref a_p0_cells, .int (Int32.ofInt i_p0_torn)])), (a_p0_brings, .inl (G 1, 35, .inl (zA v_p0_brings)))] sz) := by
  refine Met.ofW (cc := cX12_stir) (maxL := 3) (ret := (some .int)) (by decide) rfl ?_
  intro p e s m args below meth c s₁ B hml hv
  obtain ⟨rfl, hsz, hP, hK, hD0⟩ := hv
  have hx := B.exec
  have hb := B.bytes
  have hr := B.returns
  have hts := atoms_spec (ws := wsX12_stir) B.pre
  have hown : s.vm.findClass RX12 = some m.cls := findClass_of_methodNamed B.named
  have hlocks := B.notSynchronized
  subst hsz
  have hD := hD0.self (sz := s.heap.size)
  generalize hAe : va_A [(a_p0, .inr (12, [.ref a_p0_st, .ref a_p0_isKept, .int (Int32.ofInt i_p0_seats), .int (Int32.ofInt i_p0_stirs), .ref a_p0_brings, .ref a_p0_need, .ref a_p0_draft, .int (Int32.ofInt i_p0_dSeats), .int (Int32.ofInt i_p0_dStirs), .ref a_p0_dStir, .ref a_p0_dNeed, .int (Int32.ofInt i_p0_told), .int (Int32.ofInt i_p0_highest), .ref a_p0_tape, .int (Int32.ofInt i_p0_taped), .int (Int32.ofInt i_p0_pos), .int (Int32.ofInt i_p0_from), .int (Int32.ofInt i_p0_sort), .int (Int32.ofInt i_p0_value), .int (Int32.ofInt i_p0_fault), .int (Int32.ofInt i_p0_wrongAt), .ref a_p0_places, .ref a_p0_stirred, .ref a_p0_ways, .ref a_p0_waysThen, .ref a_p0_stays, .ref a_p0_fewest, .ref a_p0_bowls, .ref a_p0_has, .ref a_p0_goesOn, .ref a_p0_isThere, .ref a_p0_isThereThen, .ref a_p0_bestRow, .ref a_p0_lanes, .ref a_p0_sizes, .ref a_p0_cells, .int (Int32.ofInt i_p0_torn)])), (a_p0_brings, .inl (G 1, 35, .inl (zA v_p0_brings)))] s.heap.size = A at hD ⊢
  have hA : ∀ q : Nat, s.heap.size ≤ q → A q := fun q h => by rw [← hAe]; exact Or.inr h
  clear hAe hD0
  have hS : va_S A s.heap s.heap [] := va_S.rf
  have hl := lv_entry ([.ref a_p0, .int (Int32.ofInt x1), .int (Int32.ofInt x2)]) (n := 3) (Nat.le_of_ble_eq_true rfl)
  rw [lg_entry_eq]
  generalize (lg_sl ([.ref a_p0, .int (Int32.ofInt x1), .int (Int32.ofInt x2)]) ++ List.replicate (3 - (lg_sl ([.ref a_p0, .int (Int32.ofInt x1), .int (Int32.ofInt x2)])).length) Slot.unset).toArray = ls at hl ⊢
  have hl : lv_has ls 3 [(0, .ref a_p0), (1, .int (Int32.ofInt x1)), (2, .int (Int32.ofInt x2))] := hl
  refine W_nameQ (fun Q hQ => ?_)
  obtain ⟨H, hH⟩ : ∃ H, H = s.heap := ⟨_, rfl⟩
  replace hS : va_S A s.heap H [] := by rw [hH]; exact hS
  replace hP : va_P D vwCl [(a_p0, .inr (12, [.ref a_p0_st, .ref a_p0_isKept, .int (Int32.ofInt i_p0_seats), .int (Int32.ofInt i_p0_stirs), .ref a_p0_brings, .ref a_p0_need, .ref a_p0_draft, .int (Int32.ofInt i_p0_dSeats), .int (Int32.ofInt i_p0_dStirs), .ref a_p0_dStir, .ref a_p0_dNeed, .int (Int32.ofInt i_p0_told), .int (Int32.ofInt i_p0_highest), .ref a_p0_tape, .int (Int32.ofInt i_p0_taped), .int (Int32.ofInt i_p0_pos), .int (Int32.ofInt i_p0_from), .int (Int32.ofInt i_p0_sort), .int (Int32.ofInt i_p0_value), .int (Int32.ofInt i_p0_fault), .int (Int32.ofInt i_p0_wrongAt), .ref a_p0_places, .ref a_p0_stirred, .ref a_p0_ways, .ref a_p0_waysThen, .ref a_p0_stays, .ref a_p0_fewest, .ref a_p0_bowls, .ref a_p0_has, .ref a_p0_goesOn, .ref a_p0_isThere, .ref a_p0_isThereThen, .ref a_p0_bestRow, .ref a_p0_lanes, .ref a_p0_sizes, .ref a_p0_cells, .int (Int32.ofInt i_p0_torn)])), (a_p0_brings, .inl (G 1, 35, .inl (zA v_p0_brings)))] H := by rw [hH]; exact hP
  rw [← hH]
  clear hH
  unfold f_X12_stir at hf
  refine lv_aload_n hx hb dX12_stir_0 rfl (lv_at hl 0 rfl) ?_
  refine lv_iload_n hx hb dX12_stir_1 rfl (lv_at hl 1 rfl) ?_
  have hq := bd1_s hf
  clear hf
  obtain ⟨z1, hcall, hf⟩ := hq
  refine gnI (va_runV (As := [.int (Int32.ofInt x1)]) (rest := []) ⟨hx, hb, hml, hown, hts⟩ (c_X12_isStir (l := l) (D := D) (G := G) (sz := H.size) (a_p0 := a_p0) (a_p0_st := a_p0_st) (a_p0_isKept := a_p0_isKept) (a_p0_brings := a_p0_brings) (a_p0_need := a_p0_need) (a_p0_draft := a_p0_draft) (a_p0_dStir := a_p0_dStir) (a_p0_dNeed := a_p0_dNeed) (a_p0_tape := a_p0_tape) (a_p0_places := a_p0_places) (a_p0_stirred := a_p0_stirred) (a_p0_ways := a_p0_ways) (a_p0_waysThen := a_p0_waysThen) (a_p0_stays := a_p0_stays) (a_p0_fewest := a_p0_fewest) (a_p0_bowls := a_p0_bowls) (a_p0_has := a_p0_has) (a_p0_goesOn := a_p0_goesOn) (a_p0_isThere := a_p0_isThere) (a_p0_isThereThen := a_p0_isThereThen) (a_p0_bestRow := a_p0_bestRow) (a_p0_lanes := a_p0_lanes) (a_p0_sizes := a_p0_sizes) (a_p0_cells := a_p0_cells) (i_p0_seats := i_p0_seats) (i_p0_stirs := i_p0_stirs) (i_p0_dSeats := i_p0_dSeats) (i_p0_dStirs := i_p0_dStirs) (i_p0_told := i_p0_told) (i_p0_highest := i_p0_highest) (i_p0_taped := i_p0_taped) (i_p0_pos := i_p0_pos) (i_p0_from := i_p0_from) (i_p0_sort := i_p0_sort) (i_p0_value := i_p0_value) (i_p0_fault := i_p0_fault) (i_p0_wrongAt := i_p0_wrongAt) (i_p0_torn := i_p0_torn) (x1 := x1) (r := z1) (hf := hcall)) (cwV 1 hts gX12_stir_X12_isStir rfl rfl rfl hdV_yX12_isStir_RX12 ⟨Nat.le_of_ble_eq_true rfl, Nat.le_of_ble_eq_true rfl⟩) (preG_V (ci := 12) (q := (RX12, TX12, 37)) (hP.sub [0] rfl) (hD.sub [0] rfl rfl) hK rfl rfl) rfl rfl hl.1 rfl (lv_room (Nat.le_of_ble_eq_true rfl)) dX12_stir_2 ⟨Nat.le_of_ble_eq_true rfl, Nat.le_of_ble_eq_true rfl⟩) hP hD hS hA [0] rfl (fun H locs hP hD hS => ?_)
  clear hcall
  have hr1 := ck_c hf
  replace hf := ck_r hf
  refine lv_if_eq (tgt := 30) hx hb dX12_stir_5 (by decide) (fun cc => ?_) (fun cc => ?_)
  ·
    replace hf := ite_t ((z_eq0 hr1).mp cc) hf
    clear cc
    refine lv_iconst (v := Int32.ofInt (-1 : Int)) hx hb dX12_stir_30 (by decide) ?_
    obtain rfl := ou1 hf
    rw [hQ]
    exact W.iret hx hb hr (fun t ht hW => ⟨⟨_, (), rfl, rfl, by rw [ht]; exact hP, va_K.moved hW.alike hK, hD⟩, hS.F ht⟩) hS.2.2 dX12_stir_31
  ·
    replace hf := ite_f (fun h9 => cc ((z_eq0 hr1).mpr h9)) hf
    clear cc
    refine lv_aload_n hx hb dX12_stir_8 rfl (lv_at hl 0 rfl) ?_
    refine lv_iload_n hx hb dX12_stir_9 rfl (lv_at hl 2 rfl) ?_
    have hq := bd1_s hf
    clear hf
    obtain ⟨z3, hcall, hf⟩ := hq
    refine gnI (va_runV (As := [.int (Int32.ofInt x2)]) (rest := []) ⟨hx, hb, hml, hown, hts⟩ (c_X12_isSeat (l := l) (D := D) (G := G) (sz := H.size) (a_p0 := a_p0) (a_p0_st := a_p0_st) (a_p0_isKept := a_p0_isKept) (a_p0_brings := a_p0_brings) (a_p0_need := a_p0_need) (a_p0_draft := a_p0_draft) (a_p0_dStir := a_p0_dStir) (a_p0_dNeed := a_p0_dNeed) (a_p0_tape := a_p0_tape) (a_p0_places := a_p0_places) (a_p0_stirred := a_p0_stirred) (a_p0_ways := a_p0_ways) (a_p0_waysThen := a_p0_waysThen) (a_p0_stays := a_p0_stays) (a_p0_fewest := a_p0_fewest) (a_p0_bowls := a_p0_bowls) (a_p0_has := a_p0_has) (a_p0_goesOn := a_p0_goesOn) (a_p0_isThere := a_p0_isThere) (a_p0_isThereThen := a_p0_isThereThen) (a_p0_bestRow := a_p0_bestRow) (a_p0_lanes := a_p0_lanes) (a_p0_sizes := a_p0_sizes) (a_p0_cells := a_p0_cells) (i_p0_seats := i_p0_seats) (i_p0_stirs := i_p0_stirs) (i_p0_dSeats := i_p0_dSeats) (i_p0_dStirs := i_p0_dStirs) (i_p0_told := i_p0_told) (i_p0_highest := i_p0_highest) (i_p0_taped := i_p0_taped) (i_p0_pos := i_p0_pos) (i_p0_from := i_p0_from) (i_p0_sort := i_p0_sort) (i_p0_value := i_p0_value) (i_p0_fault := i_p0_fault) (i_p0_wrongAt := i_p0_wrongAt) (i_p0_torn := i_p0_torn) (x1 := x2) (r := z3) (hf := hcall)) (cwV 1 hts gX12_stir_X12_isSeat rfl rfl rfl hdV_yX12_isSeat_RX12 ⟨Nat.le_of_ble_eq_true rfl, Nat.le_of_ble_eq_true rfl⟩) (preG_V (ci := 12) (q := (RX12, TX12, 37)) (hP.sub [0] rfl) (hD.sub [0] rfl rfl) hK rfl rfl) rfl rfl hl.1 rfl (lv_room (Nat.le_of_ble_eq_true rfl)) dX12_stir_10 ⟨Nat.le_of_ble_eq_true rfl, Nat.le_of_ble_eq_true rfl⟩) hP hD hS hA [0] rfl (fun H locs hP hD hS => ?_)
    clear hcall
    have hr3 := ck_c hf
    replace hf := ck_r hf
    refine lv_if_eq (tgt := 30) hx hb dX12_stir_13 (by decide) (fun cc => ?_) (fun cc => ?_)
    ·
      replace hf := ite_t ((z_eq0 hr3).mp cc) hf
      clear cc
      refine lv_iconst (v := Int32.ofInt (-1 : Int)) hx hb dX12_stir_30 (by decide) ?_
      obtain rfl := ou1 hf
      rw [hQ]
      exact W.iret hx hb hr (fun t ht hW => ⟨⟨_, (), rfl, rfl, by rw [ht]; exact hP, va_K.moved hW.alike hK, hD⟩, hS.F ht⟩) hS.2.2 dX12_stir_31
    ·
      replace hf := ite_f (fun h9 => cc ((z_eq0 hr3).mpr h9)) hf
      clear cc
      refine lv_aload_n hx hb dX12_stir_16 rfl (lv_at hl 0 rfl) ?_
      refine va_get (D := D) (ci := 12) (v := .ref a_p0_brings) (C := RX12) (T := TX12) (N := 37) hx hb hts inX12_stir_X12 hown hK hP 0 rfl rfl 4 (by decide) (hts _ mwX12_stir_2) (fun _ h9 => h9) rfl dX12_stir_17 ?_
      refine lv_bipush (v := Int32.ofInt (7 : Int)) hx hb dX12_stir_20 (by decide) ?_
      refine lv_iload_n hx hb dX12_stir_22 rfl (lv_at hl 1 rfl) ?_
      refine lv_imul hx hb dX12_stir_23 (z_ci (Int32.ofInt_mul (7 : Int) x1) ?_)
      refine lv_iload_n hx hb dX12_stir_24 rfl (lv_at hl 2 rfl) ?_
      refine lv_iadd hx hb dX12_stir_25 (z_ci (Int32.ofInt_add ((7 : Int) * x1) x2) ?_)
      have hc := ck_c hf
      replace hf := ck_r hf
      refine va_iald hx hb hK hP 1 1 rfl rfl (z_ix_in hc) dX12_stir_26 (z_ci (z_ald v_p0_brings hc) ?_)
      clear hc
      refine lv_goto (tgt := 31) hx hb dX12_stir_27 (by decide) ?_
      obtain rfl := ou1 hf
      rw [hQ]
      exact W.iret hx hb hr (fun t ht hW => ⟨⟨_, (), rfl, rfl, by rw [ht]; exact hP, va_K.moved hW.alike hK, hD⟩, hS.F ht⟩) hS.2.2 dX12_stir_31

noncomputable def f_X12_befriend (i_p0_seats : Int) (v_p0_st : (Int → Int)) (x1 : Int) (x2 : Int) (x3 : Int) : Option (Int × (Int → Int)) := (bd1 (f_X12_isSeat i_p0_seats x1) (fun (z1 : Int) => (ck (z_r32 z1) (if z1 = (0 : Int) then (some ((-1 : Int), v_p0_st)) else (bd1 (f_X12_isSeat i_p0_seats x2) (fun (z3 : Int) => (ck (z_r32 z3) (if z3 = (0 : Int) then (some ((-1 : Int), v_p0_st)) else (ck (z_r32 x1) (ck (z_r32 x2) (if x1 = x2 then (some ((-1 : Int), v_p0_st)) else (ck (z_ix ((9 : Int) + x1) 152) (bnd (z_and (z_shr (v_p0_st ((9 : Int) + x1)) x2) (1 : Int)) (fun (z7 : Int) => (ck (z_r32 x3) (if x3 = (0 : Int) then (ck (z_ix ((9 : Int) + x1) 152) (ck (z_ix ((9 : Int) + x1) 152) (bnd (z_up v_p0_st ((9 : Int) + x1) (z_and (v_p0_st ((9 : Int) + x1)) (z_xor (z_shl (1 : Int) x2) (-1 : Int)))) (fun (w9 : (Int → Int)) => (some (z7, w9)))))) else (ck (z_ix ((9 : Int) + x1) 152) (ck (z_ix ((9 : Int) + x1) 152) (bnd (z_up v_p0_st ((9 : Int) + x1) (z_or (v_p0_st ((9 : Int) + x1)) (z_shl (1 : Int) x2))) (fun (w10 : (Int → Int)) => (some (z7, w10))))))))))))))))))))))
abbrev rm_X12_befriend : Room := { frames := 2, cells := 0, slots := 0, locals := 46 }
theorem inX12_befriend_X12 : ∀ w ∈ wsX120, w ∈ wsX12_befriend := by first | exact fun w h => List.mem_cons_of_mem _ (List.mem_append_right _ h) | decide +kernel
theorem mwX12_befriend_1 : Cond.fieldLink RX12 7 "LadleKingsModel" "st" "[I" ∈ wsX12_befriend := by first | exact List.mem_of_getElem? (i := 1) rfl | decide +kernel
set_option maxHeartbeats 8000000 in
set_option maxRecDepth 100000 in
theorem c_X12_befriend (l : Launch) (D : va_G) (G : Nat → ClassId) (sz : Nat) (a_p0 : Nat) (a_p0_st : Nat) (a_p0_isKept : Nat) (a_p0_brings : Nat) (a_p0_need : Nat) (a_p0_draft : Nat) (a_p0_dStir : Nat) (a_p0_dNeed : Nat) (a_p0_tape : Nat) (a_p0_places : Nat) (a_p0_stirred : Nat) (a_p0_ways : Nat) (a_p0_waysThen : Nat) (a_p0_stays : Nat) (a_p0_fewest : Nat) (a_p0_bowls : Nat) (a_p0_has : Nat) (a_p0_goesOn : Nat) (a_p0_isThere : Nat) (a_p0_isThereThen : Nat) (a_p0_bestRow : Nat) (a_p0_lanes : Nat) (a_p0_sizes : Nat) (a_p0_cells : Nat) (i_p0_seats : Int) (i_p0_stirs : Int) (i_p0_dSeats : Int) (i_p0_dStirs : Int) (i_p0_told : Int) (i_p0_highest : Int) (i_p0_taped : Int) (i_p0_pos : Int) (i_p0_from : Int) (i_p0_sort : Int) (i_p0_value : Int) (i_p0_fault : Int) (i_p0_wrongAt : Int) (i_p0_torn : Int) (v_p0_st : (Int → Int)) (x1 : Int) (x2 : Int) (x3 : Int) (r : Int) (o_v_p0_st : (Int → Int)) (hf : f_X12_befriend i_p0_seats v_p0_st x1 x2 x3 = some (r, o_v_p0_st)) : Met l yX12_befriend wsX12_befriend rm_X12_befriend (pcG D G [.ref a_p0, .int (Int32.ofInt x1), .int (Int32.ofInt x2), .int (Int32.ofInt x3)] sz [(a_p0, .inr (12, [.ref a_p0_st, .ref a_p0_isKept, .int (Int32.ofInt i_p0_seats), .int (Int32.ofInt i_p0_stirs), .ref a_p0_brings, .ref a_p0_need, .ref a_p0_draft, .int (Int32.ofInt i_p0_dSeats), .int (Int32.ofInt i_p0_dStirs), .ref a_p0_dStir, .ref a_p0_dNeed, .int (Int32.ofInt i_p0_told), .int (Int32.ofInt i_p0_highest), .ref a_p0_tape, .int (Int32.ofInt i_p0_taped), .int (Int32.ofInt i_p0_pos), .int (Int32.ofInt i_p0_from), .int (Int32.ofInt i_p0_sort), .int (Int32.ofInt i_p0_value), .int (Int32.ofInt i_p0_fault), .int (Int32.ofInt i_p0_wrongAt), .ref a_p0_places, .ref a_p0_stirred, .ref a_p0_ways, .ref a_p0_waysThen, .ref a_p0_stays, .ref a_p0_fewest, .ref a_p0_bowls, .ref a_p0_has, .ref a_p0_goesOn, .ref a_p0_isThere, .ref a_p0_isThereThen, .ref a_p0_bestRow, .ref a_p0_lanes, .ref a_p0_sizes, .ref a_p0_cells, .int (Int32.ofInt i_p0_torn)])), (a_p0_st, .inl (G 1, 152, .inl (zA v_p0_st)))]) (qcI D G (Int32.ofInt r) [(a_p0, .inr (12, [.ref a_p0_st, .ref a_p0_isKept, .int (Int32.ofInt i_p0_seats), .int (Int32.ofInt i_p0_stirs), .ref a_p0_brings, .ref a_p0_need, .ref a_p0_draft, .int (Int32.ofInt i_p0_dSeats), .int (Int32.ofInt i_p0_dStirs), .ref a_p0_dStir, .ref a_p0_dNeed, .int (Int32.ofInt i_p0_told), .int (Int32.ofInt i_p0_highest), .ref a_p0_tape, .int (Int32.ofInt i_p0_taped), .int (Int32.ofInt i_p0_pos), .int (Int32.ofInt i_p0_from), .int (Int32.ofInt i_p0_sort), .int (Int32.ofInt i_p0_value), .int (Int32.ofInt i_p0_fault), .int (Int32.ofInt i_p0_wrongAt), .ref a_p0_places, .ref a_p0_stirred, .ref a_p0_ways, .ref a_p0_waysThen, .ref a_p0_stays, .ref a_p0_fewest, .ref a_p0_bowls, .ref a_p0_has, .ref a_p0_goesOn, .ref a_p0_isThere, .ref a_p0_isThereThen, .ref a_p0_bestRow, .ref a_p0_lanes, .ref a_p0_sizes, .ref a_p0_cells, .int (Int32.ofInt i_p0_torn)])), (a_p0_st, .inl (G 1, 152, .inl (zA o_v_p0_st)))] (va_A [(a_p0, .inr (12, [.ref a_p0_st, .ref a_p0_isKept, .int (Int32.ofInt i_p0_seats), .int (Int32.ofInt i_p0_stirs), .ref a_p0_brings, .ref a_p0_need, .ref a_p0_draft, .int (Int32.ofInt i_p0_dSeats), .int (Int32.ofInt i_p0_dStirs), .ref a_p0_dStir, .ref a_p0_dNeed, .int (Int32.ofInt i_p0_told), .int (Int32.ofInt i_p0_highest), .ref a_p0_tape, .int (Int32.ofInt i_p0_taped), .int (Int32.ofInt i_p0_pos), .int (Int32.ofInt i_p0_from), .int (Int32.ofInt i_p0_sort), .int (Int32.ofInt i_p0_value), .int (Int32.ofInt i_p0_fault), .int (Int32.ofInt i_p0_wrongAt), .ref a_p0_places, .ref a_p0_stirred, .ref a_p0_ways, .ref a_p0_waysThen, .ref a_p0_stays, .ref a_p0_fewest, .ref a_p0_bowls, .ref a_p0_has, .ref a_p0_goesOn, .ref a_p0_isThere, .ref a_p0_isThereThen, .ref a_p0_bestRow, .ref a_p0_lanes, .ref a_p0_sizes, .ref a_p0_cells, .int (Int32.ofInt i_p0_torn)])), (a_p0_st, .inl (G 1, 152, .inl (zA v_p0_st)))] sz)) 0 0 (va_A [(a_p0, .inr (12, [.ref a_p0_st, .ref a_p0_isKept, .int (Int32.ofInt i_p0_seats), .int (Int32.ofInt i_p0_stirs), .ref a_p0_brings, .ref a_p0_need, .ref a_p0_draft, .int (Int32.ofInt i_p0_dSeats), .int (Int32.ofInt i_p0_dStirs), .ref a_p0_dStir, .ref a_p0_dNeed, .int (Int32.ofInt i_p0_told), .int (Int32.ofInt i_p0_highest), .ref a_p0_tape, .int (Int32.ofInt i_p0_taped), .int (Int32.ofInt i_p0_pos), .int (Int32.ofInt i_p0_from), .int (Int32.ofInt i_p0_sort), .int (Int32.ofInt i_p0_value), .int (Int32.ofInt i_p0_fault), .int (Int32.ofInt i_p0_wrongAt), .ref a_p0_places, .ref a_p0_stirred, .ref a_p0_ways, .ref a_p0_waysThen, .ref a_p0_stays, .ref a_p0_fewest, .ref a_p0_bowls, .ref a_p0_has, .ref a_p0_goesOn, .ref a_p0_isThere, .ref a_p0_isThereThen, .ref a_p0_bestRow, .ref a_p0_lanes, .ref a_p0_sizes, .ref a_p0_cells, .int (Int32.ofInt i_p0_torn)])), (a_p0_st, .inl (G 1, 152, .inl (zA v_p0_st)))] sz) := by
  refine Met.ofW (cc := cX12_befriend) (maxL := 5) (ret := (some .int)) (by decide) rfl ?_
  intro p e s m args below meth c s₁ B hml hv
  obtain ⟨rfl, hsz, hP, hK, hD0⟩ := hv
  have hx := B.exec
  have hb := B.bytes
  have hr := B.returns
  have hts := atoms_spec (ws := wsX12_befriend) B.pre
  have hown : s.vm.findClass RX12 = some m.cls := findClass_of_methodNamed B.named
  have hlocks := B.notSynchronized
  subst hsz
  have hD := hD0.self (sz := s.heap.size)
  generalize hAe : va_A [(a_p0, .inr (12, [.ref a_p0_st, .ref a_p0_isKept, .int (Int32.ofInt i_p0_seats), .int (Int32.ofInt i_p0_stirs), .ref a_p0_brings, .ref a_p0_need, .ref a_p0_draft, .int (Int32.ofInt i_p0_dSeats), .int (Int32.ofInt i_p0_dStirs), .ref a_p0_dStir, .ref a_p0_dNeed, .int (Int32.ofInt i_p0_told), .int (Int32.ofInt i_p0_highest), .ref a_p0_tape, .int (Int32.ofInt i_p0_taped), .int (Int32.ofInt i_p0_pos), .int (Int32.ofInt i_p0_from), .int (Int32.ofInt i_p0_sort), .int (Int32.ofInt i_p0_value), .int (Int32.ofInt i_p0_fault), .int (Int32.ofInt i_p0_wrongAt), .ref a_p0_places, .ref a_p0_stirred, .ref a_p0_ways, .ref a_p0_waysThen, .ref a_p0_stays, .ref a_p0_fewest, .ref a_p0_bowls, .ref a_p0_has, .ref a_p0_goesOn, .ref a_p0_isThere, .ref a_p0_isThereThen, .ref a_p0_bestRow, .ref a_p0_lanes, .ref a_p0_sizes, .ref a_p0_cells, .int (Int32.ofInt i_p0_torn)])), (a_p0_st, .inl (G 1, 152, .inl (zA v_p0_st)))] s.heap.size = A at hD ⊢
  have hA : ∀ q : Nat, s.heap.size ≤ q → A q := fun q h => by rw [← hAe]; exact Or.inr h
  clear hAe hD0
  have hS : va_S A s.heap s.heap [] := va_S.rf
  have hl := lv_entry ([.ref a_p0, .int (Int32.ofInt x1), .int (Int32.ofInt x2), .int (Int32.ofInt x3)]) (n := 5) (Nat.le_of_ble_eq_true rfl)
  rw [lg_entry_eq]
  generalize (lg_sl ([.ref a_p0, .int (Int32.ofInt x1), .int (Int32.ofInt x2), .int (Int32.ofInt x3)]) ++ List.replicate (5 - (lg_sl ([.ref a_p0, .int (Int32.ofInt x1), .int (Int32.ofInt x2), .int (Int32.ofInt x3)])).length) Slot.unset).toArray = ls at hl ⊢
  have hl : lv_has ls 5 [(0, .ref a_p0), (1, .int (Int32.ofInt x1)), (2, .int (Int32.ofInt x2)), (3, .int (Int32.ofInt x3))] := hl
  refine W_nameQ (fun Q hQ => ?_)
  obtain ⟨H, hH⟩ : ∃ H, H = s.heap := ⟨_, rfl⟩
  replace hS : va_S A s.heap H [] := by rw [hH]; exact hS
  replace hP : va_P D vwCl [(a_p0, .inr (12, [.ref a_p0_st, .ref a_p0_isKept, .int (Int32.ofInt i_p0_seats), .int (Int32.ofInt i_p0_stirs), .ref a_p0_brings, .ref a_p0_need, .ref a_p0_draft, .int (Int32.ofInt i_p0_dSeats), .int (Int32.ofInt i_p0_dStirs), .ref a_p0_dStir, .ref a_p0_dNeed, .int (Int32.ofInt i_p0_told), .int (Int32.ofInt i_p0_highest), .ref a_p0_tape, .int (Int32.ofInt i_p0_taped), .int (Int32.ofInt i_p0_pos), .int (Int32.ofInt i_p0_from), .int (Int32.ofInt i_p0_sort), .int (Int32.ofInt i_p0_value), .int (Int32.ofInt i_p0_fault), .int (Int32.ofInt i_p0_wrongAt), .ref a_p0_places, .ref a_p0_stirred, .ref a_p0_ways, .ref a_p0_waysThen, .ref a_p0_stays, .ref a_p0_fewest, .ref a_p0_bowls, .ref a_p0_has, .ref a_p0_goesOn, .ref a_p0_isThere, .ref a_p0_isThereThen, .ref a_p0_bestRow, .ref a_p0_lanes, .ref a_p0_sizes, .ref a_p0_cells, .int (Int32.ofInt i_p0_torn)])), (a_p0_st, .inl (G 1, 152, .inl (zA v_p0_st)))] H := by rw [hH]; exact hP
  rw [← hH]
  clear hH
  unfold f_X12_befriend at hf
  refine lv_aload_n hx hb dX12_befriend_0 rfl (lv_at hl 0 rfl) ?_
  refine lv_iload_n hx hb dX12_befriend_1 rfl (lv_at hl 1 rfl) ?_
  have hq := bd1_s hf
  clear hf
  obtain ⟨z1, hcall, hf⟩ := hq
  refine gnI (va_runV (As := [.int (Int32.ofInt x1)]) (rest := []) ⟨hx, hb, hml, hown, hts⟩ (c_X12_isSeat (l := l) (D := D) (G := G) (sz := H.size) (a_p0 := a_p0) (a_p0_st := a_p0_st) (a_p0_isKept := a_p0_isKept) (a_p0_brings := a_p0_brings) (a_p0_need := a_p0_need) (a_p0_draft := a_p0_draft) (a_p0_dStir := a_p0_dStir) (a_p0_dNeed := a_p0_dNeed) (a_p0_tape := a_p0_tape) (a_p0_places := a_p0_places) (a_p0_stirred := a_p0_stirred) (a_p0_ways := a_p0_ways) (a_p0_waysThen := a_p0_waysThen) (a_p0_stays := a_p0_stays) (a_p0_fewest := a_p0_fewest) (a_p0_bowls := a_p0_bowls) (a_p0_has := a_p0_has) (a_p0_goesOn := a_p0_goesOn) (a_p0_isThere := a_p0_isThere) (a_p0_isThereThen := a_p0_isThereThen) (a_p0_bestRow := a_p0_bestRow) (a_p0_lanes := a_p0_lanes) (a_p0_sizes := a_p0_sizes) (a_p0_cells := a_p0_cells) (i_p0_seats := i_p0_seats) (i_p0_stirs := i_p0_stirs) (i_p0_dSeats := i_p0_dSeats) (i_p0_dStirs := i_p0_dStirs) (i_p0_told := i_p0_told) (i_p0_highest := i_p0_highest) (i_p0_taped := i_p0_taped) (i_p0_pos := i_p0_pos) (i_p0_from := i_p0_from) (i_p0_sort := i_p0_sort) (i_p0_value := i_p0_value) (i_p0_fault := i_p0_fault) (i_p0_wrongAt := i_p0_wrongAt) (i_p0_torn := i_p0_torn) (x1 := x1) (r := z1) (hf := hcall)) (cwV 1 hts gX12_befriend_X12_isSeat rfl rfl rfl hdV_yX12_isSeat_RX12 ⟨Nat.le_of_ble_eq_true rfl, Nat.le_of_ble_eq_true rfl⟩) (preG_V (ci := 12) (q := (RX12, TX12, 37)) (hP.sub [0] rfl) (hD.sub [0] rfl rfl) hK rfl rfl) rfl rfl hl.1 rfl (lv_room (Nat.le_of_ble_eq_true rfl)) dX12_befriend_2 ⟨Nat.le_of_ble_eq_true rfl, Nat.le_of_ble_eq_true rfl⟩) hP hD hS hA [0] rfl (fun H locs hP hD hS => ?_)
  clear hcall
  have hr1 := ck_c hf
  replace hf := ck_r hf
  refine lv_if_eq (tgt := 21) hx hb dX12_befriend_5 (by decide) (fun cc => ?_) (fun cc => ?_)
  ·
    replace hf := ite_t ((z_eq0 hr1).mp cc) hf
    clear cc
    refine lv_iconst (v := Int32.ofInt (-1 : Int)) hx hb dX12_befriend_21 (by decide) ?_
    obtain ⟨rfl, rfl⟩ := ou2 hf
    rw [hQ]
    exact W.iret hx hb hr (fun t ht hW => ⟨⟨_, (), rfl, rfl, by rw [ht]; exact hP, va_K.moved hW.alike hK, hD⟩, hS.F ht⟩) hS.2.2 dX12_befriend_22
  ·
    replace hf := ite_f (fun h9 => cc ((z_eq0 hr1).mpr h9)) hf
    clear cc
    refine lv_aload_n hx hb dX12_befriend_8 rfl (lv_at hl 0 rfl) ?_
    refine lv_iload_n hx hb dX12_befriend_9 rfl (lv_at hl 2 rfl) ?_
    have hq := bd1_s hf
    clear hf
    obtain ⟨z3, hcall, hf⟩ := hq
    refine gnI (va_runV (As := [.int (Int32.ofInt x2)]) (rest := []) ⟨hx, hb, hml, hown, hts⟩ (c_X12_isSeat (l := l) (D := D) (G := G) (sz := H.size) (a_p0 := a_p0) (a_p0_st := a_p0_st) (a_p0_isKept := a_p0_isKept) (a_p0_brings := a_p0_brings) (a_p0_need := a_p0_need) (a_p0_draft := a_p0_draft) (a_p0_dStir := a_p0_dStir) (a_p0_dNeed := a_p0_dNeed) (a_p0_tape := a_p0_tape) (a_p0_places := a_p0_places) (a_p0_stirred := a_p0_stirred) (a_p0_ways := a_p0_ways) (a_p0_waysThen := a_p0_waysThen) (a_p0_stays := a_p0_stays) (a_p0_fewest := a_p0_fewest) (a_p0_bowls := a_p0_bowls) (a_p0_has := a_p0_has) (a_p0_goesOn := a_p0_goesOn) (a_p0_isThere := a_p0_isThere) (a_p0_isThereThen := a_p0_isThereThen) (a_p0_bestRow := a_p0_bestRow) (a_p0_lanes := a_p0_lanes) (a_p0_sizes := a_p0_sizes) (a_p0_cells := a_p0_cells) (i_p0_seats := i_p0_seats) (i_p0_stirs := i_p0_stirs) (i_p0_dSeats := i_p0_dSeats) (i_p0_dStirs := i_p0_dStirs) (i_p0_told := i_p0_told) (i_p0_highest := i_p0_highest) (i_p0_taped := i_p0_taped) (i_p0_pos := i_p0_pos) (i_p0_from := i_p0_from) (i_p0_sort := i_p0_sort) (i_p0_value := i_p0_value) (i_p0_fault := i_p0_fault) (i_p0_wrongAt := i_p0_wrongAt) (i_p0_torn := i_p0_torn) (x1 := x2) (r := z3) (hf := hcall)) (cwV 1 hts gX12_befriend_X12_isSeat rfl rfl rfl hdV_yX12_isSeat_RX12 ⟨Nat.le_of_ble_eq_true rfl, Nat.le_of_ble_eq_true rfl⟩) (preG_V (ci := 12) (q := (RX12, TX12, 37)) (hP.sub [0] rfl) (hD.sub [0] rfl rfl) hK rfl rfl) rfl rfl hl.1 rfl (lv_room (Nat.le_of_ble_eq_true rfl)) dX12_befriend_10 ⟨Nat.le_of_ble_eq_true rfl, Nat.le_of_ble_eq_true rfl⟩) hP hD hS hA [0] rfl (fun H locs hP hD hS => ?_)
    clear hcall
    have hr3 := ck_c hf
    replace hf := ck_r hf
    refine lv_if_eq (tgt := 21) hx hb dX12_befriend_13 (by decide) (fun cc => ?_) (fun cc => ?_)
    ·
      replace hf := ite_t ((z_eq0 hr3).mp cc) hf
      clear cc
      refine lv_iconst (v := Int32.ofInt (-1 : Int)) hx hb dX12_befriend_21 (by decide) ?_
      obtain ⟨rfl, rfl⟩ := ou2 hf
      rw [hQ]
      exact W.iret hx hb hr (fun t ht hW => ⟨⟨_, (), rfl, rfl, by rw [ht]; exact hP, va_K.moved hW.alike hK, hD⟩, hS.F ht⟩) hS.2.2 dX12_befriend_22
    ·
      replace hf := ite_f (fun h9 => cc ((z_eq0 hr3).mpr h9)) hf
      clear cc
      refine lv_iload_n hx hb dX12_befriend_16 rfl (lv_at hl 1 rfl) ?_
      refine lv_iload_n hx hb dX12_befriend_17 rfl (lv_at hl 2 rfl) ?_
      have hr4 := ck_c hf
      replace hf := ck_r hf
      have hr5 := ck_c hf
      replace hf := ck_r hf
      refine lv_icmp_ne (tgt := 23) hx hb dX12_befriend_18 (by decide) (fun cc => ?_) (fun cc => ?_)
      ·
        replace hf := ite_f (fun h9 => cc ((z_eq hr4 hr5).mpr h9)) hf
        clear cc
        refine lv_aload_n hx hb dX12_befriend_23 rfl (lv_at hl 0 rfl) ?_
        refine va_get (D := D) (ci := 12) (v := .ref a_p0_st) (C := RX12) (T := TX12) (N := 37) hx hb hts inX12_befriend_X12 hown hK hP 0 rfl rfl 0 (by decide) (hts _ mwX12_befriend_1) (fun _ h9 => h9) rfl dX12_befriend_24 ?_
        refine lv_bipush (v := Int32.ofInt (9 : Int)) hx hb dX12_befriend_27 (by decide) ?_
        refine lv_iload_n hx hb dX12_befriend_29 rfl (lv_at hl 1 rfl) ?_
        refine lv_iadd hx hb dX12_befriend_30 (z_ci (Int32.ofInt_add (9 : Int) x1) ?_)
        have hc := ck_c hf
        replace hf := ck_r hf
        refine va_iald hx hb hK hP 1 1 rfl rfl (z_ix_in hc) dX12_befriend_31 (z_ci (z_ald v_p0_st hc) ?_)
        clear hc
        refine lv_iload_n hx hb dX12_befriend_32 rfl (lv_at hl 2 rfl) ?_
        refine lv_ishr hx hb dX12_befriend_33 (z_ci (z_shr_e (v_p0_st ((9 : Int) + x1)) x2) ?_)
        refine lv_iconst (v := Int32.ofInt (1 : Int)) hx hb dX12_befriend_34 (by decide) ?_
        refine lv_iand hx hb dX12_befriend_35 (z_ci (z_and_e (z_shr (v_p0_st ((9 : Int) + x1)) x2) (1 : Int)) ?_)
        refine z_topi (fun z7 ez => ?_)
        replace hf := bnd_s hf ez
        clear ez
        refine lv_istore (lv' := [(4, .int (Int32.ofInt z7)), (0, .ref a_p0), (1, .int (Int32.ofInt x1)), (2, .int (Int32.ofInt x2)), (3, .int (Int32.ofInt x3))]) hx hb dX12_befriend_36 hl (by decide) rfl (fun ls hl => ?_)
        refine lv_aload_n hx hb dX12_befriend_38 rfl (lv_at hl 1 rfl) ?_
        refine va_get (D := D) (ci := 12) (v := .ref a_p0_st) (C := RX12) (T := TX12) (N := 37) hx hb hts inX12_befriend_X12 hown hK hP 0 rfl rfl 0 (by decide) (hts _ mwX12_befriend_1) (fun _ h9 => h9) rfl dX12_befriend_39 ?_
        refine lv_bipush (v := Int32.ofInt (9 : Int)) hx hb dX12_befriend_42 (by decide) ?_
        refine lv_iload_n hx hb dX12_befriend_44 rfl (lv_at hl 2 rfl) ?_
        refine lv_iadd hx hb dX12_befriend_45 (z_ci (Int32.ofInt_add (9 : Int) x1) ?_)
        refine lv_iload_n hx hb dX12_befriend_46 rfl (lv_at hl 4 rfl) ?_
        have hr7 := ck_c hf
        replace hf := ck_r hf
        refine lv_if_eq (tgt := 66) hx hb dX12_befriend_47 (by decide) (fun cc => ?_) (fun cc => ?_)
        ·
          replace hf := ite_t ((z_eq0 hr7).mp cc) hf
          clear cc
          refine lv_aload_n hx hb dX12_befriend_66 rfl (lv_at hl 1 rfl) ?_
          refine va_get (D := D) (ci := 12) (v := .ref a_p0_st) (C := RX12) (T := TX12) (N := 37) hx hb hts inX12_befriend_X12 hown hK hP 0 rfl rfl 0 (by decide) (hts _ mwX12_befriend_1) (fun _ h9 => h9) rfl dX12_befriend_67 ?_
          refine lv_bipush (v := Int32.ofInt (9 : Int)) hx hb dX12_befriend_70 (by decide) ?_
          refine lv_iload_n hx hb dX12_befriend_72 rfl (lv_at hl 2 rfl) ?_
          refine lv_iadd hx hb dX12_befriend_73 (z_ci (Int32.ofInt_add (9 : Int) x1) ?_)
          have hc := ck_c hf
          replace hf := ck_r hf
          refine va_iald hx hb hK hP 1 1 rfl rfl (z_ix_in hc) dX12_befriend_74 (z_ci (z_ald v_p0_st hc) ?_)
          clear hc
          refine lv_iconst (v := Int32.ofInt (1 : Int)) hx hb dX12_befriend_75 (by decide) ?_
          refine lv_iload_n hx hb dX12_befriend_76 rfl (lv_at hl 3 rfl) ?_
          refine lv_ishl hx hb dX12_befriend_77 (z_ci (z_shl_e (1 : Int) x2) ?_)
          refine lv_iconst (v := Int32.ofInt (-1 : Int)) hx hb dX12_befriend_78 (by decide) ?_
          refine lv_ixor hx hb dX12_befriend_79 (z_ci (z_xor_e (z_shl (1 : Int) x2) (-1 : Int)) ?_)
          refine lv_iand hx hb dX12_befriend_80 (z_ci (z_and_e (v_p0_st ((9 : Int) + x1)) (z_xor (z_shl (1 : Int) x2) (-1 : Int))) ?_)
          have hc := ck_c hf
          replace hf := ck_r hf
          refine zs_iast (wf := fun w9 => [(a_p0, .inr (12, [.ref a_p0_st, .ref a_p0_isKept, .int (Int32.ofInt i_p0_seats), .int (Int32.ofInt i_p0_stirs), .ref a_p0_brings, .ref a_p0_need, .ref a_p0_draft, .int (Int32.ofInt i_p0_dSeats), .int (Int32.ofInt i_p0_dStirs), .ref a_p0_dStir, .ref a_p0_dNeed, .int (Int32.ofInt i_p0_told), .int (Int32.ofInt i_p0_highest), .ref a_p0_tape, .int (Int32.ofInt i_p0_taped), .int (Int32.ofInt i_p0_pos), .int (Int32.ofInt i_p0_from), .int (Int32.ofInt i_p0_sort), .int (Int32.ofInt i_p0_value), .int (Int32.ofInt i_p0_fault), .int (Int32.ofInt i_p0_wrongAt), .ref a_p0_places, .ref a_p0_stirred, .ref a_p0_ways, .ref a_p0_waysThen, .ref a_p0_stays, .ref a_p0_fewest, .ref a_p0_bowls, .ref a_p0_has, .ref a_p0_goesOn, .ref a_p0_isThere, .ref a_p0_isThereThen, .ref a_p0_bestRow, .ref a_p0_lanes, .ref a_p0_sizes, .ref a_p0_cells, .int (Int32.ofInt i_p0_torn)])), (a_p0_st, .inl (G 1, 152, .inl (zA w9)))]) hx hb hK hP hD hS 1 1 rfl rfl hc dX12_befriend_81 (fun _ => rfl) (fun w9 ez H locs hP hD hS => ?_)
          replace hf := bnd_s hf ez
          clear ez hc
          refine lv_iload hx hb dX12_befriend_82 (lv_at hl 0 rfl) ?_
          obtain ⟨rfl, rfl⟩ := ou2 hf
          rw [hQ]
          exact W.iret hx hb hr (fun t ht hW => ⟨⟨_, (), rfl, rfl, by rw [ht]; exact hP, va_K.moved hW.alike hK, hD⟩, hS.F ht⟩) hS.2.2 dX12_befriend_84
        ·
          replace hf := ite_f (fun h9 => cc ((z_eq0 hr7).mpr h9)) hf
          clear cc
          refine lv_aload_n hx hb dX12_befriend_50 rfl (lv_at hl 1 rfl) ?_
          refine va_get (D := D) (ci := 12) (v := .ref a_p0_st) (C := RX12) (T := TX12) (N := 37) hx hb hts inX12_befriend_X12 hown hK hP 0 rfl rfl 0 (by decide) (hts _ mwX12_befriend_1) (fun _ h9 => h9) rfl dX12_befriend_51 ?_
          refine lv_bipush (v := Int32.ofInt (9 : Int)) hx hb dX12_befriend_54 (by decide) ?_
          refine lv_iload_n hx hb dX12_befriend_56 rfl (lv_at hl 2 rfl) ?_
          refine lv_iadd hx hb dX12_befriend_57 (z_ci (Int32.ofInt_add (9 : Int) x1) ?_)
          have hc := ck_c hf
          replace hf := ck_r hf
          refine va_iald hx hb hK hP 1 1 rfl rfl (z_ix_in hc) dX12_befriend_58 (z_ci (z_ald v_p0_st hc) ?_)
          clear hc
          refine lv_iconst (v := Int32.ofInt (1 : Int)) hx hb dX12_befriend_59 (by decide) ?_
          refine lv_iload_n hx hb dX12_befriend_60 rfl (lv_at hl 3 rfl) ?_
          refine lv_ishl hx hb dX12_befriend_61 (z_ci (z_shl_e (1 : Int) x2) ?_)
          refine lv_ior hx hb dX12_befriend_62 (z_ci (z_or_e (v_p0_st ((9 : Int) + x1)) (z_shl (1 : Int) x2)) ?_)
          refine lv_goto (tgt := 81) hx hb dX12_befriend_63 (by decide) ?_
          have hc := ck_c hf
          replace hf := ck_r hf
          refine zs_iast (wf := fun w10 => [(a_p0, .inr (12, [.ref a_p0_st, .ref a_p0_isKept, .int (Int32.ofInt i_p0_seats), .int (Int32.ofInt i_p0_stirs), .ref a_p0_brings, .ref a_p0_need, .ref a_p0_draft, .int (Int32.ofInt i_p0_dSeats), .int (Int32.ofInt i_p0_dStirs), .ref a_p0_dStir, .ref a_p0_dNeed, .int (Int32.ofInt i_p0_told), .int (Int32.ofInt i_p0_highest), .ref a_p0_tape, .int (Int32.ofInt i_p0_taped), .int (Int32.ofInt i_p0_pos), .int (Int32.ofInt i_p0_from), .int (Int32.ofInt i_p0_sort), .int (Int32.ofInt i_p0_value), .int (Int32.ofInt i_p0_fault), .int (Int32.ofInt i_p0_wrongAt), .ref a_p0_places, .ref a_p0_stirred, .ref a_p0_ways, .ref a_p0_waysThen, .ref a_p0_stays, .ref a_p0_fewest, .ref a_p0_bowls, .ref a_p0_has, .ref a_p0_goesOn, .ref a_p0_isThere, .ref a_p0_isThereThen, .ref a_p0_bestRow, .ref a_p0_lanes, .ref a_p0_sizes, .ref a_p0_cells, .int (Int32.ofInt i_p0_torn)])), (a_p0_st, .inl (G 1, 152, .inl (zA w10)))]) hx hb hK hP hD hS 1 1 rfl rfl hc dX12_befriend_81 (fun _ => rfl) (fun w10 ez H locs hP hD hS => ?_)
          replace hf := bnd_s hf ez
          clear ez hc
          refine lv_iload hx hb dX12_befriend_82 (lv_at hl 0 rfl) ?_
          obtain ⟨rfl, rfl⟩ := ou2 hf
          rw [hQ]
          exact W.iret hx hb hr (fun t ht hW => ⟨⟨_, (), rfl, rfl, by rw [ht]; exact hP, va_K.moved hW.alike hK, hD⟩, hS.F ht⟩) hS.2.2 dX12_befriend_84
      ·
        replace hf := ite_t ((z_eq hr4 hr5).mp cc) hf
        clear cc
        refine lv_iconst (v := Int32.ofInt (-1 : Int)) hx hb dX12_befriend_21 (by decide) ?_
        obtain ⟨rfl, rfl⟩ := ou2 hf
        rw [hQ]
        exact W.iret hx hb hr (fun t ht hW => ⟨⟨_, (), rfl, rfl, by rw [ht]; exact hP, va_K.moved hW.alike hK, hD⟩, hS.F ht⟩) hS.2.2 dX12_befriend_22

noncomputable def f_X12_spoon (i_p0_seats : Int) (v_p0_st : (Int → Int)) (x1 : Int) (x2 : Int) : Option (Int × (Int → Int)) := (bd1 (f_X12_isSeat i_p0_seats x1) (fun (z1 : Int) => (ck (z_r32 z1) (if z1 = (0 : Int) then (some ((-1 : Int), v_p0_st)) else (ck (z_r32 x2) (bd1 (f_X12_in x2 (1 : Int) (9 : Int)) (fun (z4 : Int) => (ck (z_r32 z4) (if z4 = (0 : Int) then (some ((-1 : Int), v_p0_st)) else (ck (z_ix ((16 : Int) + x1) 152) (bnd (v_p0_st ((16 : Int) + x1)) (fun (z6 : Int) => (ck (z_ix ((16 : Int) + x1) 152) (bnd (z_up v_p0_st ((16 : Int) + x1) x2) (fun (w7 : (Int → Int)) => (some (z6, w7)))))))))))))))))
abbrev rm_X12_spoon : Room := { frames := 2, cells := 0, slots := 0, locals := 46 }
theorem mwX12_spoon_0 : Cond.constantLong RX12 210 (9) ∈ wsX12_spoon := by first | exact List.mem_of_getElem? (i := 1) rfl | decide +kernel
theorem inX12_spoon_X12 : ∀ w ∈ wsX120, w ∈ wsX12_spoon := by first | exact fun w h => List.mem_cons_of_mem _ (List.mem_append_right _ h) | decide +kernel
theorem mwX12_spoon_2 : Cond.fieldLink RX12 7 "LadleKingsModel" "st" "[I" ∈ wsX12_spoon := by first | exact List.mem_of_getElem? (i := 2) rfl | decide +kernel
set_option maxHeartbeats 8000000 in
set_option maxRecDepth 100000 in
theorem c_X12_spoon (l : Launch) (D : va_G) (G : Nat → ClassId) (sz : Nat) (a_p0 : Nat) (a_p0_st : Nat) (a_p0_isKept : Nat) (a_p0_brings : Nat) (a_p0_need : Nat) (a_p0_draft : Nat) (a_p0_dStir : Nat) (a_p0_dNeed : Nat) (a_p0_tape : Nat) (a_p0_places : Nat) (a_p0_stirred : Nat) (a_p0_ways : Nat) (a_p0_waysThen : Nat) (a_p0_stays : Nat) (a_p0_fewest : Nat) (a_p0_bowls : Nat) (a_p0_has : Nat) (a_p0_goesOn : Nat) (a_p0_isThere : Nat) (a_p0_isThereThen : Nat) (a_p0_bestRow : Nat) (a_p0_lanes : Nat) (a_p0_sizes : Nat) (a_p0_cells : Nat) (i_p0_seats : Int) (i_p0_stirs : Int) (i_p0_dSeats : Int) (i_p0_dStirs : Int) (i_p0_told : Int) (i_p0_highest : Int) (i_p0_taped : Int) (i_p0_pos : Int) (i_p0_from : Int) (i_p0_sort : Int) (i_p0_value : Int) (i_p0_fault : Int) (i_p0_wrongAt : Int) (i_p0_torn : Int) (v_p0_st : (Int → Int)) (x1 : Int) (x2 : Int) (r : Int) (o_v_p0_st : (Int → Int)) (hf : f_X12_spoon i_p0_seats v_p0_st x1 x2 = some (r, o_v_p0_st)) : Met l yX12_spoon wsX12_spoon rm_X12_spoon (pcG D G [.ref a_p0, .int (Int32.ofInt x1), .int (Int32.ofInt x2)] sz [(a_p0, .inr (12, [.ref a_p0_st, .ref a_p0_isKept, .int (Int32.ofInt i_p0_seats), .int (Int32.ofInt i_p0_stirs), .ref a_p0_brings, .ref a_p0_need, .ref a_p0_draft, .int (Int32.ofInt i_p0_dSeats), .int (Int32.ofInt i_p0_dStirs), .ref a_p0_dStir, .ref a_p0_dNeed, .int (Int32.ofInt i_p0_told), .int (Int32.ofInt i_p0_highest), .ref a_p0_tape, .int (Int32.ofInt i_p0_taped), .int (Int32.ofInt i_p0_pos), .int (Int32.ofInt i_p0_from), .int (Int32.ofInt i_p0_sort), .int (Int32.ofInt i_p0_value), .int (Int32.ofInt i_p0_fault), .int (Int32.ofInt i_p0_wrongAt), .ref a_p0_places, .ref a_p0_stirred, .ref a_p0_ways, .ref a_p0_waysThen, .ref a_p0_stays, .ref a_p0_fewest, .ref a_p0_bowls, .ref a_p0_has, .ref a_p0_goesOn, .ref a_p0_isThere, .ref a_p0_isThereThen, .ref a_p0_bestRow, .ref a_p0_lanes, .ref a_p0_sizes, .ref a_p0_cells, .int (Int32.ofInt i_p0_torn)])), (a_p0_st, .inl (G 1, 152, .inl (zA v_p0_st)))]) (qcI D G (Int32.ofInt r) [(a_p0, .inr (12, [.ref a_p0_st, .ref a_p0_isKept, .int (Int32.ofInt i_p0_seats), .int (Int32.ofInt i_p0_stirs), .ref a_p0_brings, .ref a_p0_need, .ref a_p0_draft, .int (Int32.ofInt i_p0_dSeats), .int (Int32.ofInt i_p0_dStirs), .ref a_p0_dStir, .ref a_p0_dNeed, .int (Int32.ofInt i_p0_told), .int (Int32.ofInt i_p0_highest), .ref a_p0_tape, .int (Int32.ofInt i_p0_taped), .int (Int32.ofInt i_p0_pos), .int (Int32.ofInt i_p0_from), .int (Int32.ofInt i_p0_sort), .int (Int32.ofInt i_p0_value), .int (Int32.ofInt i_p0_fault), .int (Int32.ofInt i_p0_wrongAt), .ref a_p0_places, .ref a_p0_stirred, .ref a_p0_ways, .ref a_p0_waysThen, .ref a_p0_stays, .ref a_p0_fewest, .ref a_p0_bowls, .ref a_p0_has, .ref a_p0_goesOn, .ref a_p0_isThere, .ref a_p0_isThereThen, .ref a_p0_bestRow, .ref a_p0_lanes, .ref a_p0_sizes, .ref a_p0_cells, .int (Int32.ofInt i_p0_torn)])), (a_p0_st, .inl (G 1, 152, .inl (zA o_v_p0_st)))] (va_A [(a_p0, .inr (12, [.ref a_p0_st, .ref a_p0_isKept, .int (Int32.ofInt i_p0_seats), .int (Int32.ofInt i_p0_stirs), .ref a_p0_brings, .ref a_p0_need, .ref a_p0_draft, .int (Int32.ofInt i_p0_dSeats), .int (Int32.ofInt i_p0_dStirs), .ref a_p0_dStir, .ref a_p0_dNeed, .int (Int32.ofInt i_p0_told), .int (Int32.ofInt i_p0_highest), .ref a_p0_tape, .int (Int32.ofInt i_p0_taped), .int (Int32.ofInt i_p0_pos), .int (Int32.ofInt i_p0_from), .int (Int32.ofInt i_p0_sort), .int (Int32.ofInt i_p0_value), .int (Int32.ofInt i_p0_fault), .int (Int32.ofInt i_p0_wrongAt), .ref a_p0_places, .ref a_p0_stirred, .ref a_p0_ways, .ref a_p0_waysThen, .ref a_p0_stays, .ref a_p0_fewest, .ref a_p0_bowls, .ref a_p0_has, .ref a_p0_goesOn, .ref a_p0_isThere, .ref a_p0_isThereThen, .ref a_p0_bestRow, .ref a_p0_lanes, .ref a_p0_sizes, .ref a_p0_cells, .int (Int32.ofInt i_p0_torn)])), (a_p0_st, .inl (G 1, 152, .inl (zA v_p0_st)))] sz)) 0 0 (va_A [(a_p0, .inr (12, [.ref a_p0_st, .ref a_p0_isKept, .int (Int32.ofInt i_p0_seats), .int (Int32.ofInt i_p0_stirs), .ref a_p0_brings, .ref a_p0_need, .ref a_p0_draft, .int (Int32.ofInt i_p0_dSeats), .int (Int32.ofInt i_p0_dStirs), .ref a_p0_dStir, .ref a_p0_dNeed, .int (Int32.ofInt i_p0_told), .int (Int32.ofInt i_p0_highest), .ref a_p0_tape, .int (Int32.ofInt i_p0_taped), .int (Int32.ofInt i_p0_pos), .int (Int32.ofInt i_p0_from), .int (Int32.ofInt i_p0_sort), .int (Int32.ofInt i_p0_value), .int (Int32.ofInt i_p0_fault), .int (Int32.ofInt i_p0_wrongAt), .ref a_p0_places, .ref a_p0_stirred, .ref a_p0_ways, .ref a_p0_waysThen, .ref a_p0_stays, .ref a_p0_fewest, .ref a_p0_bowls, .ref a_p0_has, .ref a_p0_goesOn, .ref a_p0_isThere, .ref a_p0_isThereThen, .ref a_p0_bestRow, .ref a_p0_lanes, .ref a_p0_sizes, .ref a_p0_cells, .int (Int32.ofInt i_p0_torn)])), (a_p0_st, .inl (G 1, 152, .inl (zA v_p0_st)))] sz) := by
  refine Met.ofW (cc := cX12_spoon) (maxL := 4) (ret := (some .int)) (by decide) rfl ?_
  intro p e s m args below meth c s₁ B hml hv
  obtain ⟨rfl, hsz, hP, hK, hD0⟩ := hv
  have hx := B.exec
  have hb := B.bytes
  have hr := B.returns
  have hts := atoms_spec (ws := wsX12_spoon) B.pre
  have hown : s.vm.findClass RX12 = some m.cls := findClass_of_methodNamed B.named
  have hlocks := B.notSynchronized
  subst hsz
  have hD := hD0.self (sz := s.heap.size)
  generalize hAe : va_A [(a_p0, .inr (12, [.ref a_p0_st, .ref a_p0_isKept, .int (Int32.ofInt i_p0_seats), .int (Int32.ofInt i_p0_stirs), .ref a_p0_brings, .ref a_p0_need, .ref a_p0_draft, .int (Int32.ofInt i_p0_dSeats), .int (Int32.ofInt i_p0_dStirs), .ref a_p0_dStir, .ref a_p0_dNeed, .int (Int32.ofInt i_p0_told), .int (Int32.ofInt i_p0_highest), .ref a_p0_tape, .int (Int32.ofInt i_p0_taped), .int (Int32.ofInt i_p0_pos), .int (Int32.ofInt i_p0_from), .int (Int32.ofInt i_p0_sort), .int (Int32.ofInt i_p0_value), .int (Int32.ofInt i_p0_fault), .int (Int32.ofInt i_p0_wrongAt), .ref a_p0_places, .ref a_p0_stirred, .ref a_p0_ways, .ref a_p0_waysThen, .ref a_p0_stays, .ref a_p0_fewest, .ref a_p0_bowls, .ref a_p0_has, .ref a_p0_goesOn, .ref a_p0_isThere, .ref a_p0_isThereThen, .ref a_p0_bestRow, .ref a_p0_lanes, .ref a_p0_sizes, .ref a_p0_cells, .int (Int32.ofInt i_p0_torn)])), (a_p0_st, .inl (G 1, 152, .inl (zA v_p0_st)))] s.heap.size = A at hD ⊢
  have hA : ∀ q : Nat, s.heap.size ≤ q → A q := fun q h => by rw [← hAe]; exact Or.inr h
  clear hAe hD0
  have hS : va_S A s.heap s.heap [] := va_S.rf
  have hl := lv_entry ([.ref a_p0, .int (Int32.ofInt x1), .int (Int32.ofInt x2)]) (n := 4) (Nat.le_of_ble_eq_true rfl)
  rw [lg_entry_eq]
  generalize (lg_sl ([.ref a_p0, .int (Int32.ofInt x1), .int (Int32.ofInt x2)]) ++ List.replicate (4 - (lg_sl ([.ref a_p0, .int (Int32.ofInt x1), .int (Int32.ofInt x2)])).length) Slot.unset).toArray = ls at hl ⊢
  have hl : lv_has ls 4 [(0, .ref a_p0), (1, .int (Int32.ofInt x1)), (2, .int (Int32.ofInt x2))] := hl
  refine W_nameQ (fun Q hQ => ?_)
  obtain ⟨H, hH⟩ : ∃ H, H = s.heap := ⟨_, rfl⟩
  replace hS : va_S A s.heap H [] := by rw [hH]; exact hS
  replace hP : va_P D vwCl [(a_p0, .inr (12, [.ref a_p0_st, .ref a_p0_isKept, .int (Int32.ofInt i_p0_seats), .int (Int32.ofInt i_p0_stirs), .ref a_p0_brings, .ref a_p0_need, .ref a_p0_draft, .int (Int32.ofInt i_p0_dSeats), .int (Int32.ofInt i_p0_dStirs), .ref a_p0_dStir, .ref a_p0_dNeed, .int (Int32.ofInt i_p0_told), .int (Int32.ofInt i_p0_highest), .ref a_p0_tape, .int (Int32.ofInt i_p0_taped), .int (Int32.ofInt i_p0_pos), .int (Int32.ofInt i_p0_from), .int (Int32.ofInt i_p0_sort), .int (Int32.ofInt i_p0_value), .int (Int32.ofInt i_p0_fault), .int (Int32.ofInt i_p0_wrongAt), .ref a_p0_places, .ref a_p0_stirred, .ref a_p0_ways, .ref a_p0_waysThen, .ref a_p0_stays, .ref a_p0_fewest, .ref a_p0_bowls, .ref a_p0_has, .ref a_p0_goesOn, .ref a_p0_isThere, .ref a_p0_isThereThen, .ref a_p0_bestRow, .ref a_p0_lanes, .ref a_p0_sizes, .ref a_p0_cells, .int (Int32.ofInt i_p0_torn)])), (a_p0_st, .inl (G 1, 152, .inl (zA v_p0_st)))] H := by rw [hH]; exact hP
  rw [← hH]
  clear hH
  unfold f_X12_spoon at hf
  refine lv_aload_n hx hb dX12_spoon_0 rfl (lv_at hl 0 rfl) ?_
  refine lv_iload_n hx hb dX12_spoon_1 rfl (lv_at hl 1 rfl) ?_
  have hq := bd1_s hf
  clear hf
  obtain ⟨z1, hcall, hf⟩ := hq
  refine gnI (va_runV (As := [.int (Int32.ofInt x1)]) (rest := []) ⟨hx, hb, hml, hown, hts⟩ (c_X12_isSeat (l := l) (D := D) (G := G) (sz := H.size) (a_p0 := a_p0) (a_p0_st := a_p0_st) (a_p0_isKept := a_p0_isKept) (a_p0_brings := a_p0_brings) (a_p0_need := a_p0_need) (a_p0_draft := a_p0_draft) (a_p0_dStir := a_p0_dStir) (a_p0_dNeed := a_p0_dNeed) (a_p0_tape := a_p0_tape) (a_p0_places := a_p0_places) (a_p0_stirred := a_p0_stirred) (a_p0_ways := a_p0_ways) (a_p0_waysThen := a_p0_waysThen) (a_p0_stays := a_p0_stays) (a_p0_fewest := a_p0_fewest) (a_p0_bowls := a_p0_bowls) (a_p0_has := a_p0_has) (a_p0_goesOn := a_p0_goesOn) (a_p0_isThere := a_p0_isThere) (a_p0_isThereThen := a_p0_isThereThen) (a_p0_bestRow := a_p0_bestRow) (a_p0_lanes := a_p0_lanes) (a_p0_sizes := a_p0_sizes) (a_p0_cells := a_p0_cells) (i_p0_seats := i_p0_seats) (i_p0_stirs := i_p0_stirs) (i_p0_dSeats := i_p0_dSeats) (i_p0_dStirs := i_p0_dStirs) (i_p0_told := i_p0_told) (i_p0_highest := i_p0_highest) (i_p0_taped := i_p0_taped) (i_p0_pos := i_p0_pos) (i_p0_from := i_p0_from) (i_p0_sort := i_p0_sort) (i_p0_value := i_p0_value) (i_p0_fault := i_p0_fault) (i_p0_wrongAt := i_p0_wrongAt) (i_p0_torn := i_p0_torn) (x1 := x1) (r := z1) (hf := hcall)) (cwV 1 hts gX12_spoon_X12_isSeat rfl rfl rfl hdV_yX12_isSeat_RX12 ⟨Nat.le_of_ble_eq_true rfl, Nat.le_of_ble_eq_true rfl⟩) (preG_V (ci := 12) (q := (RX12, TX12, 37)) (hP.sub [0] rfl) (hD.sub [0] rfl rfl) hK rfl rfl) rfl rfl hl.1 rfl (lv_room (Nat.le_of_ble_eq_true rfl)) dX12_spoon_2 ⟨Nat.le_of_ble_eq_true rfl, Nat.le_of_ble_eq_true rfl⟩) hP hD hS hA [0] rfl (fun H locs hP hD hS => ?_)
  clear hcall
  have hr1 := ck_c hf
  replace hf := ck_r hf
  refine lv_if_eq (tgt := 20) hx hb dX12_spoon_5 (by decide) (fun cc => ?_) (fun cc => ?_)
  ·
    replace hf := ite_t ((z_eq0 hr1).mp cc) hf
    clear cc
    refine lv_iconst (v := Int32.ofInt (-1 : Int)) hx hb dX12_spoon_20 (by decide) ?_
    obtain ⟨rfl, rfl⟩ := ou2 hf
    rw [hQ]
    exact W.iret hx hb hr (fun t ht hW => ⟨⟨_, (), rfl, rfl, by rw [ht]; exact hP, va_K.moved hW.alike hK, hD⟩, hS.F ht⟩) hS.2.2 dX12_spoon_21
  ·
    replace hf := ite_f (fun h9 => cc ((z_eq0 hr1).mpr h9)) hf
    clear cc
    refine lv_iload_n hx hb dX12_spoon_8 rfl (lv_at hl 2 rfl) ?_
    have hr2 := ck_c hf
    replace hf := ck_r hf
    refine lv_i2l (v := Int64.ofInt x2) hx hb dX12_spoon_9 (z_i2l hr2) ?_
    refine lv_lconst (v := Int64.ofInt (1 : Int)) hx hb dX12_spoon_10 (by decide) ?_
    refine lv_ldc2 (v := (9 : Int64)) hx hb hown (hts _ mwX12_spoon_0) dX12_spoon_11 (z_cl (show Int64.ofInt (9 : Int) = _ from by decide) ?_)
    have hq := bd1_s hf
    clear hf
    obtain ⟨z4, hcall, hf⟩ := hq
    refine gnI (va_runS (As := [.long (Int64.ofInt x2), .long (Int64.ofInt (1 : Int)), .long (Int64.ofInt (9 : Int))]) (rest := []) ⟨hx, hb, hml, hown, hts⟩ (c_X12_in (l := l) (D := D) (G := G) (sz := H.size) (x0 := x2) (x2 := (1 : Int)) (x4 := (9 : Int)) (r := z4) (hf := hcall)) (va_cwS 3 hts gX12_spoon_X12_in rfl rfl rfl (by decide +kernel) ⟨Nat.le_of_ble_eq_true rfl, Nat.le_of_ble_eq_true rfl⟩) (preG_S (hP.sub [] rfl) (hD.sub [] rfl rfl) hK) rfl rfl hl.1 rfl (lv_room (Nat.le_of_ble_eq_true rfl)) dX12_spoon_14 ⟨Nat.le_of_ble_eq_true rfl, Nat.le_of_ble_eq_true rfl⟩) hP hD hS hA [] rfl (fun H locs hP hD hS => ?_)
    clear hcall
    have hr4 := ck_c hf
    replace hf := ck_r hf
    refine lv_if_ne (tgt := 22) hx hb dX12_spoon_17 (by decide) (fun cc => ?_) (fun cc => ?_)
    ·
      replace hf := ite_f (fun h9 => cc ((z_eq0 hr4).mpr h9)) hf
      clear cc
      refine lv_aload_n hx hb dX12_spoon_22 rfl (lv_at hl 0 rfl) ?_
      refine va_get (D := D) (ci := 12) (v := .ref a_p0_st) (C := RX12) (T := TX12) (N := 37) hx hb hts inX12_spoon_X12 hown hK hP 0 rfl rfl 0 (by decide) (hts _ mwX12_spoon_2) (fun _ h9 => h9) rfl dX12_spoon_23 ?_
      refine lv_bipush (v := Int32.ofInt (16 : Int)) hx hb dX12_spoon_26 (by decide) ?_
      refine lv_iload_n hx hb dX12_spoon_28 rfl (lv_at hl 1 rfl) ?_
      refine lv_iadd hx hb dX12_spoon_29 (z_ci (Int32.ofInt_add (16 : Int) x1) ?_)
      have hc := ck_c hf
      replace hf := ck_r hf
      refine va_iald hx hb hK hP 1 1 rfl rfl (z_ix_in hc) dX12_spoon_30 (z_ci (z_ald v_p0_st hc) ?_)
      clear hc
      refine z_topi (fun z6 ez => ?_)
      replace hf := bnd_s hf ez
      clear ez
      refine lv_istore_n (lv' := [(3, .int (Int32.ofInt z6)), (0, .ref a_p0), (1, .int (Int32.ofInt x1)), (2, .int (Int32.ofInt x2))]) hx hb dX12_spoon_31 rfl hl (by decide) rfl (fun ls hl => ?_)
      refine lv_aload_n hx hb dX12_spoon_32 rfl (lv_at hl 1 rfl) ?_
      refine va_get (D := D) (ci := 12) (v := .ref a_p0_st) (C := RX12) (T := TX12) (N := 37) hx hb hts inX12_spoon_X12 hown hK hP 0 rfl rfl 0 (by decide) (hts _ mwX12_spoon_2) (fun _ h9 => h9) rfl dX12_spoon_33 ?_
      refine lv_bipush (v := Int32.ofInt (16 : Int)) hx hb dX12_spoon_36 (by decide) ?_
      refine lv_iload_n hx hb dX12_spoon_38 rfl (lv_at hl 2 rfl) ?_
      refine lv_iadd hx hb dX12_spoon_39 (z_ci (Int32.ofInt_add (16 : Int) x1) ?_)
      refine lv_iload_n hx hb dX12_spoon_40 rfl (lv_at hl 3 rfl) ?_
      have hc := ck_c hf
      replace hf := ck_r hf
      refine zs_iast (wf := fun w7 => [(a_p0, .inr (12, [.ref a_p0_st, .ref a_p0_isKept, .int (Int32.ofInt i_p0_seats), .int (Int32.ofInt i_p0_stirs), .ref a_p0_brings, .ref a_p0_need, .ref a_p0_draft, .int (Int32.ofInt i_p0_dSeats), .int (Int32.ofInt i_p0_dStirs), .ref a_p0_dStir, .ref a_p0_dNeed, .int (Int32.ofInt i_p0_told), .int (Int32.ofInt i_p0_highest), .ref a_p0_tape, .int (Int32.ofInt i_p0_taped), .int (Int32.ofInt i_p0_pos), .int (Int32.ofInt i_p0_from), .int (Int32.ofInt i_p0_sort), .int (Int32.ofInt i_p0_value), .int (Int32.ofInt i_p0_fault), .int (Int32.ofInt i_p0_wrongAt), .ref a_p0_places, .ref a_p0_stirred, .ref a_p0_ways, .ref a_p0_waysThen, .ref a_p0_stays, .ref a_p0_fewest, .ref a_p0_bowls, .ref a_p0_has, .ref a_p0_goesOn, .ref a_p0_isThere, .ref a_p0_isThereThen, .ref a_p0_bestRow, .ref a_p0_lanes, .ref a_p0_sizes, .ref a_p0_cells, .int (Int32.ofInt i_p0_torn)])), (a_p0_st, .inl (G 1, 152, .inl (zA w7)))]) hx hb hK hP hD hS 1 1 rfl rfl hc dX12_spoon_41 (fun _ => rfl) (fun w7 ez H locs hP hD hS => ?_)
      replace hf := bnd_s hf ez
      clear ez hc
      refine lv_iload_n hx hb dX12_spoon_42 rfl (lv_at hl 0 rfl) ?_
      obtain ⟨rfl, rfl⟩ := ou2 hf
      rw [hQ]
      exact W.iret hx hb hr (fun t ht hW => ⟨⟨_, (), rfl, rfl, by rw [ht]; exact hP, va_K.moved hW.alike hK, hD⟩, hS.F ht⟩) hS.2.2 dX12_spoon_43
    ·
      replace hf := ite_t ((z_eq0 hr4).mp cc) hf
      clear cc
      refine lv_iconst (v := Int32.ofInt (-1 : Int)) hx hb dX12_spoon_20 (by decide) ?_
      obtain ⟨rfl, rfl⟩ := ou2 hf
      rw [hQ]
      exact W.iret hx hb hr (fun t ht hW => ⟨⟨_, (), rfl, rfl, by rw [ht]; exact hP, va_K.moved hW.alike hK, hD⟩, hS.F ht⟩) hS.2.2 dX12_spoon_21

noncomputable def f_X12_crown (i_p0_seats : Int) (v_p0_st : (Int → Int)) (x1 : Int) : Option (Int × (Int → Int)) := (bd1 (f_X12_isSeat i_p0_seats x1) (fun (z1 : Int) => (ck (z_r32 z1) (if z1 = (0 : Int) then (some ((-1 : Int), v_p0_st)) else (ck (z_ix (8 : Int) 152) (bnd (v_p0_st (8 : Int)) (fun (z3 : Int) => (ck (z_ix (8 : Int) 152) (bnd (z_up v_p0_st (8 : Int) x1) (fun (w4 : (Int → Int)) => (some (z3, w4))))))))))))
abbrev rm_X12_crown : Room := { frames := 2, cells := 0, slots := 0, locals := 46 }
theorem inX12_crown_X12 : ∀ w ∈ wsX120, w ∈ wsX12_crown := by first | exact fun w h => List.mem_cons_of_mem _ (List.mem_append_right _ h) | decide +kernel
theorem mwX12_crown_1 : Cond.fieldLink RX12 7 "LadleKingsModel" "st" "[I" ∈ wsX12_crown := by first | exact List.mem_of_getElem? (i := 1) rfl | decide +kernel
set_option maxHeartbeats 8000000 in
set_option maxRecDepth 100000 in
theorem c_X12_crown (l : Launch) (D : va_G) (G : Nat → ClassId) (sz : Nat) (a_p0 : Nat) (a_p0_st : Nat) (a_p0_isKept : Nat) (a_p0_brings : Nat) (a_p0_need : Nat) (a_p0_draft : Nat) (a_p0_dStir : Nat) (a_p0_dNeed : Nat) (a_p0_tape : Nat) (a_p0_places : Nat) (a_p0_stirred : Nat) (a_p0_ways : Nat) (a_p0_waysThen : Nat) (a_p0_stays : Nat) (a_p0_fewest : Nat) (a_p0_bowls : Nat) (a_p0_has : Nat) (a_p0_goesOn : Nat) (a_p0_isThere : Nat) (a_p0_isThereThen : Nat) (a_p0_bestRow : Nat) (a_p0_lanes : Nat) (a_p0_sizes : Nat) (a_p0_cells : Nat) (i_p0_seats : Int) (i_p0_stirs : Int) (i_p0_dSeats : Int) (i_p0_dStirs : Int) (i_p0_told : Int) (i_p0_highest : Int) (i_p0_taped : Int) (i_p0_pos : Int) (i_p0_from : Int) (i_p0_sort : Int) (i_p0_value : Int) (i_p0_fault : Int) (i_p0_wrongAt : Int) (i_p0_torn : Int) (v_p0_st : (Int → Int)) (x1 : Int) (r : Int) (o_v_p0_st : (Int → Int)) (hf : f_X12_crown i_p0_seats v_p0_st x1 = some (r, o_v_p0_st)) : Met l yX12_crown wsX12_crown rm_X12_crown (pcG D G [.ref a_p0, .int (Int32.ofInt x1)] sz [(a_p0, .inr (12, [.ref a_p0_st, .ref a_p0_isKept, .int (Int32.ofInt i_p0_seats), .int (Int32.ofInt i_p0_stirs), .ref a_p0_brings, .ref a_p0_need, .ref a_p0_draft, .int (Int32.ofInt i_p0_dSeats), .int (Int32.ofInt i_p0_dStirs), .ref a_p0_dStir, .ref a_p0_dNeed, .int (Int32.ofInt i_p0_told), .int (Int32.ofInt i_p0_highest), .ref a_p0_tape, .int (Int32.ofInt i_p0_taped), .int (Int32.ofInt i_p0_pos), .int (Int32.ofInt i_p0_from), .int (Int32.ofInt i_p0_sort), .int (Int32.ofInt i_p0_value), .int (Int32.ofInt i_p0_fault), .int (Int32.ofInt i_p0_wrongAt), .ref a_p0_places, .ref a_p0_stirred, .ref a_p0_ways, .ref a_p0_waysThen, .ref a_p0_stays, .ref a_p0_fewest, .ref a_p0_bowls, .ref a_p0_has, .ref a_p0_goesOn, .ref a_p0_isThere, .ref a_p0_isThereThen, .ref a_p0_bestRow, .ref a_p0_lanes, .ref a_p0_sizes, .ref a_p0_cells, .int (Int32.ofInt i_p0_torn)])), (a_p0_st, .inl (G 1, 152, .inl (zA v_p0_st)))]) (qcI D G (Int32.ofInt r) [(a_p0, .inr (12, [.ref a_p0_st, .ref a_p0_isKept, .int (Int32.ofInt i_p0_seats), .int (Int32.ofInt i_p0_stirs), .ref a_p0_brings, .ref a_p0_need, .ref a_p0_draft, .int (Int32.ofInt i_p0_dSeats), .int (Int32.ofInt i_p0_dStirs), .ref a_p0_dStir, .ref a_p0_dNeed, .int (Int32.ofInt i_p0_told), .int (Int32.ofInt i_p0_highest), .ref a_p0_tape, .int (Int32.ofInt i_p0_taped), .int (Int32.ofInt i_p0_pos), .int (Int32.ofInt i_p0_from), .int (Int32.ofInt i_p0_sort), .int (Int32.ofInt i_p0_value), .int (Int32.ofInt i_p0_fault), .int (Int32.ofInt i_p0_wrongAt), .ref a_p0_places, .ref a_p0_stirred, .ref a_p0_ways, .ref a_p0_waysThen, .ref a_p0_stays, .ref a_p0_fewest, .ref a_p0_bowls, .ref a_p0_has, .ref a_p0_goesOn, .ref a_p0_isThere, .ref a_p0_isThereThen, .ref a_p0_bestRow, .ref a_p0_lanes, .ref a_p0_sizes, .ref a_p0_cells, .int (Int32.ofInt i_p0_torn)])), (a_p0_st, .inl (G 1, 152, .inl (zA o_v_p0_st)))] (va_A [(a_p0, .inr (12, [.ref a_p0_st, .ref a_p0_isKept, .int (Int32.ofInt i_p0_seats), .int (Int32.ofInt i_p0_stirs), .ref a_p0_brings, .ref a_p0_need, .ref a_p0_draft, .int (Int32.ofInt i_p0_dSeats), .int (Int32.ofInt i_p0_dStirs), .ref a_p0_dStir, .ref a_p0_dNeed, .int (Int32.ofInt i_p0_told), .int (Int32.ofInt i_p0_highest), .ref a_p0_tape, .int (Int32.ofInt i_p0_taped), .int (Int32.ofInt i_p0_pos), .int (Int32.ofInt i_p0_from), .int (Int32.ofInt i_p0_sort), .int (Int32.ofInt i_p0_value), .int (Int32.ofInt i_p0_fault), .int (Int32.ofInt i_p0_wrongAt), .ref a_p0_places, .ref a_p0_stirred, .ref a_p0_ways, .ref a_p0_waysThen, .ref a_p0_stays, .ref a_p0_fewest, .ref a_p0_bowls, .ref a_p0_has, .ref a_p0_goesOn, .ref a_p0_isThere, .ref a_p0_isThereThen, .ref a_p0_bestRow, .ref a_p0_lanes, .ref a_p0_sizes, .ref a_p0_cells, .int (Int32.ofInt i_p0_torn)])), (a_p0_st, .inl (G 1, 152, .inl (zA v_p0_st)))] sz)) 0 0 (va_A [(a_p0, .inr (12, [.ref a_p0_st, .ref a_p0_isKept, .int (Int32.ofInt i_p0_seats), .int (Int32.ofInt i_p0_stirs), .ref a_p0_brings, .ref a_p0_need, .ref a_p0_draft, .int (Int32.ofInt i_p0_dSeats), .int (Int32.ofInt i_p0_dStirs), .ref a_p0_dStir, .ref a_p0_dNeed, .int (Int32.ofInt i_p0_told), .int (Int32.ofInt i_p0_highest), .ref a_p0_tape, .int (Int32.ofInt i_p0_taped), .int (Int32.ofInt i_p0_pos), .int (Int32.ofInt i_p0_from), .int (Int32.ofInt i_p0_sort), .int (Int32.ofInt i_p0_value), .int (Int32.ofInt i_p0_fault), .int (Int32.ofInt i_p0_wrongAt), .ref a_p0_places, .ref a_p0_stirred, .ref a_p0_ways, .ref a_p0_waysThen, .ref a_p0_stays, .ref a_p0_fewest, .ref a_p0_bowls, .ref a_p0_has, .ref a_p0_goesOn, .ref a_p0_isThere, .ref a_p0_isThereThen, .ref a_p0_bestRow, .ref a_p0_lanes, .ref a_p0_sizes, .ref a_p0_cells, .int (Int32.ofInt i_p0_torn)])), (a_p0_st, .inl (G 1, 152, .inl (zA v_p0_st)))] sz) := by
  refine Met.ofW (cc := cX12_crown) (maxL := 3) (ret := (some .int)) (by decide) rfl ?_
  intro p e s m args below meth c s₁ B hml hv
  obtain ⟨rfl, hsz, hP, hK, hD0⟩ := hv
  have hx := B.exec
  have hb := B.bytes
  have hr := B.returns
  have hts := atoms_spec (ws := wsX12_crown) B.pre
  have hown : s.vm.findClass RX12 = some m.cls := findClass_of_methodNamed B.named
  have hlocks := B.notSynchronized
  subst hsz
  have hD := hD0.self (sz := s.heap.size)
  generalize hAe : va_A [(a_p0, .inr (12, [.ref a_p0_st, .ref a_p0_isKept, .int (Int32.ofInt i_p0_seats), .int (Int32.ofInt i_p0_stirs), .ref a_p0_brings, .ref a_p0_need, .ref a_p0_draft, .int (Int32.ofInt i_p0_dSeats), .int (Int32.ofInt i_p0_dStirs), .ref a_p0_dStir, .ref a_p0_dNeed, .int (Int32.ofInt i_p0_told), .int (Int32.ofInt i_p0_highest), .ref a_p0_tape, .int (Int32.ofInt i_p0_taped), .int (Int32.ofInt i_p0_pos), .int (Int32.ofInt i_p0_from), .int (Int32.ofInt i_p0_sort), .int (Int32.ofInt i_p0_value), .int (Int32.ofInt i_p0_fault), .int (Int32.ofInt i_p0_wrongAt), .ref a_p0_places, .ref a_p0_stirred, .ref a_p0_ways, .ref a_p0_waysThen, .ref a_p0_stays, .ref a_p0_fewest, .ref a_p0_bowls, .ref a_p0_has, .ref a_p0_goesOn, .ref a_p0_isThere, .ref a_p0_isThereThen, .ref a_p0_bestRow, .ref a_p0_lanes, .ref a_p0_sizes, .ref a_p0_cells, .int (Int32.ofInt i_p0_torn)])), (a_p0_st, .inl (G 1, 152, .inl (zA v_p0_st)))] s.heap.size = A at hD ⊢
  have hA : ∀ q : Nat, s.heap.size ≤ q → A q := fun q h => by rw [← hAe]; exact Or.inr h
  clear hAe hD0
  have hS : va_S A s.heap s.heap [] := va_S.rf
  have hl := lv_entry ([.ref a_p0, .int (Int32.ofInt x1)]) (n := 3) (Nat.le_of_ble_eq_true rfl)
  rw [lg_entry_eq]
  generalize (lg_sl ([.ref a_p0, .int (Int32.ofInt x1)]) ++ List.replicate (3 - (lg_sl ([.ref a_p0, .int (Int32.ofInt x1)])).length) Slot.unset).toArray = ls at hl ⊢
  have hl : lv_has ls 3 [(0, .ref a_p0), (1, .int (Int32.ofInt x1))] := hl
  refine W_nameQ (fun Q hQ => ?_)
  obtain ⟨H, hH⟩ : ∃ H, H = s.heap := ⟨_, rfl⟩
  replace hS : va_S A s.heap H [] := by rw [hH]; exact hS
  replace hP : va_P D vwCl [(a_p0, .inr (12, [.ref a_p0_st, .ref a_p0_isKept, .int (Int32.ofInt i_p0_seats), .int (Int32.ofInt i_p0_stirs), .ref a_p0_brings, .ref a_p0_need, .ref a_p0_draft, .int (Int32.ofInt i_p0_dSeats), .int (Int32.ofInt i_p0_dStirs), .ref a_p0_dStir, .ref a_p0_dNeed, .int (Int32.ofInt i_p0_told), .int (Int32.ofInt i_p0_highest), .ref a_p0_tape, .int (Int32.ofInt i_p0_taped), .int (Int32.ofInt i_p0_pos), .int (Int32.ofInt i_p0_from), .int (Int32.ofInt i_p0_sort), .int (Int32.ofInt i_p0_value), .int (Int32.ofInt i_p0_fault), .int (Int32.ofInt i_p0_wrongAt), .ref a_p0_places, .ref a_p0_stirred, .ref a_p0_ways, .ref a_p0_waysThen, .ref a_p0_stays, .ref a_p0_fewest, .ref a_p0_bowls, .ref a_p0_has, .ref a_p0_goesOn, .ref a_p0_isThere, .ref a_p0_isThereThen, .ref a_p0_bestRow, .ref a_p0_lanes, .ref a_p0_sizes, .ref a_p0_cells, .int (Int32.ofInt i_p0_torn)])), (a_p0_st, .inl (G 1, 152, .inl (zA v_p0_st)))] H := by rw [hH]; exact hP
  rw [← hH]
  clear hH
  unfold f_X12_crown at hf
  refine lv_aload_n hx hb dX12_crown_0 rfl (lv_at hl 0 rfl) ?_
  refine lv_iload_n hx hb dX12_crown_1 rfl (lv_at hl 1 rfl) ?_
  have hq := bd1_s hf
  clear hf
  obtain ⟨z1, hcall, hf⟩ := hq
  refine gnI (va_runV (As := [.int (Int32.ofInt x1)]) (rest := []) ⟨hx, hb, hml, hown, hts⟩ (c_X12_isSeat (l := l) (D := D) (G := G) (sz := H.size) (a_p0 := a_p0) (a_p0_st := a_p0_st) (a_p0_isKept := a_p0_isKept) (a_p0_brings := a_p0_brings) (a_p0_need := a_p0_need) (a_p0_draft := a_p0_draft) (a_p0_dStir := a_p0_dStir) (a_p0_dNeed := a_p0_dNeed) (a_p0_tape := a_p0_tape) (a_p0_places := a_p0_places) (a_p0_stirred := a_p0_stirred) (a_p0_ways := a_p0_ways) (a_p0_waysThen := a_p0_waysThen) (a_p0_stays := a_p0_stays) (a_p0_fewest := a_p0_fewest) (a_p0_bowls := a_p0_bowls) (a_p0_has := a_p0_has) (a_p0_goesOn := a_p0_goesOn) (a_p0_isThere := a_p0_isThere) (a_p0_isThereThen := a_p0_isThereThen) (a_p0_bestRow := a_p0_bestRow) (a_p0_lanes := a_p0_lanes) (a_p0_sizes := a_p0_sizes) (a_p0_cells := a_p0_cells) (i_p0_seats := i_p0_seats) (i_p0_stirs := i_p0_stirs) (i_p0_dSeats := i_p0_dSeats) (i_p0_dStirs := i_p0_dStirs) (i_p0_told := i_p0_told) (i_p0_highest := i_p0_highest) (i_p0_taped := i_p0_taped) (i_p0_pos := i_p0_pos) (i_p0_from := i_p0_from) (i_p0_sort := i_p0_sort) (i_p0_value := i_p0_value) (i_p0_fault := i_p0_fault) (i_p0_wrongAt := i_p0_wrongAt) (i_p0_torn := i_p0_torn) (x1 := x1) (r := z1) (hf := hcall)) (cwV 1 hts gX12_crown_X12_isSeat rfl rfl rfl hdV_yX12_isSeat_RX12 ⟨Nat.le_of_ble_eq_true rfl, Nat.le_of_ble_eq_true rfl⟩) (preG_V (ci := 12) (q := (RX12, TX12, 37)) (hP.sub [0] rfl) (hD.sub [0] rfl rfl) hK rfl rfl) rfl rfl hl.1 rfl (lv_room (Nat.le_of_ble_eq_true rfl)) dX12_crown_2 ⟨Nat.le_of_ble_eq_true rfl, Nat.le_of_ble_eq_true rfl⟩) hP hD hS hA [0] rfl (fun H locs hP hD hS => ?_)
  clear hcall
  have hr1 := ck_c hf
  replace hf := ck_r hf
  refine lv_if_ne (tgt := 10) hx hb dX12_crown_5 (by decide) (fun cc => ?_) (fun cc => ?_)
  ·
    replace hf := ite_f (fun h9 => cc ((z_eq0 hr1).mpr h9)) hf
    clear cc
    refine lv_aload_n hx hb dX12_crown_10 rfl (lv_at hl 0 rfl) ?_
    refine va_get (D := D) (ci := 12) (v := .ref a_p0_st) (C := RX12) (T := TX12) (N := 37) hx hb hts inX12_crown_X12 hown hK hP 0 rfl rfl 0 (by decide) (hts _ mwX12_crown_1) (fun _ h9 => h9) rfl dX12_crown_11 ?_
    refine lv_bipush (v := Int32.ofInt (8 : Int)) hx hb dX12_crown_14 (by decide) ?_
    have hc := ck_c hf
    replace hf := ck_r hf
    refine va_iald hx hb hK hP 1 1 rfl rfl (z_ix_in hc) dX12_crown_16 (z_ci (z_ald v_p0_st hc) ?_)
    clear hc
    refine z_topi (fun z3 ez => ?_)
    replace hf := bnd_s hf ez
    clear ez
    refine lv_istore_n (lv' := [(2, .int (Int32.ofInt z3)), (0, .ref a_p0), (1, .int (Int32.ofInt x1))]) hx hb dX12_crown_17 rfl hl (by decide) rfl (fun ls hl => ?_)
    refine lv_aload_n hx hb dX12_crown_18 rfl (lv_at hl 1 rfl) ?_
    refine va_get (D := D) (ci := 12) (v := .ref a_p0_st) (C := RX12) (T := TX12) (N := 37) hx hb hts inX12_crown_X12 hown hK hP 0 rfl rfl 0 (by decide) (hts _ mwX12_crown_1) (fun _ h9 => h9) rfl dX12_crown_19 ?_
    refine lv_bipush (v := Int32.ofInt (8 : Int)) hx hb dX12_crown_22 (by decide) ?_
    refine lv_iload_n hx hb dX12_crown_24 rfl (lv_at hl 2 rfl) ?_
    have hc := ck_c hf
    replace hf := ck_r hf
    refine zs_iast (wf := fun w4 => [(a_p0, .inr (12, [.ref a_p0_st, .ref a_p0_isKept, .int (Int32.ofInt i_p0_seats), .int (Int32.ofInt i_p0_stirs), .ref a_p0_brings, .ref a_p0_need, .ref a_p0_draft, .int (Int32.ofInt i_p0_dSeats), .int (Int32.ofInt i_p0_dStirs), .ref a_p0_dStir, .ref a_p0_dNeed, .int (Int32.ofInt i_p0_told), .int (Int32.ofInt i_p0_highest), .ref a_p0_tape, .int (Int32.ofInt i_p0_taped), .int (Int32.ofInt i_p0_pos), .int (Int32.ofInt i_p0_from), .int (Int32.ofInt i_p0_sort), .int (Int32.ofInt i_p0_value), .int (Int32.ofInt i_p0_fault), .int (Int32.ofInt i_p0_wrongAt), .ref a_p0_places, .ref a_p0_stirred, .ref a_p0_ways, .ref a_p0_waysThen, .ref a_p0_stays, .ref a_p0_fewest, .ref a_p0_bowls, .ref a_p0_has, .ref a_p0_goesOn, .ref a_p0_isThere, .ref a_p0_isThereThen, .ref a_p0_bestRow, .ref a_p0_lanes, .ref a_p0_sizes, .ref a_p0_cells, .int (Int32.ofInt i_p0_torn)])), (a_p0_st, .inl (G 1, 152, .inl (zA w4)))]) hx hb hK hP hD hS 1 1 rfl rfl hc dX12_crown_25 (fun _ => rfl) (fun w4 ez H locs hP hD hS => ?_)
    replace hf := bnd_s hf ez
    clear ez hc
    refine lv_iload_n hx hb dX12_crown_26 rfl (lv_at hl 0 rfl) ?_
    obtain ⟨rfl, rfl⟩ := ou2 hf
    rw [hQ]
    exact W.iret hx hb hr (fun t ht hW => ⟨⟨_, (), rfl, rfl, by rw [ht]; exact hP, va_K.moved hW.alike hK, hD⟩, hS.F ht⟩) hS.2.2 dX12_crown_27
  ·
    replace hf := ite_t ((z_eq0 hr1).mp cc) hf
    clear cc
    refine lv_iconst (v := Int32.ofInt (-1 : Int)) hx hb dX12_crown_8 (by decide) ?_
    obtain ⟨rfl, rfl⟩ := ou2 hf
    rw [hQ]
    exact W.iret hx hb hr (fun t ht hW => ⟨⟨_, (), rfl, rfl, by rw [ht]; exact hP, va_K.moved hW.alike hK, hD⟩, hS.F ht⟩) hS.2.2 dX12_crown_9

noncomputable def f_X12_fill (i_p0_seats : Int) (v_p0_st : (Int → Int)) (x1 : Int) (x2 : Int) : Option (Int × (Int → Int)) := (bd1 (f_X12_isSeat i_p0_seats x1) (fun (z1 : Int) => (ck (z_r32 z1) (if z1 = (0 : Int) then (some ((-1 : Int), v_p0_st)) else (ck (z_r32 x2) (bd1 (f_X12_in x2 (0 : Int) (9 : Int)) (fun (z4 : Int) => (ck (z_r32 z4) (if z4 = (0 : Int) then (some ((-1 : Int), v_p0_st)) else (ck (z_ix x1 152) (bnd (v_p0_st x1) (fun (z6 : Int) => (ck (z_ix x1 152) (bnd (z_up v_p0_st x1 x2) (fun (w7 : (Int → Int)) => (some (z6, w7)))))))))))))))))
abbrev rm_X12_fill : Room := { frames := 2, cells := 0, slots := 0, locals := 46 }
theorem mwX12_fill_0 : Cond.constantLong RX12 210 (9) ∈ wsX12_fill := by first | exact List.mem_of_getElem? (i := 1) rfl | decide +kernel
theorem inX12_fill_X12 : ∀ w ∈ wsX120, w ∈ wsX12_fill := by first | exact fun w h => List.mem_cons_of_mem _ (List.mem_append_right _ h) | decide +kernel
theorem mwX12_fill_2 : Cond.fieldLink RX12 7 "LadleKingsModel" "st" "[I" ∈ wsX12_fill := by first | exact List.mem_of_getElem? (i := 2) rfl | decide +kernel
set_option maxHeartbeats 8000000 in
set_option maxRecDepth 100000 in
theorem c_X12_fill (l : Launch) (D : va_G) (G : Nat → ClassId) (sz : Nat) (a_p0 : Nat) (a_p0_st : Nat) (a_p0_isKept : Nat) (a_p0_brings : Nat) (a_p0_need : Nat) (a_p0_draft : Nat) (a_p0_dStir : Nat) (a_p0_dNeed : Nat) (a_p0_tape : Nat) (a_p0_places : Nat) (a_p0_stirred : Nat) (a_p0_ways : Nat) (a_p0_waysThen : Nat) (a_p0_stays : Nat) (a_p0_fewest : Nat) (a_p0_bowls : Nat) (a_p0_has : Nat) (a_p0_goesOn : Nat) (a_p0_isThere : Nat) (a_p0_isThereThen : Nat) (a_p0_bestRow : Nat) (a_p0_lanes : Nat) (a_p0_sizes : Nat) (a_p0_cells : Nat) (i_p0_seats : Int) (i_p0_stirs : Int) (i_p0_dSeats : Int) (i_p0_dStirs : Int) (i_p0_told : Int) (i_p0_highest : Int) (i_p0_taped : Int) (i_p0_pos : Int) (i_p0_from : Int) (i_p0_sort : Int) (i_p0_value : Int) (i_p0_fault : Int) (i_p0_wrongAt : Int) (i_p0_torn : Int) (v_p0_st : (Int → Int)) (x1 : Int) (x2 : Int) (r : Int) (o_v_p0_st : (Int → Int)) (hf : f_X12_fill i_p0_seats v_p0_st x1 x2 = some (r, o_v_p0_st)) : Met l yX12_fill wsX12_fill rm_X12_fill (pcG D G [.ref a_p0, .int (Int32.ofInt x1), .int (Int32.ofInt x2)] sz [(a_p0, .inr (12, [.ref a_p0_st, .ref a_p0_isKept, .int (Int32.ofInt i_p0_seats), .int (Int32.ofInt i_p0_stirs), .ref a_p0_brings, .ref a_p0_need, .ref a_p0_draft, .int (Int32.ofInt i_p0_dSeats), .int (Int32.ofInt i_p0_dStirs), .ref a_p0_dStir, .ref a_p0_dNeed, .int (Int32.ofInt i_p0_told), .int (Int32.ofInt i_p0_highest), .ref a_p0_tape, .int (Int32.ofInt i_p0_taped), .int (Int32.ofInt i_p0_pos), .int (Int32.ofInt i_p0_from), .int (Int32.ofInt i_p0_sort), .int (Int32.ofInt i_p0_value), .int (Int32.ofInt i_p0_fault), .int (Int32.ofInt i_p0_wrongAt), .ref a_p0_places, .ref a_p0_stirred, .ref a_p0_ways, .ref a_p0_waysThen, .ref a_p0_stays, .ref a_p0_fewest, .ref a_p0_bowls, .ref a_p0_has, .ref a_p0_goesOn, .ref a_p0_isThere, .ref a_p0_isThereThen, .ref a_p0_bestRow, .ref a_p0_lanes, .ref a_p0_sizes, .ref a_p0_cells, .int (Int32.ofInt i_p0_torn)])), (a_p0_st, .inl (G 1, 152, .inl (zA v_p0_st)))]) (qcI D G (Int32.ofInt r) [(a_p0, .inr (12, [.ref a_p0_st, .ref a_p0_isKept, .int (Int32.ofInt i_p0_seats), .int (Int32.ofInt i_p0_stirs), .ref a_p0_brings, .ref a_p0_need, .ref a_p0_draft, .int (Int32.ofInt i_p0_dSeats), .int (Int32.ofInt i_p0_dStirs), .ref a_p0_dStir, .ref a_p0_dNeed, .int (Int32.ofInt i_p0_told), .int (Int32.ofInt i_p0_highest), .ref a_p0_tape, .int (Int32.ofInt i_p0_taped), .int (Int32.ofInt i_p0_pos), .int (Int32.ofInt i_p0_from), .int (Int32.ofInt i_p0_sort), .int (Int32.ofInt i_p0_value), .int (Int32.ofInt i_p0_fault), .int (Int32.ofInt i_p0_wrongAt), .ref a_p0_places, .ref a_p0_stirred, .ref a_p0_ways, .ref a_p0_waysThen, .ref a_p0_stays, .ref a_p0_fewest, .ref a_p0_bowls, .ref a_p0_has, .ref a_p0_goesOn, .ref a_p0_isThere, .ref a_p0_isThereThen, .ref a_p0_bestRow, .ref a_p0_lanes, .ref a_p0_sizes, .ref a_p0_cells, .int (Int32.ofInt i_p0_torn)])), (a_p0_st, .inl (G 1, 152, .inl (zA o_v_p0_st)))] (va_A [(a_p0, .inr (12, [.ref a_p0_st, .ref a_p0_isKept, .int (Int32.ofInt i_p0_seats), .int (Int32.ofInt i_p0_stirs), .ref a_p0_brings, .ref a_p0_need, .ref a_p0_draft, .int (Int32.ofInt i_p0_dSeats), .int (Int32.ofInt i_p0_dStirs), .ref a_p0_dStir, .ref a_p0_dNeed, .int (Int32.ofInt i_p0_told), .int (Int32.ofInt i_p0_highest), .ref a_p0_tape, .int (Int32.ofInt i_p0_taped), .int (Int32.ofInt i_p0_pos), .int (Int32.ofInt i_p0_from), .int (Int32.ofInt i_p0_sort), .int (Int32.ofInt i_p0_value), .int (Int32.ofInt i_p0_fault), .int (Int32.ofInt i_p0_wrongAt), .ref a_p0_places, .ref a_p0_stirred, .ref a_p0_ways, .ref a_p0_waysThen, .ref a_p0_stays, .ref a_p0_fewest, .ref a_p0_bowls, .ref a_p0_has, .ref a_p0_goesOn, .ref a_p0_isThere, .ref a_p0_isThereThen, .ref a_p0_bestRow, .ref a_p0_lanes, .ref a_p0_sizes, .ref a_p0_cells, .int (Int32.ofInt i_p0_torn)])), (a_p0_st, .inl (G 1, 152, .inl (zA v_p0_st)))] sz)) 0 0 (va_A [(a_p0, .inr (12, [.ref a_p0_st, .ref a_p0_isKept, .int (Int32.ofInt i_p0_seats), .int (Int32.ofInt i_p0_stirs), .ref a_p0_brings, .ref a_p0_need, .ref a_p0_draft, .int (Int32.ofInt i_p0_dSeats), .int (Int32.ofInt i_p0_dStirs), .ref a_p0_dStir, .ref a_p0_dNeed, .int (Int32.ofInt i_p0_told), .int (Int32.ofInt i_p0_highest), .ref a_p0_tape, .int (Int32.ofInt i_p0_taped), .int (Int32.ofInt i_p0_pos), .int (Int32.ofInt i_p0_from), .int (Int32.ofInt i_p0_sort), .int (Int32.ofInt i_p0_value), .int (Int32.ofInt i_p0_fault), .int (Int32.ofInt i_p0_wrongAt), .ref a_p0_places, .ref a_p0_stirred, .ref a_p0_ways, .ref a_p0_waysThen, .ref a_p0_stays, .ref a_p0_fewest, .ref a_p0_bowls, .ref a_p0_has, .ref a_p0_goesOn, .ref a_p0_isThere, .ref a_p0_isThereThen, .ref a_p0_bestRow, .ref a_p0_lanes, .ref a_p0_sizes, .ref a_p0_cells, .int (Int32.ofInt i_p0_torn)])), (a_p0_st, .inl (G 1, 152, .inl (zA v_p0_st)))] sz) := by
  refine Met.ofW (cc := cX12_fill) (maxL := 4) (ret := (some .int)) (by decide) rfl ?_
  intro p e s m args below meth c s₁ B hml hv
  obtain ⟨rfl, hsz, hP, hK, hD0⟩ := hv
  have hx := B.exec
  have hb := B.bytes
  have hr := B.returns
  have hts := atoms_spec (ws := wsX12_fill) B.pre
  have hown : s.vm.findClass RX12 = some m.cls := findClass_of_methodNamed B.named
  have hlocks := B.notSynchronized
  subst hsz
  have hD := hD0.self (sz := s.heap.size)
  generalize hAe : va_A [(a_p0, .inr (12, [.ref a_p0_st, .ref a_p0_isKept, .int (Int32.ofInt i_p0_seats), .int (Int32.ofInt i_p0_stirs), .ref a_p0_brings, .ref a_p0_need, .ref a_p0_draft, .int (Int32.ofInt i_p0_dSeats), .int (Int32.ofInt i_p0_dStirs), .ref a_p0_dStir, .ref a_p0_dNeed, .int (Int32.ofInt i_p0_told), .int (Int32.ofInt i_p0_highest), .ref a_p0_tape, .int (Int32.ofInt i_p0_taped), .int (Int32.ofInt i_p0_pos), .int (Int32.ofInt i_p0_from), .int (Int32.ofInt i_p0_sort), .int (Int32.ofInt i_p0_value), .int (Int32.ofInt i_p0_fault), .int (Int32.ofInt i_p0_wrongAt), .ref a_p0_places, .ref a_p0_stirred, .ref a_p0_ways, .ref a_p0_waysThen, .ref a_p0_stays, .ref a_p0_fewest, .ref a_p0_bowls, .ref a_p0_has, .ref a_p0_goesOn, .ref a_p0_isThere, .ref a_p0_isThereThen, .ref a_p0_bestRow, .ref a_p0_lanes, .ref a_p0_sizes, .ref a_p0_cells, .int (Int32.ofInt i_p0_torn)])), (a_p0_st, .inl (G 1, 152, .inl (zA v_p0_st)))] s.heap.size = A at hD ⊢
  have hA : ∀ q : Nat, s.heap.size ≤ q → A q := fun q h => by rw [← hAe]; exact Or.inr h
  clear hAe hD0
  have hS : va_S A s.heap s.heap [] := va_S.rf
  have hl := lv_entry ([.ref a_p0, .int (Int32.ofInt x1), .int (Int32.ofInt x2)]) (n := 4) (Nat.le_of_ble_eq_true rfl)
  rw [lg_entry_eq]
  generalize (lg_sl ([.ref a_p0, .int (Int32.ofInt x1), .int (Int32.ofInt x2)]) ++ List.replicate (4 - (lg_sl ([.ref a_p0, .int (Int32.ofInt x1), .int (Int32.ofInt x2)])).length) Slot.unset).toArray = ls at hl ⊢
  have hl : lv_has ls 4 [(0, .ref a_p0), (1, .int (Int32.ofInt x1)), (2, .int (Int32.ofInt x2))] := hl
  refine W_nameQ (fun Q hQ => ?_)
  obtain ⟨H, hH⟩ : ∃ H, H = s.heap := ⟨_, rfl⟩
  replace hS : va_S A s.heap H [] := by rw [hH]; exact hS
  replace hP : va_P D vwCl [(a_p0, .inr (12, [.ref a_p0_st, .ref a_p0_isKept, .int (Int32.ofInt i_p0_seats), .int (Int32.ofInt i_p0_stirs), .ref a_p0_brings, .ref a_p0_need, .ref a_p0_draft, .int (Int32.ofInt i_p0_dSeats), .int (Int32.ofInt i_p0_dStirs), .ref a_p0_dStir, .ref a_p0_dNeed, .int (Int32.ofInt i_p0_told), .int (Int32.ofInt i_p0_highest), .ref a_p0_tape, .int (Int32.ofInt i_p0_taped), .int (Int32.ofInt i_p0_pos), .int (Int32.ofInt i_p0_from), .int (Int32.ofInt i_p0_sort), .int (Int32.ofInt i_p0_value), .int (Int32.ofInt i_p0_fault), .int (Int32.ofInt i_p0_wrongAt), .ref a_p0_places, .ref a_p0_stirred, .ref a_p0_ways, .ref a_p0_waysThen, .ref a_p0_stays, .ref a_p0_fewest, .ref a_p0_bowls, .ref a_p0_has, .ref a_p0_goesOn, .ref a_p0_isThere, .ref a_p0_isThereThen, .ref a_p0_bestRow, .ref a_p0_lanes, .ref a_p0_sizes, .ref a_p0_cells, .int (Int32.ofInt i_p0_torn)])), (a_p0_st, .inl (G 1, 152, .inl (zA v_p0_st)))] H := by rw [hH]; exact hP
  rw [← hH]
  clear hH
  unfold f_X12_fill at hf
  refine lv_aload_n hx hb dX12_fill_0 rfl (lv_at hl 0 rfl) ?_
  refine lv_iload_n hx hb dX12_fill_1 rfl (lv_at hl 1 rfl) ?_
  have hq := bd1_s hf
  clear hf
  obtain ⟨z1, hcall, hf⟩ := hq
  refine gnI (va_runV (As := [.int (Int32.ofInt x1)]) (rest := []) ⟨hx, hb, hml, hown, hts⟩ (c_X12_isSeat (l := l) (D := D) (G := G) (sz := H.size) (a_p0 := a_p0) (a_p0_st := a_p0_st) (a_p0_isKept := a_p0_isKept) (a_p0_brings := a_p0_brings) (a_p0_need := a_p0_need) (a_p0_draft := a_p0_draft) (a_p0_dStir := a_p0_dStir) (a_p0_dNeed := a_p0_dNeed) (a_p0_tape := a_p0_tape) (a_p0_places := a_p0_places) (a_p0_stirred := a_p0_stirred) (a_p0_ways := a_p0_ways) (a_p0_waysThen := a_p0_waysThen) (a_p0_stays := a_p0_stays) (a_p0_fewest := a_p0_fewest) (a_p0_bowls := a_p0_bowls) (a_p0_has := a_p0_has) (a_p0_goesOn := a_p0_goesOn) (a_p0_isThere := a_p0_isThere) (a_p0_isThereThen := a_p0_isThereThen) (a_p0_bestRow := a_p0_bestRow) (a_p0_lanes := a_p0_lanes) (a_p0_sizes := a_p0_sizes) (a_p0_cells := a_p0_cells) (i_p0_seats := i_p0_seats) (i_p0_stirs := i_p0_stirs) (i_p0_dSeats := i_p0_dSeats) (i_p0_dStirs := i_p0_dStirs) (i_p0_told := i_p0_told) (i_p0_highest := i_p0_highest) (i_p0_taped := i_p0_taped) (i_p0_pos := i_p0_pos) (i_p0_from := i_p0_from) (i_p0_sort := i_p0_sort) (i_p0_value := i_p0_value) (i_p0_fault := i_p0_fault) (i_p0_wrongAt := i_p0_wrongAt) (i_p0_torn := i_p0_torn) (x1 := x1) (r := z1) (hf := hcall)) (cwV 1 hts gX12_fill_X12_isSeat rfl rfl rfl hdV_yX12_isSeat_RX12 ⟨Nat.le_of_ble_eq_true rfl, Nat.le_of_ble_eq_true rfl⟩) (preG_V (ci := 12) (q := (RX12, TX12, 37)) (hP.sub [0] rfl) (hD.sub [0] rfl rfl) hK rfl rfl) rfl rfl hl.1 rfl (lv_room (Nat.le_of_ble_eq_true rfl)) dX12_fill_2 ⟨Nat.le_of_ble_eq_true rfl, Nat.le_of_ble_eq_true rfl⟩) hP hD hS hA [0] rfl (fun H locs hP hD hS => ?_)
  clear hcall
  have hr1 := ck_c hf
  replace hf := ck_r hf
  refine lv_if_eq (tgt := 20) hx hb dX12_fill_5 (by decide) (fun cc => ?_) (fun cc => ?_)
  ·
    replace hf := ite_t ((z_eq0 hr1).mp cc) hf
    clear cc
    refine lv_iconst (v := Int32.ofInt (-1 : Int)) hx hb dX12_fill_20 (by decide) ?_
    obtain ⟨rfl, rfl⟩ := ou2 hf
    rw [hQ]
    exact W.iret hx hb hr (fun t ht hW => ⟨⟨_, (), rfl, rfl, by rw [ht]; exact hP, va_K.moved hW.alike hK, hD⟩, hS.F ht⟩) hS.2.2 dX12_fill_21
  ·
    replace hf := ite_f (fun h9 => cc ((z_eq0 hr1).mpr h9)) hf
    clear cc
    refine lv_iload_n hx hb dX12_fill_8 rfl (lv_at hl 2 rfl) ?_
    have hr2 := ck_c hf
    replace hf := ck_r hf
    refine lv_i2l (v := Int64.ofInt x2) hx hb dX12_fill_9 (z_i2l hr2) ?_
    refine lv_lconst (v := Int64.ofInt (0 : Int)) hx hb dX12_fill_10 (by decide) ?_
    refine lv_ldc2 (v := (9 : Int64)) hx hb hown (hts _ mwX12_fill_0) dX12_fill_11 (z_cl (show Int64.ofInt (9 : Int) = _ from by decide) ?_)
    have hq := bd1_s hf
    clear hf
    obtain ⟨z4, hcall, hf⟩ := hq
    refine gnI (va_runS (As := [.long (Int64.ofInt x2), .long (Int64.ofInt (0 : Int)), .long (Int64.ofInt (9 : Int))]) (rest := []) ⟨hx, hb, hml, hown, hts⟩ (c_X12_in (l := l) (D := D) (G := G) (sz := H.size) (x0 := x2) (x2 := (0 : Int)) (x4 := (9 : Int)) (r := z4) (hf := hcall)) (va_cwS 3 hts gX12_fill_X12_in rfl rfl rfl (by decide +kernel) ⟨Nat.le_of_ble_eq_true rfl, Nat.le_of_ble_eq_true rfl⟩) (preG_S (hP.sub [] rfl) (hD.sub [] rfl rfl) hK) rfl rfl hl.1 rfl (lv_room (Nat.le_of_ble_eq_true rfl)) dX12_fill_14 ⟨Nat.le_of_ble_eq_true rfl, Nat.le_of_ble_eq_true rfl⟩) hP hD hS hA [] rfl (fun H locs hP hD hS => ?_)
    clear hcall
    have hr4 := ck_c hf
    replace hf := ck_r hf
    refine lv_if_ne (tgt := 22) hx hb dX12_fill_17 (by decide) (fun cc => ?_) (fun cc => ?_)
    ·
      replace hf := ite_f (fun h9 => cc ((z_eq0 hr4).mpr h9)) hf
      clear cc
      refine lv_aload_n hx hb dX12_fill_22 rfl (lv_at hl 0 rfl) ?_
      refine va_get (D := D) (ci := 12) (v := .ref a_p0_st) (C := RX12) (T := TX12) (N := 37) hx hb hts inX12_fill_X12 hown hK hP 0 rfl rfl 0 (by decide) (hts _ mwX12_fill_2) (fun _ h9 => h9) rfl dX12_fill_23 ?_
      refine lv_iload_n hx hb dX12_fill_26 rfl (lv_at hl 1 rfl) ?_
      have hc := ck_c hf
      replace hf := ck_r hf
      refine va_iald hx hb hK hP 1 1 rfl rfl (z_ix_in hc) dX12_fill_27 (z_ci (z_ald v_p0_st hc) ?_)
      clear hc
      refine z_topi (fun z6 ez => ?_)
      replace hf := bnd_s hf ez
      clear ez
      refine lv_istore_n (lv' := [(3, .int (Int32.ofInt z6)), (0, .ref a_p0), (1, .int (Int32.ofInt x1)), (2, .int (Int32.ofInt x2))]) hx hb dX12_fill_28 rfl hl (by decide) rfl (fun ls hl => ?_)
      refine lv_aload_n hx hb dX12_fill_29 rfl (lv_at hl 1 rfl) ?_
      refine va_get (D := D) (ci := 12) (v := .ref a_p0_st) (C := RX12) (T := TX12) (N := 37) hx hb hts inX12_fill_X12 hown hK hP 0 rfl rfl 0 (by decide) (hts _ mwX12_fill_2) (fun _ h9 => h9) rfl dX12_fill_30 ?_
      refine lv_iload_n hx hb dX12_fill_33 rfl (lv_at hl 2 rfl) ?_
      refine lv_iload_n hx hb dX12_fill_34 rfl (lv_at hl 3 rfl) ?_
      have hc := ck_c hf
      replace hf := ck_r hf
      refine zs_iast (wf := fun w7 => [(a_p0, .inr (12, [.ref a_p0_st, .ref a_p0_isKept, .int (Int32.ofInt i_p0_seats), .int (Int32.ofInt i_p0_stirs), .ref a_p0_brings, .ref a_p0_need, .ref a_p0_draft, .int (Int32.ofInt i_p0_dSeats), .int (Int32.ofInt i_p0_dStirs), .ref a_p0_dStir, .ref a_p0_dNeed, .int (Int32.ofInt i_p0_told), .int (Int32.ofInt i_p0_highest), .ref a_p0_tape, .int (Int32.ofInt i_p0_taped), .int (Int32.ofInt i_p0_pos), .int (Int32.ofInt i_p0_from), .int (Int32.ofInt i_p0_sort), .int (Int32.ofInt i_p0_value), .int (Int32.ofInt i_p0_fault), .int (Int32.ofInt i_p0_wrongAt), .ref a_p0_places, .ref a_p0_stirred, .ref a_p0_ways, .ref a_p0_waysThen, .ref a_p0_stays, .ref a_p0_fewest, .ref a_p0_bowls, .ref a_p0_has, .ref a_p0_goesOn, .ref a_p0_isThere, .ref a_p0_isThereThen, .ref a_p0_bestRow, .ref a_p0_lanes, .ref a_p0_sizes, .ref a_p0_cells, .int (Int32.ofInt i_p0_torn)])), (a_p0_st, .inl (G 1, 152, .inl (zA w7)))]) hx hb hK hP hD hS 1 1 rfl rfl hc dX12_fill_35 (fun _ => rfl) (fun w7 ez H locs hP hD hS => ?_)
      replace hf := bnd_s hf ez
      clear ez hc
      refine lv_iload_n hx hb dX12_fill_36 rfl (lv_at hl 0 rfl) ?_
      obtain ⟨rfl, rfl⟩ := ou2 hf
      rw [hQ]
      exact W.iret hx hb hr (fun t ht hW => ⟨⟨_, (), rfl, rfl, by rw [ht]; exact hP, va_K.moved hW.alike hK, hD⟩, hS.F ht⟩) hS.2.2 dX12_fill_37
    ·
      replace hf := ite_t ((z_eq0 hr4).mp cc) hf
      clear cc
      refine lv_iconst (v := Int32.ofInt (-1 : Int)) hx hb dX12_fill_20 (by decide) ?_
      obtain ⟨rfl, rfl⟩ := ou2 hf
      rw [hQ]
      exact W.iret hx hb hr (fun t ht hW => ⟨⟨_, (), rfl, rfl, by rw [ht]; exact hP, va_K.moved hW.alike hK, hD⟩, hS.F ht⟩) hS.2.2 dX12_fill_21

noncomputable def B_X12_findPlaces_12 (i_p0_seats : Int) (x1 : Int) (v_p0_st : (Int → Int)) (again12 : Int → Int → Int → (Int → Int) → Option ((Int → Int))) (z4 : Int) (z5 : Int) (z6 : Int) (w7 : (Int → Int)) : Option ((Int → Int)) := (ck (z_r32 z4) (ck (z_r32 i_p0_seats) (if i_p0_seats ≤ z4 then (some w7) else (ck (z_dv (x1 + z4) i_p0_seats) (bnd ((x1 + z4) % i_p0_seats) (fun (z11 : Int) => (ck (z_r32 z11) (ck (z_r32 x1) (jn (fun (z14 : Int) => (bnd z14 (fun (z16 : Int) => (ck (z_r32 z16) (jn (fun (z18 : Int) (z19 : Int) => (ck (z_ix z18 7) (bnd (z_up w7 z18 z19) (fun (w21 : (Int → Int)) => (bd1 (f_X12_flag z16) (fun (z22 : Int) => (bnd (z5 - z22) (fun (z23 : Int) => (if z16 = (0 : Int) then (bd1 (f_X12_flag (1 : Int)) (fun (z27 : Int) => (bnd (z6 + z27) (fun (z28 : Int) => (bnd (z4 + (1 : Int)) (fun (z29 : Int) => (again12 z29 z23 z28 w21))))))) else (bd1 (f_X12_flag (0 : Int)) (fun (z24 : Int) => (bnd (z6 + z24) (fun (z25 : Int) => (bnd (z4 + (1 : Int)) (fun (z26 : Int) => (again12 z26 z23 z25 w21)))))))))))))))) (fun (J20 : Int → Int → Option ((Int → Int))) => (if z16 = (0 : Int) then (J20 z11 z6) else (J20 z11 z5)))))))) (fun (J15 : Int → Option ((Int → Int))) => (jn (J15 (1 : Int)) (fun (J30 : Option ((Int → Int))) => (if z11 = x1 then (J30) else (ck (z_ix ((9 : Int) + x1) 152) (ck (z_r32 (z_and (z_shr (v_p0_st ((9 : Int) + x1)) z11) (1 : Int))) (if (z_and (z_shr (v_p0_st ((9 : Int) + x1)) z11) (1 : Int)) = (1 : Int) then (J30) else (J15 (0 : Int))))))))))))))))))
noncomputable def f_X12_findPlaces (i_p0_seats : Int) (v_p0_st : (Int → Int)) (v_p0_places : (Int → Int)) (x1 : Int) : Option ((Int → Int)) := (bnd (0 : Int) (fun (z1 : Int) => (bnd (i_p0_seats - (1 : Int)) (fun (z2 : Int) => (bnd (0 : Int) (fun (z3 : Int) => (lq4 (B_X12_findPlaces_12 i_p0_seats x1 v_p0_st) 1000 z3 z2 z1 v_p0_places)))))))
abbrev rm_X12_findPlaces : Room := { frames := 1, cells := 0, slots := 0, locals := 20 }
theorem inX12_findPlaces_X12 : ∀ w ∈ wsX120, w ∈ wsX12_findPlaces := by first | exact fun w h => List.mem_cons_of_mem _ (List.mem_append_right _ h) | decide +kernel
theorem mwX12_findPlaces_1 : Cond.fieldLink RX12 100 "LadleKingsModel" "seats" "I" ∈ wsX12_findPlaces := by first | exact List.mem_of_getElem? (i := 1) rfl | decide +kernel
theorem mwX12_findPlaces_2 : Cond.fieldLink RX12 35 "LadleKingsModel" "places" "[I" ∈ wsX12_findPlaces := by first | exact List.mem_of_getElem? (i := 3) rfl | decide +kernel
theorem mwX12_findPlaces_3 : Cond.fieldLink RX12 7 "LadleKingsModel" "st" "[I" ∈ wsX12_findPlaces := by first | exact List.mem_of_getElem? (i := 2) rfl | decide +kernel
set_option maxHeartbeats 8000000 in
set_option maxRecDepth 100000 in
theorem c_X12_findPlaces (l : Launch) (D : va_G) (G : Nat → ClassId) (sz : Nat) (a_p0 : Nat) (a_p0_st : Nat) (a_p0_isKept : Nat) (a_p0_brings : Nat) (a_p0_need : Nat) (a_p0_draft : Nat) (a_p0_dStir : Nat) (a_p0_dNeed : Nat) (a_p0_tape : Nat) (a_p0_places : Nat) (a_p0_stirred : Nat) (a_p0_ways : Nat) (a_p0_waysThen : Nat) (a_p0_stays : Nat) (a_p0_fewest : Nat) (a_p0_bowls : Nat) (a_p0_has : Nat) (a_p0_goesOn : Nat) (a_p0_isThere : Nat) (a_p0_isThereThen : Nat) (a_p0_bestRow : Nat) (a_p0_lanes : Nat) (a_p0_sizes : Nat) (a_p0_cells : Nat) (i_p0_seats : Int) (i_p0_stirs : Int) (i_p0_dSeats : Int) (i_p0_dStirs : Int) (i_p0_told : Int) (i_p0_highest : Int) (i_p0_taped : Int) (i_p0_pos : Int) (i_p0_from : Int) (i_p0_sort : Int) (i_p0_value : Int) (i_p0_fault : Int) (i_p0_wrongAt : Int) (i_p0_torn : Int) (v_p0_st : (Int → Int)) (v_p0_places : (Int → Int)) (x1 : Int) (o_v_p0_places : (Int → Int)) (hf : f_X12_findPlaces i_p0_seats v_p0_st v_p0_places x1 = some o_v_p0_places) : Met l yX12_findPlaces wsX12_findPlaces rm_X12_findPlaces (pcG D G [.ref a_p0, .int (Int32.ofInt x1)] sz [(a_p0, .inr (12, [.ref a_p0_st, .ref a_p0_isKept, .int (Int32.ofInt i_p0_seats), .int (Int32.ofInt i_p0_stirs), .ref a_p0_brings, .ref a_p0_need, .ref a_p0_draft, .int (Int32.ofInt i_p0_dSeats), .int (Int32.ofInt i_p0_dStirs), .ref a_p0_dStir, .ref a_p0_dNeed, .int (Int32.ofInt i_p0_told), .int (Int32.ofInt i_p0_highest), .ref a_p0_tape, .int (Int32.ofInt i_p0_taped), .int (Int32.ofInt i_p0_pos), .int (Int32.ofInt i_p0_from), .int (Int32.ofInt i_p0_sort), .int (Int32.ofInt i_p0_value), .int (Int32.ofInt i_p0_fault), .int (Int32.ofInt i_p0_wrongAt), .ref a_p0_places, .ref a_p0_stirred, .ref a_p0_ways, .ref a_p0_waysThen, .ref a_p0_stays, .ref a_p0_fewest, .ref a_p0_bowls, .ref a_p0_has, .ref a_p0_goesOn, .ref a_p0_isThere, .ref a_p0_isThereThen, .ref a_p0_bestRow, .ref a_p0_lanes, .ref a_p0_sizes, .ref a_p0_cells, .int (Int32.ofInt i_p0_torn)])), (a_p0_st, .inl (G 1, 152, .inl (zA v_p0_st))), (a_p0_places, .inl (G 1, 7, .inl (zA v_p0_places)))]) (qcV D G [(a_p0, .inr (12, [.ref a_p0_st, .ref a_p0_isKept, .int (Int32.ofInt i_p0_seats), .int (Int32.ofInt i_p0_stirs), .ref a_p0_brings, .ref a_p0_need, .ref a_p0_draft, .int (Int32.ofInt i_p0_dSeats), .int (Int32.ofInt i_p0_dStirs), .ref a_p0_dStir, .ref a_p0_dNeed, .int (Int32.ofInt i_p0_told), .int (Int32.ofInt i_p0_highest), .ref a_p0_tape, .int (Int32.ofInt i_p0_taped), .int (Int32.ofInt i_p0_pos), .int (Int32.ofInt i_p0_from), .int (Int32.ofInt i_p0_sort), .int (Int32.ofInt i_p0_value), .int (Int32.ofInt i_p0_fault), .int (Int32.ofInt i_p0_wrongAt), .ref a_p0_places, .ref a_p0_stirred, .ref a_p0_ways, .ref a_p0_waysThen, .ref a_p0_stays, .ref a_p0_fewest, .ref a_p0_bowls, .ref a_p0_has, .ref a_p0_goesOn, .ref a_p0_isThere, .ref a_p0_isThereThen, .ref a_p0_bestRow, .ref a_p0_lanes, .ref a_p0_sizes, .ref a_p0_cells, .int (Int32.ofInt i_p0_torn)])), (a_p0_st, .inl (G 1, 152, .inl (zA v_p0_st))), (a_p0_places, .inl (G 1, 7, .inl (zA o_v_p0_places)))] (va_A [(a_p0, .inr (12, [.ref a_p0_st, .ref a_p0_isKept, .int (Int32.ofInt i_p0_seats), .int (Int32.ofInt i_p0_stirs), .ref a_p0_brings, .ref a_p0_need, .ref a_p0_draft, .int (Int32.ofInt i_p0_dSeats), .int (Int32.ofInt i_p0_dStirs), .ref a_p0_dStir, .ref a_p0_dNeed, .int (Int32.ofInt i_p0_told), .int (Int32.ofInt i_p0_highest), .ref a_p0_tape, .int (Int32.ofInt i_p0_taped), .int (Int32.ofInt i_p0_pos), .int (Int32.ofInt i_p0_from), .int (Int32.ofInt i_p0_sort), .int (Int32.ofInt i_p0_value), .int (Int32.ofInt i_p0_fault), .int (Int32.ofInt i_p0_wrongAt), .ref a_p0_places, .ref a_p0_stirred, .ref a_p0_ways, .ref a_p0_waysThen, .ref a_p0_stays, .ref a_p0_fewest, .ref a_p0_bowls, .ref a_p0_has, .ref a_p0_goesOn, .ref a_p0_isThere, .ref a_p0_isThereThen, .ref a_p0_bestRow, .ref a_p0_lanes, .ref a_p0_sizes, .ref a_p0_cells, .int (Int32.ofInt i_p0_torn)])), (a_p0_st, .inl (G 1, 152, .inl (zA v_p0_st))), (a_p0_places, .inl (G 1, 7, .inl (zA v_p0_places)))] sz)) 0 0 (va_A [(a_p0, .inr (12, [.ref a_p0_st, .ref a_p0_isKept, .int (Int32.ofInt i_p0_seats), .int (Int32.ofInt i_p0_stirs), .ref a_p0_brings, .ref a_p0_need, .ref a_p0_draft, .int (Int32.ofInt i_p0_dSeats), .int (Int32.ofInt i_p0_dStirs), .ref a_p0_dStir, .ref a_p0_dNeed, .int (Int32.ofInt i_p0_told), .int (Int32.ofInt i_p0_highest), .ref a_p0_tape, .int (Int32.ofInt i_p0_taped), .int (Int32.ofInt i_p0_pos), .int (Int32.ofInt i_p0_from), .int (Int32.ofInt i_p0_sort), .int (Int32.ofInt i_p0_value), .int (Int32.ofInt i_p0_fault), .int (Int32.ofInt i_p0_wrongAt), .ref a_p0_places, .ref a_p0_stirred, .ref a_p0_ways, .ref a_p0_waysThen, .ref a_p0_stays, .ref a_p0_fewest, .ref a_p0_bowls, .ref a_p0_has, .ref a_p0_goesOn, .ref a_p0_isThere, .ref a_p0_isThereThen, .ref a_p0_bestRow, .ref a_p0_lanes, .ref a_p0_sizes, .ref a_p0_cells, .int (Int32.ofInt i_p0_torn)])), (a_p0_st, .inl (G 1, 152, .inl (zA v_p0_st))), (a_p0_places, .inl (G 1, 7, .inl (zA v_p0_places)))] sz) := by
  refine Met.ofW (cc := cX12_findPlaces) (maxL := 7) (ret := none) (by decide) rfl ?_
  intro p e s m args below meth c s₁ B hml hv
  obtain ⟨rfl, hsz, hP, hK, hD0⟩ := hv
  have hx := B.exec
  have hb := B.bytes
  have hr := B.returns
  have hts := atoms_spec (ws := wsX12_findPlaces) B.pre
  have hown : s.vm.findClass RX12 = some m.cls := findClass_of_methodNamed B.named
  have hlocks := B.notSynchronized
  subst hsz
  have hD := hD0.self (sz := s.heap.size)
  generalize hAe : va_A [(a_p0, .inr (12, [.ref a_p0_st, .ref a_p0_isKept, .int (Int32.ofInt i_p0_seats), .int (Int32.ofInt i_p0_stirs), .ref a_p0_brings, .ref a_p0_need, .ref a_p0_draft, .int (Int32.ofInt i_p0_dSeats), .int (Int32.ofInt i_p0_dStirs), .ref a_p0_dStir, .ref a_p0_dNeed, .int (Int32.ofInt i_p0_told), .int (Int32.ofInt i_p0_highest), .ref a_p0_tape, .int (Int32.ofInt i_p0_taped), .int (Int32.ofInt i_p0_pos), .int (Int32.ofInt i_p0_from), .int (Int32.ofInt i_p0_sort), .int (Int32.ofInt i_p0_value), .int (Int32.ofInt i_p0_fault), .int (Int32.ofInt i_p0_wrongAt), .ref a_p0_places, .ref a_p0_stirred, .ref a_p0_ways, .ref a_p0_waysThen, .ref a_p0_stays, .ref a_p0_fewest, .ref a_p0_bowls, .ref a_p0_has, .ref a_p0_goesOn, .ref a_p0_isThere, .ref a_p0_isThereThen, .ref a_p0_bestRow, .ref a_p0_lanes, .ref a_p0_sizes, .ref a_p0_cells, .int (Int32.ofInt i_p0_torn)])), (a_p0_st, .inl (G 1, 152, .inl (zA v_p0_st))), (a_p0_places, .inl (G 1, 7, .inl (zA v_p0_places)))] s.heap.size = A at hD ⊢
  have hA : ∀ q : Nat, s.heap.size ≤ q → A q := fun q h => by rw [← hAe]; exact Or.inr h
  clear hAe hD0
  have hS : va_S A s.heap s.heap [] := va_S.rf
  have hl := lv_entry ([.ref a_p0, .int (Int32.ofInt x1)]) (n := 7) (Nat.le_of_ble_eq_true rfl)
  rw [lg_entry_eq]
  generalize (lg_sl ([.ref a_p0, .int (Int32.ofInt x1)]) ++ List.replicate (7 - (lg_sl ([.ref a_p0, .int (Int32.ofInt x1)])).length) Slot.unset).toArray = ls at hl ⊢
  have hl : lv_has ls 7 [(0, .ref a_p0), (1, .int (Int32.ofInt x1))] := hl
  refine W_nameQ (fun Q hQ => ?_)
  obtain ⟨H, hH⟩ : ∃ H, H = s.heap := ⟨_, rfl⟩
  replace hS : va_S A s.heap H [] := by rw [hH]; exact hS
  replace hP : va_P D vwCl [(a_p0, .inr (12, [.ref a_p0_st, .ref a_p0_isKept, .int (Int32.ofInt i_p0_seats), .int (Int32.ofInt i_p0_stirs), .ref a_p0_brings, .ref a_p0_need, .ref a_p0_draft, .int (Int32.ofInt i_p0_dSeats), .int (Int32.ofInt i_p0_dStirs), .ref a_p0_dStir, .ref a_p0_dNeed, .int (Int32.ofInt i_p0_told), .int (Int32.ofInt i_p0_highest), .ref a_p0_tape, .int (Int32.ofInt i_p0_taped), .int (Int32.ofInt i_p0_pos), .int (Int32.ofInt i_p0_from), .int (Int32.ofInt i_p0_sort), .int (Int32.ofInt i_p0_value), .int (Int32.ofInt i_p0_fault), .int (Int32.ofInt i_p0_wrongAt), .ref a_p0_places, .ref a_p0_stirred, .ref a_p0_ways, .ref a_p0_waysThen, .ref a_p0_stays, .ref a_p0_fewest, .ref a_p0_bowls, .ref a_p0_has, .ref a_p0_goesOn, .ref a_p0_isThere, .ref a_p0_isThereThen, .ref a_p0_bestRow, .ref a_p0_lanes, .ref a_p0_sizes, .ref a_p0_cells, .int (Int32.ofInt i_p0_torn)])), (a_p0_st, .inl (G 1, 152, .inl (zA v_p0_st))), (a_p0_places, .inl (G 1, 7, .inl (zA v_p0_places)))] H := by rw [hH]; exact hP
  rw [← hH]
  clear hH
  unfold f_X12_findPlaces at hf
  refine lv_iconst (v := Int32.ofInt (0 : Int)) hx hb dX12_findPlaces_0 (by decide) ?_
  refine z_topi (fun z1 ez => ?_)
  replace hf := bnd_s hf ez
  clear ez
  refine lv_istore_n (lv' := [(2, .int (Int32.ofInt z1)), (0, .ref a_p0), (1, .int (Int32.ofInt x1))]) hx hb dX12_findPlaces_1 rfl hl (by decide) rfl (fun ls hl => ?_)
  refine lv_aload_n hx hb dX12_findPlaces_2 rfl (lv_at hl 1 rfl) ?_
  refine va_get (D := D) (ci := 12) (v := .int (Int32.ofInt i_p0_seats)) (C := RX12) (T := TX12) (N := 37) hx hb hts inX12_findPlaces_X12 hown hK hP 0 rfl rfl 2 (by decide) (hts _ mwX12_findPlaces_1) (fun _ h9 => h9) rfl dX12_findPlaces_3 ?_
  refine lv_iconst (v := Int32.ofInt (1 : Int)) hx hb dX12_findPlaces_6 (by decide) ?_
  refine lv_isub hx hb dX12_findPlaces_7 (z_ci (Int32.ofInt_sub i_p0_seats (1 : Int)) ?_)
  refine z_topi (fun z2 ez => ?_)
  replace hf := bnd_s hf ez
  clear ez
  refine lv_istore_n (lv' := [(3, .int (Int32.ofInt z2)), (2, .int (Int32.ofInt z1)), (0, .ref a_p0), (1, .int (Int32.ofInt x1))]) hx hb dX12_findPlaces_8 rfl hl (by decide) rfl (fun ls hl => ?_)
  refine lv_iconst (v := Int32.ofInt (0 : Int)) hx hb dX12_findPlaces_9 (by decide) ?_
  refine z_topi (fun z3 ez => ?_)
  replace hf := bnd_s hf ez
  clear ez
  refine lv_istore (lv' := [(4, .int (Int32.ofInt z3)), (3, .int (Int32.ofInt z2)), (2, .int (Int32.ofInt z1)), (0, .ref a_p0), (1, .int (Int32.ofInt x1))]) hx hb dX12_findPlaces_10 hl (by decide) rfl (fun ls hl => ?_)
  have hq := lq4_i hf
  clear hf
  obtain ⟨B8, eB8, NB8, hf⟩ := hq
  have hB8 : ∀ (n : Nat) (z4 : Int) (z5 : Int) (z6 : Int) (w7 : (Int → Int)) (ls : Array Slot) (H : Heap) (locs : List Loc), lv_has ls 7 [(4, .int (Int32.ofInt z4)), (3, .int (Int32.ofInt z5)), (2, .int (Int32.ofInt z6)), (0, .ref a_p0), (1, .int (Int32.ofInt x1))] → va_P D vwCl [(a_p0, .inr (12, [.ref a_p0_st, .ref a_p0_isKept, .int (Int32.ofInt i_p0_seats), .int (Int32.ofInt i_p0_stirs), .ref a_p0_brings, .ref a_p0_need, .ref a_p0_draft, .int (Int32.ofInt i_p0_dSeats), .int (Int32.ofInt i_p0_dStirs), .ref a_p0_dStir, .ref a_p0_dNeed, .int (Int32.ofInt i_p0_told), .int (Int32.ofInt i_p0_highest), .ref a_p0_tape, .int (Int32.ofInt i_p0_taped), .int (Int32.ofInt i_p0_pos), .int (Int32.ofInt i_p0_from), .int (Int32.ofInt i_p0_sort), .int (Int32.ofInt i_p0_value), .int (Int32.ofInt i_p0_fault), .int (Int32.ofInt i_p0_wrongAt), .ref a_p0_places, .ref a_p0_stirred, .ref a_p0_ways, .ref a_p0_waysThen, .ref a_p0_stays, .ref a_p0_fewest, .ref a_p0_bowls, .ref a_p0_has, .ref a_p0_goesOn, .ref a_p0_isThere, .ref a_p0_isThereThen, .ref a_p0_bestRow, .ref a_p0_lanes, .ref a_p0_sizes, .ref a_p0_cells, .int (Int32.ofInt i_p0_torn)])), (a_p0_st, .inl (G 1, 152, .inl (zA v_p0_st))), (a_p0_places, .inl (G 1, 7, .inl (zA w7)))] H → va_D A [(a_p0, .inr (12, [.ref a_p0_st, .ref a_p0_isKept, .int (Int32.ofInt i_p0_seats), .int (Int32.ofInt i_p0_stirs), .ref a_p0_brings, .ref a_p0_need, .ref a_p0_draft, .int (Int32.ofInt i_p0_dSeats), .int (Int32.ofInt i_p0_dStirs), .ref a_p0_dStir, .ref a_p0_dNeed, .int (Int32.ofInt i_p0_told), .int (Int32.ofInt i_p0_highest), .ref a_p0_tape, .int (Int32.ofInt i_p0_taped), .int (Int32.ofInt i_p0_pos), .int (Int32.ofInt i_p0_from), .int (Int32.ofInt i_p0_sort), .int (Int32.ofInt i_p0_value), .int (Int32.ofInt i_p0_fault), .int (Int32.ofInt i_p0_wrongAt), .ref a_p0_places, .ref a_p0_stirred, .ref a_p0_ways, .ref a_p0_waysThen, .ref a_p0_stays, .ref a_p0_fewest, .ref a_p0_bowls, .ref a_p0_has, .ref a_p0_goesOn, .ref a_p0_isThere, .ref a_p0_isThereThen, .ref a_p0_bestRow, .ref a_p0_lanes, .ref a_p0_sizes, .ref a_p0_cells, .int (Int32.ofInt i_p0_torn)])), (a_p0_st, .inl (G 1, 152, .inl (zA v_p0_st))), (a_p0_places, .inl (G 1, 7, .inl (zA w7)))] → va_S A s.heap H locs → lq4 B8 n z4 z5 z6 w7 = some o_v_p0_places → W p l e rm_X12_findPlaces s m ([.ref a_p0, .int (Int32.ofInt x1)] : List Value).toArray below meth c H locs 0 0 Q (F0 m 12 ls []) := by
    clear hf hl hP hD hS
    intro n
    induction n with
    | zero =>
      intro z4 z5 z6 w7 ls H locs hl hP hD hS hf
      exact (lq4_0 hf).elim
    | succ n ih12 =>
      intro z4 z5 z6 w7 ls H locs hl hP hD hS hf
      replace hf := lq4_s eB8 hf
      unfold B_X12_findPlaces_12 at hf
      refine lv_iload hx hb dX12_findPlaces_12 (lv_at hl 0 rfl) ?_
      refine lv_aload_n hx hb dX12_findPlaces_14 rfl (lv_at hl 3 rfl) ?_
      refine va_get (D := D) (ci := 12) (v := .int (Int32.ofInt i_p0_seats)) (C := RX12) (T := TX12) (N := 37) hx hb hts inX12_findPlaces_X12 hown hK hP 0 rfl rfl 2 (by decide) (hts _ mwX12_findPlaces_1) (fun _ h9 => h9) rfl dX12_findPlaces_15 ?_
      have hr8 := ck_c hf
      replace hf := ck_r hf
      have hr9 := ck_c hf
      replace hf := ck_r hf
      refine lv_icmp_ge (tgt := 110) hx hb dX12_findPlaces_18 (by decide) (fun cc => ?_) (fun cc => ?_)
      ·
        replace hf := ite_t ((z_le hr9 hr8).mp cc) hf
        clear cc
        obtain rfl := ou1 hf
        rw [hQ]
        exact W.vret hx hb hr (fun t ht hW => ⟨⟨(), rfl, trivial, by rw [ht]; exact hP, va_K.moved hW.alike hK, hD⟩, hS.F ht⟩) hS.2.2 dX12_findPlaces_110
      ·
        replace hf := ite_f (fun h9 => cc ((z_le hr9 hr8).mpr h9)) hf
        clear cc
        refine lv_iload_n hx hb dX12_findPlaces_21 rfl (lv_at hl 4 rfl) ?_
        refine lv_iload hx hb dX12_findPlaces_22 (lv_at hl 0 rfl) ?_
        refine lv_iadd hx hb dX12_findPlaces_24 (z_ci (Int32.ofInt_add x1 z4) ?_)
        refine lv_aload_n hx hb dX12_findPlaces_25 rfl (lv_at hl 3 rfl) ?_
        refine va_get (D := D) (ci := 12) (v := .int (Int32.ofInt i_p0_seats)) (C := RX12) (T := TX12) (N := 37) hx hb hts inX12_findPlaces_X12 hown hK hP 0 rfl rfl 2 (by decide) (hts _ mwX12_findPlaces_1) (fun _ h9 => h9) rfl dX12_findPlaces_26 ?_
        have hc := ck_c hf
        replace hf := ck_r hf
        refine lv_irem hx hb dX12_findPlaces_29 (z_nz hc) (z_ci (z_rem hc) ?_)
        clear hc
        refine z_topi (fun z11 ez => ?_)
        replace hf := bnd_s hf ez
        clear ez
        refine lv_istore (lv' := [(5, .int (Int32.ofInt z11)), (4, .int (Int32.ofInt z4)), (3, .int (Int32.ofInt z5)), (2, .int (Int32.ofInt z6)), (0, .ref a_p0), (1, .int (Int32.ofInt x1))]) hx hb dX12_findPlaces_30 hl (by decide) rfl (fun ls hl => ?_)
        refine lv_iload hx hb dX12_findPlaces_32 (lv_at hl 0 rfl) ?_
        refine lv_iload_n hx hb dX12_findPlaces_34 rfl (lv_at hl 5 rfl) ?_
        have hr11 := ck_c hf
        replace hf := ck_r hf
        have hr12 := ck_c hf
        replace hf := ck_r hf
        have hq := jn_i hf
        clear hf
        obtain ⟨J15, eJ15, hf⟩ := hq
        have hJ15 : ∀ (z14 : Int) (ls : Array Slot) (H : Heap) (locs : List Loc), lv_has ls 7 [(5, .int (Int32.ofInt z11)), (4, .int (Int32.ofInt z4)), (3, .int (Int32.ofInt z5)), (2, .int (Int32.ofInt z6)), (0, .ref a_p0), (1, .int (Int32.ofInt x1))] → va_P D vwCl [(a_p0, .inr (12, [.ref a_p0_st, .ref a_p0_isKept, .int (Int32.ofInt i_p0_seats), .int (Int32.ofInt i_p0_stirs), .ref a_p0_brings, .ref a_p0_need, .ref a_p0_draft, .int (Int32.ofInt i_p0_dSeats), .int (Int32.ofInt i_p0_dStirs), .ref a_p0_dStir, .ref a_p0_dNeed, .int (Int32.ofInt i_p0_told), .int (Int32.ofInt i_p0_highest), .ref a_p0_tape, .int (Int32.ofInt i_p0_taped), .int (Int32.ofInt i_p0_pos), .int (Int32.ofInt i_p0_from), .int (Int32.ofInt i_p0_sort), .int (Int32.ofInt i_p0_value), .int (Int32.ofInt i_p0_fault), .int (Int32.ofInt i_p0_wrongAt), .ref a_p0_places, .ref a_p0_stirred, .ref a_p0_ways, .ref a_p0_waysThen, .ref a_p0_stays, .ref a_p0_fewest, .ref a_p0_bowls, .ref a_p0_has, .ref a_p0_goesOn, .ref a_p0_isThere, .ref a_p0_isThereThen, .ref a_p0_bestRow, .ref a_p0_lanes, .ref a_p0_sizes, .ref a_p0_cells, .int (Int32.ofInt i_p0_torn)])), (a_p0_st, .inl (G 1, 152, .inl (zA v_p0_st))), (a_p0_places, .inl (G 1, 7, .inl (zA w7)))] H → va_D A [(a_p0, .inr (12, [.ref a_p0_st, .ref a_p0_isKept, .int (Int32.ofInt i_p0_seats), .int (Int32.ofInt i_p0_stirs), .ref a_p0_brings, .ref a_p0_need, .ref a_p0_draft, .int (Int32.ofInt i_p0_dSeats), .int (Int32.ofInt i_p0_dStirs), .ref a_p0_dStir, .ref a_p0_dNeed, .int (Int32.ofInt i_p0_told), .int (Int32.ofInt i_p0_highest), .ref a_p0_tape, .int (Int32.ofInt i_p0_taped), .int (Int32.ofInt i_p0_pos), .int (Int32.ofInt i_p0_from), .int (Int32.ofInt i_p0_sort), .int (Int32.ofInt i_p0_value), .int (Int32.ofInt i_p0_fault), .int (Int32.ofInt i_p0_wrongAt), .ref a_p0_places, .ref a_p0_stirred, .ref a_p0_ways, .ref a_p0_waysThen, .ref a_p0_stays, .ref a_p0_fewest, .ref a_p0_bowls, .ref a_p0_has, .ref a_p0_goesOn, .ref a_p0_isThere, .ref a_p0_isThereThen, .ref a_p0_bestRow, .ref a_p0_lanes, .ref a_p0_sizes, .ref a_p0_cells, .int (Int32.ofInt i_p0_torn)])), (a_p0_st, .inl (G 1, 152, .inl (zA v_p0_st))), (a_p0_places, .inl (G 1, 7, .inl (zA w7)))] → va_S A s.heap H locs → J15 z14 = some o_v_p0_places → W p l e rm_X12_findPlaces s m ([.ref a_p0, .int (Int32.ofInt x1)] : List Value).toArray below meth c H locs 0 0 Q (F0 m 61 ls [.int (Int32.ofInt z14)]) := by
          clear hf hl hP hD hS
          intro z14 ls H locs hl hP hD hS hf
          replace hf := jn1_s eJ15 hf
          refine z_topi (fun z16 ez => ?_)
          replace hf := bnd_s hf ez
          clear ez
          refine lv_istore (lv' := [(6, .int (Int32.ofInt z16)), (5, .int (Int32.ofInt z11)), (4, .int (Int32.ofInt z4)), (3, .int (Int32.ofInt z5)), (2, .int (Int32.ofInt z6)), (0, .ref a_p0), (1, .int (Int32.ofInt x1))]) hx hb dX12_findPlaces_61 hl (by decide) rfl (fun ls hl => ?_)
          refine lv_aload_n hx hb dX12_findPlaces_63 rfl (lv_at hl 5 rfl) ?_
          refine va_get (D := D) (ci := 12) (v := .ref a_p0_places) (C := RX12) (T := TX12) (N := 37) hx hb hts inX12_findPlaces_X12 hown hK hP 0 rfl rfl 21 (by decide) (hts _ mwX12_findPlaces_2) (fun _ h9 => h9) rfl dX12_findPlaces_64 ?_
          refine lv_iload hx hb dX12_findPlaces_67 (lv_at hl 1 rfl) ?_
          refine lv_iload hx hb dX12_findPlaces_69 (lv_at hl 0 rfl) ?_
          have hr16 := ck_c hf
          replace hf := ck_r hf
          have hq := jn_i hf
          clear hf
          obtain ⟨J20, eJ20, hf⟩ := hq
          have hJ20 : ∀ (z18 : Int) (z19 : Int) (ls : Array Slot) (H : Heap) (locs : List Loc), lv_has ls 7 [(6, .int (Int32.ofInt z16)), (4, .int (Int32.ofInt z4)), (3, .int (Int32.ofInt z5)), (2, .int (Int32.ofInt z6)), (0, .ref a_p0), (1, .int (Int32.ofInt x1))] → va_P D vwCl [(a_p0, .inr (12, [.ref a_p0_st, .ref a_p0_isKept, .int (Int32.ofInt i_p0_seats), .int (Int32.ofInt i_p0_stirs), .ref a_p0_brings, .ref a_p0_need, .ref a_p0_draft, .int (Int32.ofInt i_p0_dSeats), .int (Int32.ofInt i_p0_dStirs), .ref a_p0_dStir, .ref a_p0_dNeed, .int (Int32.ofInt i_p0_told), .int (Int32.ofInt i_p0_highest), .ref a_p0_tape, .int (Int32.ofInt i_p0_taped), .int (Int32.ofInt i_p0_pos), .int (Int32.ofInt i_p0_from), .int (Int32.ofInt i_p0_sort), .int (Int32.ofInt i_p0_value), .int (Int32.ofInt i_p0_fault), .int (Int32.ofInt i_p0_wrongAt), .ref a_p0_places, .ref a_p0_stirred, .ref a_p0_ways, .ref a_p0_waysThen, .ref a_p0_stays, .ref a_p0_fewest, .ref a_p0_bowls, .ref a_p0_has, .ref a_p0_goesOn, .ref a_p0_isThere, .ref a_p0_isThereThen, .ref a_p0_bestRow, .ref a_p0_lanes, .ref a_p0_sizes, .ref a_p0_cells, .int (Int32.ofInt i_p0_torn)])), (a_p0_st, .inl (G 1, 152, .inl (zA v_p0_st))), (a_p0_places, .inl (G 1, 7, .inl (zA w7)))] H → va_D A [(a_p0, .inr (12, [.ref a_p0_st, .ref a_p0_isKept, .int (Int32.ofInt i_p0_seats), .int (Int32.ofInt i_p0_stirs), .ref a_p0_brings, .ref a_p0_need, .ref a_p0_draft, .int (Int32.ofInt i_p0_dSeats), .int (Int32.ofInt i_p0_dStirs), .ref a_p0_dStir, .ref a_p0_dNeed, .int (Int32.ofInt i_p0_told), .int (Int32.ofInt i_p0_highest), .ref a_p0_tape, .int (Int32.ofInt i_p0_taped), .int (Int32.ofInt i_p0_pos), .int (Int32.ofInt i_p0_from), .int (Int32.ofInt i_p0_sort), .int (Int32.ofInt i_p0_value), .int (Int32.ofInt i_p0_fault), .int (Int32.ofInt i_p0_wrongAt), .ref a_p0_places, .ref a_p0_stirred, .ref a_p0_ways, .ref a_p0_waysThen, .ref a_p0_stays, .ref a_p0_fewest, .ref a_p0_bowls, .ref a_p0_has, .ref a_p0_goesOn, .ref a_p0_isThere, .ref a_p0_isThereThen, .ref a_p0_bestRow, .ref a_p0_lanes, .ref a_p0_sizes, .ref a_p0_cells, .int (Int32.ofInt i_p0_torn)])), (a_p0_st, .inl (G 1, 152, .inl (zA v_p0_st))), (a_p0_places, .inl (G 1, 7, .inl (zA w7)))] → va_S A s.heap H locs → J20 z18 z19 = some o_v_p0_places → W p l e rm_X12_findPlaces s m ([.ref a_p0, .int (Int32.ofInt x1)] : List Value).toArray below meth c H locs 0 0 Q (F0 m 79 ls [.int (Int32.ofInt z19), .int (Int32.ofInt z18), .ref a_p0_places]) := by
            clear hf hl hP hD hS
            intro z18 z19 ls H locs hl hP hD hS hf
            replace hf := jn2_s eJ20 hf
            have hc := ck_c hf
            replace hf := ck_r hf
            refine zs_iast (wf := fun w21 => [(a_p0, .inr (12, [.ref a_p0_st, .ref a_p0_isKept, .int (Int32.ofInt i_p0_seats), .int (Int32.ofInt i_p0_stirs), .ref a_p0_brings, .ref a_p0_need, .ref a_p0_draft, .int (Int32.ofInt i_p0_dSeats), .int (Int32.ofInt i_p0_dStirs), .ref a_p0_dStir, .ref a_p0_dNeed, .int (Int32.ofInt i_p0_told), .int (Int32.ofInt i_p0_highest), .ref a_p0_tape, .int (Int32.ofInt i_p0_taped), .int (Int32.ofInt i_p0_pos), .int (Int32.ofInt i_p0_from), .int (Int32.ofInt i_p0_sort), .int (Int32.ofInt i_p0_value), .int (Int32.ofInt i_p0_fault), .int (Int32.ofInt i_p0_wrongAt), .ref a_p0_places, .ref a_p0_stirred, .ref a_p0_ways, .ref a_p0_waysThen, .ref a_p0_stays, .ref a_p0_fewest, .ref a_p0_bowls, .ref a_p0_has, .ref a_p0_goesOn, .ref a_p0_isThere, .ref a_p0_isThereThen, .ref a_p0_bestRow, .ref a_p0_lanes, .ref a_p0_sizes, .ref a_p0_cells, .int (Int32.ofInt i_p0_torn)])), (a_p0_st, .inl (G 1, 152, .inl (zA v_p0_st))), (a_p0_places, .inl (G 1, 7, .inl (zA w21)))]) hx hb hK hP hD hS 2 1 rfl rfl hc dX12_findPlaces_79 (fun _ => rfl) (fun w21 ez H locs hP hD hS => ?_)
            replace hf := bnd_s hf ez
            clear ez hc
            refine lv_iload_n hx hb dX12_findPlaces_80 rfl (lv_at hl 2 rfl) ?_
            refine lv_iload hx hb dX12_findPlaces_81 (lv_at hl 0 rfl) ?_
            have hq := bd1_s hf
            clear hf
            obtain ⟨z22, hcall, hf⟩ := hq
            refine gnI (va_runS (As := [.int (Int32.ofInt z16)]) (rest := [.int (Int32.ofInt z5)]) ⟨hx, hb, hml, hown, hts⟩ (c_X12_flag (l := l) (D := D) (G := G) (sz := H.size) (x0 := z16) (r := z22) (hf := hcall)) (va_cwS 1 hts gX12_findPlaces_X12_flag rfl rfl rfl (by decide +kernel) ⟨Nat.le_of_ble_eq_true rfl, Nat.le_of_ble_eq_true rfl⟩) (preG_S (hP.sub [] rfl) (hD.sub [] rfl rfl) hK) rfl rfl hl.1 rfl (lv_room (Nat.le_of_ble_eq_true rfl)) dX12_findPlaces_83 ⟨Nat.le_of_ble_eq_true rfl, Nat.le_of_ble_eq_true rfl⟩) hP hD hS hA [] rfl (fun H locs hP hD hS => ?_)
            clear hcall
            refine lv_isub hx hb dX12_findPlaces_86 (z_ci (Int32.ofInt_sub z5 z22) ?_)
            refine z_topi (fun z23 ez => ?_)
            replace hf := bnd_s hf ez
            clear ez
            refine lv_istore_n (lv' := [(3, .int (Int32.ofInt z23)), (6, .int (Int32.ofInt z16)), (4, .int (Int32.ofInt z4)), (2, .int (Int32.ofInt z6)), (0, .ref a_p0), (1, .int (Int32.ofInt x1))]) hx hb dX12_findPlaces_87 rfl hl (by decide) rfl (fun ls hl => ?_)
            refine lv_iload_n hx hb dX12_findPlaces_88 rfl (lv_at hl 3 rfl) ?_
            refine lv_iload hx hb dX12_findPlaces_89 (lv_at hl 1 rfl) ?_
            refine lv_if_ne (tgt := 98) hx hb dX12_findPlaces_91 (by decide) (fun cc => ?_) (fun cc => ?_)
            ·
              replace hf := ite_f (fun h9 => cc ((z_eq0 hr16).mpr h9)) hf
              clear cc
              refine lv_iconst (v := Int32.ofInt (0 : Int)) hx hb dX12_findPlaces_98 (by decide) ?_
              have hq := bd1_s hf
              clear hf
              obtain ⟨z24, hcall, hf⟩ := hq
              refine gnI (va_runS (As := [.int (Int32.ofInt (0 : Int))]) (rest := [.int (Int32.ofInt z6)]) ⟨hx, hb, hml, hown, hts⟩ (c_X12_flag (l := l) (D := D) (G := G) (sz := H.size) (x0 := (0 : Int)) (r := z24) (hf := hcall)) (va_cwS 1 hts gX12_findPlaces_X12_flag rfl rfl rfl (by decide +kernel) ⟨Nat.le_of_ble_eq_true rfl, Nat.le_of_ble_eq_true rfl⟩) (preG_S (hP.sub [] rfl) (hD.sub [] rfl rfl) hK) rfl rfl hl.1 rfl (lv_room (Nat.le_of_ble_eq_true rfl)) dX12_findPlaces_99 ⟨Nat.le_of_ble_eq_true rfl, Nat.le_of_ble_eq_true rfl⟩) hP hD hS hA [] rfl (fun H locs hP hD hS => ?_)
              clear hcall
              refine lv_iadd hx hb dX12_findPlaces_102 (z_ci (Int32.ofInt_add z6 z24) ?_)
              refine z_topi (fun z25 ez => ?_)
              replace hf := bnd_s hf ez
              clear ez
              refine lv_istore_n (lv' := [(2, .int (Int32.ofInt z25)), (3, .int (Int32.ofInt z23)), (6, .int (Int32.ofInt z16)), (4, .int (Int32.ofInt z4)), (0, .ref a_p0), (1, .int (Int32.ofInt x1))]) hx hb dX12_findPlaces_103 rfl hl (by decide) rfl (fun ls hl => ?_)
              obtain ⟨z26, ez⟩ : ∃ y : Int, y = (z4 + (1 : Int)) := ⟨_, rfl⟩
              replace hf := bnd_s hf ez
              refine lv_iinc (v := Int32.ofInt z26) (lv' := [(4, .int (Int32.ofInt z26)), (2, .int (Int32.ofInt z25)), (3, .int (Int32.ofInt z23)), (6, .int (Int32.ofInt z16)), (0, .ref a_p0), (1, .int (Int32.ofInt x1))]) hx hb dX12_findPlaces_104 hl (k := 3) rfl (by rw [ez]; exact (Int32.ofInt_add _ _).symm) (by decide) rfl (fun ls hl => ?_)
              clear ez
              refine lv_goto (tgt := 12) hx hb dX12_findPlaces_107 (by decide) ?_
              exact ih12 _ _ _ _ _ _ _ (lv_sub hl [0, 2, 1, 4, 5] rfl) hP hD hS hf
            ·
              replace hf := ite_t ((z_eq0 hr16).mp cc) hf
              clear cc
              refine lv_iconst (v := Int32.ofInt (1 : Int)) hx hb dX12_findPlaces_94 (by decide) ?_
              refine lv_goto (tgt := 99) hx hb dX12_findPlaces_95 (by decide) ?_
              have hq := bd1_s hf
              clear hf
              obtain ⟨z27, hcall, hf⟩ := hq
              refine gnI (va_runS (As := [.int (Int32.ofInt (1 : Int))]) (rest := [.int (Int32.ofInt z6)]) ⟨hx, hb, hml, hown, hts⟩ (c_X12_flag (l := l) (D := D) (G := G) (sz := H.size) (x0 := (1 : Int)) (r := z27) (hf := hcall)) (va_cwS 1 hts gX12_findPlaces_X12_flag rfl rfl rfl (by decide +kernel) ⟨Nat.le_of_ble_eq_true rfl, Nat.le_of_ble_eq_true rfl⟩) (preG_S (hP.sub [] rfl) (hD.sub [] rfl rfl) hK) rfl rfl hl.1 rfl (lv_room (Nat.le_of_ble_eq_true rfl)) dX12_findPlaces_99 ⟨Nat.le_of_ble_eq_true rfl, Nat.le_of_ble_eq_true rfl⟩) hP hD hS hA [] rfl (fun H locs hP hD hS => ?_)
              clear hcall
              refine lv_iadd hx hb dX12_findPlaces_102 (z_ci (Int32.ofInt_add z6 z27) ?_)
              refine z_topi (fun z28 ez => ?_)
              replace hf := bnd_s hf ez
              clear ez
              refine lv_istore_n (lv' := [(2, .int (Int32.ofInt z28)), (3, .int (Int32.ofInt z23)), (6, .int (Int32.ofInt z16)), (4, .int (Int32.ofInt z4)), (0, .ref a_p0), (1, .int (Int32.ofInt x1))]) hx hb dX12_findPlaces_103 rfl hl (by decide) rfl (fun ls hl => ?_)
              obtain ⟨z29, ez⟩ : ∃ y : Int, y = (z4 + (1 : Int)) := ⟨_, rfl⟩
              replace hf := bnd_s hf ez
              refine lv_iinc (v := Int32.ofInt z29) (lv' := [(4, .int (Int32.ofInt z29)), (2, .int (Int32.ofInt z28)), (3, .int (Int32.ofInt z23)), (6, .int (Int32.ofInt z16)), (0, .ref a_p0), (1, .int (Int32.ofInt x1))]) hx hb dX12_findPlaces_104 hl (k := 3) rfl (by rw [ez]; exact (Int32.ofInt_add _ _).symm) (by decide) rfl (fun ls hl => ?_)
              clear ez
              refine lv_goto (tgt := 12) hx hb dX12_findPlaces_107 (by decide) ?_
              exact ih12 _ _ _ _ _ _ _ (lv_sub hl [0, 2, 1, 4, 5] rfl) hP hD hS hf
          refine lv_if_eq (tgt := 78) hx hb dX12_findPlaces_71 (by decide) (fun cc => ?_) (fun cc => ?_)
          ·
            replace hf := ite_t ((z_eq0 hr16).mp cc) hf
            clear cc
            refine lv_iload_n hx hb dX12_findPlaces_78 rfl (lv_at hl 4 rfl) ?_
            exact hJ20 _ _ _ _ _ (lv_sub hl [0, 2, 3, 4, 5, 6] rfl) hP hD hS hf
          ·
            replace hf := ite_f (fun h9 => cc ((z_eq0 hr16).mpr h9)) hf
            clear cc
            refine lv_iload_n hx hb dX12_findPlaces_74 rfl (lv_at hl 3 rfl) ?_
            refine lv_goto (tgt := 79) hx hb dX12_findPlaces_75 (by decide) ?_
            exact hJ20 _ _ _ _ _ (lv_sub hl [0, 2, 3, 4, 5, 6] rfl) hP hD hS hf
        have hq := jn_i hf
        clear hf
        obtain ⟨J30, eJ30, hf⟩ := hq
        have hJ30 : ∀  (ls : Array Slot) (H : Heap) (locs : List Loc), lv_has ls 7 [(5, .int (Int32.ofInt z11)), (4, .int (Int32.ofInt z4)), (3, .int (Int32.ofInt z5)), (2, .int (Int32.ofInt z6)), (0, .ref a_p0), (1, .int (Int32.ofInt x1))] → va_P D vwCl [(a_p0, .inr (12, [.ref a_p0_st, .ref a_p0_isKept, .int (Int32.ofInt i_p0_seats), .int (Int32.ofInt i_p0_stirs), .ref a_p0_brings, .ref a_p0_need, .ref a_p0_draft, .int (Int32.ofInt i_p0_dSeats), .int (Int32.ofInt i_p0_dStirs), .ref a_p0_dStir, .ref a_p0_dNeed, .int (Int32.ofInt i_p0_told), .int (Int32.ofInt i_p0_highest), .ref a_p0_tape, .int (Int32.ofInt i_p0_taped), .int (Int32.ofInt i_p0_pos), .int (Int32.ofInt i_p0_from), .int (Int32.ofInt i_p0_sort), .int (Int32.ofInt i_p0_value), .int (Int32.ofInt i_p0_fault), .int (Int32.ofInt i_p0_wrongAt), .ref a_p0_places, .ref a_p0_stirred, .ref a_p0_ways, .ref a_p0_waysThen, .ref a_p0_stays, .ref a_p0_fewest, .ref a_p0_bowls, .ref a_p0_has, .ref a_p0_goesOn, .ref a_p0_isThere, .ref a_p0_isThereThen, .ref a_p0_bestRow, .ref a_p0_lanes, .ref a_p0_sizes, .ref a_p0_cells, .int (Int32.ofInt i_p0_torn)])), (a_p0_st, .inl (G 1, 152, .inl (zA v_p0_st))), (a_p0_places, .inl (G 1, 7, .inl (zA w7)))] H → va_D A [(a_p0, .inr (12, [.ref a_p0_st, .ref a_p0_isKept, .int (Int32.ofInt i_p0_seats), .int (Int32.ofInt i_p0_stirs), .ref a_p0_brings, .ref a_p0_need, .ref a_p0_draft, .int (Int32.ofInt i_p0_dSeats), .int (Int32.ofInt i_p0_dStirs), .ref a_p0_dStir, .ref a_p0_dNeed, .int (Int32.ofInt i_p0_told), .int (Int32.ofInt i_p0_highest), .ref a_p0_tape, .int (Int32.ofInt i_p0_taped), .int (Int32.ofInt i_p0_pos), .int (Int32.ofInt i_p0_from), .int (Int32.ofInt i_p0_sort), .int (Int32.ofInt i_p0_value), .int (Int32.ofInt i_p0_fault), .int (Int32.ofInt i_p0_wrongAt), .ref a_p0_places, .ref a_p0_stirred, .ref a_p0_ways, .ref a_p0_waysThen, .ref a_p0_stays, .ref a_p0_fewest, .ref a_p0_bowls, .ref a_p0_has, .ref a_p0_goesOn, .ref a_p0_isThere, .ref a_p0_isThereThen, .ref a_p0_bestRow, .ref a_p0_lanes, .ref a_p0_sizes, .ref a_p0_cells, .int (Int32.ofInt i_p0_torn)])), (a_p0_st, .inl (G 1, 152, .inl (zA v_p0_st))), (a_p0_places, .inl (G 1, 7, .inl (zA w7)))] → va_S A s.heap H locs → J30  = some o_v_p0_places → W p l e rm_X12_findPlaces s m ([.ref a_p0, .int (Int32.ofInt x1)] : List Value).toArray below meth c H locs 0 0 Q (F0 m 56 ls []) := by
          clear hf hl hP hD hS
          intro  ls H locs hl hP hD hS hf
          replace hf := jn0_s eJ30 hf
          refine lv_iconst (v := Int32.ofInt (1 : Int)) hx hb dX12_findPlaces_56 (by decide) ?_
          refine lv_goto (tgt := 61) hx hb dX12_findPlaces_57 (by decide) ?_
          exact hJ15 _ _ _ _ (lv_sub hl [0, 1, 2, 3, 4, 5] rfl) hP hD hS hf
        refine lv_icmp_eq (tgt := 56) hx hb dX12_findPlaces_35 (by decide) (fun cc => ?_) (fun cc => ?_)
        ·
          replace hf := ite_t ((z_eq hr11 hr12).mp cc) hf
          clear cc
          exact hJ30  _ _ _ (lv_sub hl [0, 1, 2, 3, 4, 5] rfl) hP hD hS hf
        ·
          replace hf := ite_f (fun h9 => cc ((z_eq hr11 hr12).mpr h9)) hf
          clear cc
          refine lv_aload_n hx hb dX12_findPlaces_38 rfl (lv_at hl 4 rfl) ?_
          refine va_get (D := D) (ci := 12) (v := .ref a_p0_st) (C := RX12) (T := TX12) (N := 37) hx hb hts inX12_findPlaces_X12 hown hK hP 0 rfl rfl 0 (by decide) (hts _ mwX12_findPlaces_3) (fun _ h9 => h9) rfl dX12_findPlaces_39 ?_
          refine lv_bipush (v := Int32.ofInt (9 : Int)) hx hb dX12_findPlaces_42 (by decide) ?_
          refine lv_iload_n hx hb dX12_findPlaces_44 rfl (lv_at hl 5 rfl) ?_
          refine lv_iadd hx hb dX12_findPlaces_45 (z_ci (Int32.ofInt_add (9 : Int) x1) ?_)
          have hc := ck_c hf
          replace hf := ck_r hf
          refine va_iald hx hb hK hP 1 1 rfl rfl (z_ix_in hc) dX12_findPlaces_46 (z_ci (z_ald v_p0_st hc) ?_)
          clear hc
          refine lv_iload hx hb dX12_findPlaces_47 (lv_at hl 0 rfl) ?_
          refine lv_ishr hx hb dX12_findPlaces_49 (z_ci (z_shr_e (v_p0_st ((9 : Int) + x1)) z11) ?_)
          refine lv_iconst (v := Int32.ofInt (1 : Int)) hx hb dX12_findPlaces_50 (by decide) ?_
          refine lv_iand hx hb dX12_findPlaces_51 (z_ci (z_and_e (z_shr (v_p0_st ((9 : Int) + x1)) z11) (1 : Int)) ?_)
          refine lv_iconst (v := Int32.ofInt (1 : Int)) hx hb dX12_findPlaces_52 (by decide) ?_
          have hr30 := ck_c hf
          replace hf := ck_r hf
          refine lv_icmp_ne (tgt := 60) hx hb dX12_findPlaces_53 (by decide) (fun cc => ?_) (fun cc => ?_)
          ·
            replace hf := ite_f (fun h9 => cc ((z_eq hr30 (by decide)).mpr h9)) hf
            clear cc
            refine lv_iconst (v := Int32.ofInt (0 : Int)) hx hb dX12_findPlaces_60 (by decide) ?_
            exact hJ15 _ _ _ _ (lv_sub hl [0, 1, 2, 3, 4, 5] rfl) hP hD hS hf
          ·
            replace hf := ite_t ((z_eq hr30 (by decide)).mp cc) hf
            clear cc
            exact hJ30  _ _ _ (lv_sub hl [0, 1, 2, 3, 4, 5] rfl) hP hD hS hf
  exact hB8 _ _ _ _ _ _ _ _ (lv_sub hl [0, 1, 2, 3, 4] rfl) hP hD hS hf

noncomputable def B_X12_cameFrom_2 (x1 : Int) (v_p0_brings : (Int → Int)) (x2 : Int) (again2 : Int → Option (Int)) (z2 : Int) : Option (Int) := (ck (z_ix (((7 : Int) * x1) + z2) 35) (ck (z_r32 (v_p0_brings (((7 : Int) * x1) + z2))) (ck (z_r32 x2) (if (v_p0_brings (((7 : Int) * x1) + z2)) = x2 then (some z2) else (bnd (z2 + (1 : Int)) (fun (z6 : Int) => (again2 z6)))))))
noncomputable def f_X12_cameFrom (v_p0_brings : (Int → Int)) (x1 : Int) (x2 : Int) : Option (Int) := (bnd (0 : Int) (fun (z1 : Int) => (lq1 (B_X12_cameFrom_2 x1 v_p0_brings x2) 1000 z1)))
abbrev rm_X12_cameFrom : Room := { frames := 0, cells := 0, slots := 0, locals := 0 }
theorem inX12_cameFrom_X12 : ∀ w ∈ wsX120, w ∈ wsX12_cameFrom := by first | exact fun w h => List.mem_cons_of_mem _ (List.mem_append_right _ h) | decide +kernel
theorem mwX12_cameFrom_1 : Cond.fieldLink RX12 17 "LadleKingsModel" "brings" "[I" ∈ wsX12_cameFrom := by first | exact List.mem_of_getElem? (i := 1) rfl | decide +kernel
set_option maxHeartbeats 8000000 in
set_option maxRecDepth 100000 in
theorem c_X12_cameFrom (l : Launch) (D : va_G) (G : Nat → ClassId) (sz : Nat) (a_p0 : Nat) (a_p0_st : Nat) (a_p0_isKept : Nat) (a_p0_brings : Nat) (a_p0_need : Nat) (a_p0_draft : Nat) (a_p0_dStir : Nat) (a_p0_dNeed : Nat) (a_p0_tape : Nat) (a_p0_places : Nat) (a_p0_stirred : Nat) (a_p0_ways : Nat) (a_p0_waysThen : Nat) (a_p0_stays : Nat) (a_p0_fewest : Nat) (a_p0_bowls : Nat) (a_p0_has : Nat) (a_p0_goesOn : Nat) (a_p0_isThere : Nat) (a_p0_isThereThen : Nat) (a_p0_bestRow : Nat) (a_p0_lanes : Nat) (a_p0_sizes : Nat) (a_p0_cells : Nat) (i_p0_seats : Int) (i_p0_stirs : Int) (i_p0_dSeats : Int) (i_p0_dStirs : Int) (i_p0_told : Int) (i_p0_highest : Int) (i_p0_taped : Int) (i_p0_pos : Int) (i_p0_from : Int) (i_p0_sort : Int) (i_p0_value : Int) (i_p0_fault : Int) (i_p0_wrongAt : Int) (i_p0_torn : Int) (v_p0_brings : (Int → Int)) (x1 : Int) (x2 : Int) (r : Int) (hf : f_X12_cameFrom v_p0_brings x1 x2 = some r) : Met l yX12_cameFrom wsX12_cameFrom rm_X12_cameFrom (pcG D G [.ref a_p0, .int (Int32.ofInt x1), .int (Int32.ofInt x2)] sz [(a_p0, .inr (12, [.ref a_p0_st, .ref a_p0_isKept, .int (Int32.ofInt i_p0_seats), .int (Int32.ofInt i_p0_stirs), .ref a_p0_brings, .ref a_p0_need, .ref a_p0_draft, .int (Int32.ofInt i_p0_dSeats), .int (Int32.ofInt i_p0_dStirs), .ref a_p0_dStir, .ref a_p0_dNeed, .int (Int32.ofInt i_p0_told), .int (Int32.ofInt i_p0_highest), .ref a_p0_tape, .int (Int32.ofInt i_p0_taped), .int (Int32.ofInt i_p0_pos), .int (Int32.ofInt i_p0_from), .int (Int32.ofInt i_p0_sort), .int (Int32.ofInt i_p0_value), .int (Int32.ofInt i_p0_fault), .int (Int32.ofInt i_p0_wrongAt), .ref a_p0_places, .ref a_p0_stirred, .ref a_p0_ways, .ref a_p0_waysThen, .ref a_p0_stays, .ref a_p0_fewest, .ref a_p0_bowls, .ref a_p0_has, .ref a_p0_goesOn, .ref a_p0_isThere, .ref a_p0_isThereThen, .ref a_p0_bestRow, .ref a_p0_lanes, .ref a_p0_sizes, .ref a_p0_cells, .int (Int32.ofInt i_p0_torn)])), (a_p0_brings, .inl (G 1, 35, .inl (zA v_p0_brings)))]) (qcI D G (Int32.ofInt r) [(a_p0, .inr (12, [.ref a_p0_st, .ref a_p0_isKept, .int (Int32.ofInt i_p0_seats), .int (Int32.ofInt i_p0_stirs), .ref a_p0_brings, .ref a_p0_need, .ref a_p0_draft, .int (Int32.ofInt i_p0_dSeats), .int (Int32.ofInt i_p0_dStirs), .ref a_p0_dStir, .ref a_p0_dNeed, .int (Int32.ofInt i_p0_told), .int (Int32.ofInt i_p0_highest), .ref a_p0_tape, .int (Int32.ofInt i_p0_taped), .int (Int32.ofInt i_p0_pos), .int (Int32.ofInt i_p0_from), .int (Int32.ofInt i_p0_sort), .int (Int32.ofInt i_p0_value), .int (Int32.ofInt i_p0_fault), .int (Int32.ofInt i_p0_wrongAt), .ref a_p0_places, .ref a_p0_stirred, .ref a_p0_ways, .ref a_p0_waysThen, .ref a_p0_stays, .ref a_p0_fewest, .ref a_p0_bowls, .ref a_p0_has, .ref a_p0_goesOn, .ref a_p0_isThere, .ref a_p0_isThereThen, .ref a_p0_bestRow, .ref a_p0_lanes, .ref a_p0_sizes, .ref a_p0_cells, .int (Int32.ofInt i_p0_torn)])), (a_p0_brings, .inl (G 1, 35, .inl (zA v_p0_brings)))] (va_A [(a_p0, .inr (12, [.ref a_p0_st, .ref a_p0_isKept, .int (Int32.ofInt i_p0_seats), .int (Int32.ofInt i_p0_stirs), .ref a_p0_brings, .ref a_p0_need, .ref a_p0_draft, .int (Int32.ofInt i_p0_dSeats), .int (Int32.ofInt i_p0_dStirs), .ref a_p0_dStir, .ref a_p0_dNeed, .int (Int32.ofInt i_p0_told), .int (Int32.ofInt i_p0_highest), .ref a_p0_tape, .int (Int32.ofInt i_p0_taped), .int (Int32.ofInt i_p0_pos), .int (Int32.ofInt i_p0_from), .int (Int32.ofInt i_p0_sort), .int (Int32.ofInt i_p0_value), .int (Int32.ofInt i_p0_fault), .int (Int32.ofInt i_p0_wrongAt), .ref a_p0_places, .ref a_p0_stirred, .ref a_p0_ways, .ref a_p0_waysThen, .ref a_p0_stays, .ref a_p0_fewest, .ref a_p0_bowls, .ref a_p0_has, .ref a_p0_goesOn, .ref a_p0_isThere, .ref a_p0_isThereThen, .ref a_p0_bestRow, .ref a_p0_lanes, .ref a_p0_sizes, .ref a_p0_cells, .int (Int32.ofInt i_p0_torn)])), (a_p0_brings, .inl (G 1, 35, .inl (zA v_p0_brings)))] sz)) 0 0 (va_A [(a_p0, .inr (12, [.ref a_p0_st, .ref a_p0_isKept, .int (Int32.ofInt i_p0_seats), .int (Int32.ofInt i_p0_stirs), .ref a_p0_brings, .ref a_p0_need, .ref a_p0_draft, .int (Int32.ofInt i_p0_dSeats), .int (Int32.ofInt i_p0_dStirs), .ref a_p0_dStir, .ref a_p0_dNeed, .int (Int32.ofInt i_p0_told), .int (Int32.ofInt i_p0_highest), .ref a_p0_tape, .int (Int32.ofInt i_p0_taped), .int (Int32.ofInt i_p0_pos), .int (Int32.ofInt i_p0_from), .int (Int32.ofInt i_p0_sort), .int (Int32.ofInt i_p0_value), .int (Int32.ofInt i_p0_fault), .int (Int32.ofInt i_p0_wrongAt), .ref a_p0_places, .ref a_p0_stirred, .ref a_p0_ways, .ref a_p0_waysThen, .ref a_p0_stays, .ref a_p0_fewest, .ref a_p0_bowls, .ref a_p0_has, .ref a_p0_goesOn, .ref a_p0_isThere, .ref a_p0_isThereThen, .ref a_p0_bestRow, .ref a_p0_lanes, .ref a_p0_sizes, .ref a_p0_cells, .int (Int32.ofInt i_p0_torn)])), (a_p0_brings, .inl (G 1, 35, .inl (zA v_p0_brings)))] sz) := by
  refine Met.ofW (cc := cX12_cameFrom) (maxL := 4) (ret := (some .int)) (by decide) rfl ?_
  intro p e s m args below meth c s₁ B hml hv
  obtain ⟨rfl, hsz, hP, hK, hD0⟩ := hv
  have hx := B.exec
  have hb := B.bytes
  have hr := B.returns
  have hts := atoms_spec (ws := wsX12_cameFrom) B.pre
  have hown : s.vm.findClass RX12 = some m.cls := findClass_of_methodNamed B.named
  have hlocks := B.notSynchronized
  subst hsz
  have hD := hD0.self (sz := s.heap.size)
  generalize hAe : va_A [(a_p0, .inr (12, [.ref a_p0_st, .ref a_p0_isKept, .int (Int32.ofInt i_p0_seats), .int (Int32.ofInt i_p0_stirs), .ref a_p0_brings, .ref a_p0_need, .ref a_p0_draft, .int (Int32.ofInt i_p0_dSeats), .int (Int32.ofInt i_p0_dStirs), .ref a_p0_dStir, .ref a_p0_dNeed, .int (Int32.ofInt i_p0_told), .int (Int32.ofInt i_p0_highest), .ref a_p0_tape, .int (Int32.ofInt i_p0_taped), .int (Int32.ofInt i_p0_pos), .int (Int32.ofInt i_p0_from), .int (Int32.ofInt i_p0_sort), .int (Int32.ofInt i_p0_value), .int (Int32.ofInt i_p0_fault), .int (Int32.ofInt i_p0_wrongAt), .ref a_p0_places, .ref a_p0_stirred, .ref a_p0_ways, .ref a_p0_waysThen, .ref a_p0_stays, .ref a_p0_fewest, .ref a_p0_bowls, .ref a_p0_has, .ref a_p0_goesOn, .ref a_p0_isThere, .ref a_p0_isThereThen, .ref a_p0_bestRow, .ref a_p0_lanes, .ref a_p0_sizes, .ref a_p0_cells, .int (Int32.ofInt i_p0_torn)])), (a_p0_brings, .inl (G 1, 35, .inl (zA v_p0_brings)))] s.heap.size = A at hD ⊢
  have hA : ∀ q : Nat, s.heap.size ≤ q → A q := fun q h => by rw [← hAe]; exact Or.inr h
  clear hAe hD0
  have hS : va_S A s.heap s.heap [] := va_S.rf
  have hl := lv_entry ([.ref a_p0, .int (Int32.ofInt x1), .int (Int32.ofInt x2)]) (n := 4) (Nat.le_of_ble_eq_true rfl)
  rw [lg_entry_eq]
  generalize (lg_sl ([.ref a_p0, .int (Int32.ofInt x1), .int (Int32.ofInt x2)]) ++ List.replicate (4 - (lg_sl ([.ref a_p0, .int (Int32.ofInt x1), .int (Int32.ofInt x2)])).length) Slot.unset).toArray = ls at hl ⊢
  have hl : lv_has ls 4 [(0, .ref a_p0), (1, .int (Int32.ofInt x1)), (2, .int (Int32.ofInt x2))] := hl
  refine W_nameQ (fun Q hQ => ?_)
  obtain ⟨H, hH⟩ : ∃ H, H = s.heap := ⟨_, rfl⟩
  replace hS : va_S A s.heap H [] := by rw [hH]; exact hS
  replace hP : va_P D vwCl [(a_p0, .inr (12, [.ref a_p0_st, .ref a_p0_isKept, .int (Int32.ofInt i_p0_seats), .int (Int32.ofInt i_p0_stirs), .ref a_p0_brings, .ref a_p0_need, .ref a_p0_draft, .int (Int32.ofInt i_p0_dSeats), .int (Int32.ofInt i_p0_dStirs), .ref a_p0_dStir, .ref a_p0_dNeed, .int (Int32.ofInt i_p0_told), .int (Int32.ofInt i_p0_highest), .ref a_p0_tape, .int (Int32.ofInt i_p0_taped), .int (Int32.ofInt i_p0_pos), .int (Int32.ofInt i_p0_from), .int (Int32.ofInt i_p0_sort), .int (Int32.ofInt i_p0_value), .int (Int32.ofInt i_p0_fault), .int (Int32.ofInt i_p0_wrongAt), .ref a_p0_places, .ref a_p0_stirred, .ref a_p0_ways, .ref a_p0_waysThen, .ref a_p0_stays, .ref a_p0_fewest, .ref a_p0_bowls, .ref a_p0_has, .ref a_p0_goesOn, .ref a_p0_isThere, .ref a_p0_isThereThen, .ref a_p0_bestRow, .ref a_p0_lanes, .ref a_p0_sizes, .ref a_p0_cells, .int (Int32.ofInt i_p0_torn)])), (a_p0_brings, .inl (G 1, 35, .inl (zA v_p0_brings)))] H := by rw [hH]; exact hP
  rw [← hH]
  clear hH
  unfold f_X12_cameFrom at hf
  refine lv_iconst (v := Int32.ofInt (0 : Int)) hx hb dX12_cameFrom_0 (by decide) ?_
  refine z_topi (fun z1 ez => ?_)
  replace hf := bnd_s hf ez
  clear ez
  refine lv_istore_n (lv' := [(3, .int (Int32.ofInt z1)), (0, .ref a_p0), (1, .int (Int32.ofInt x1)), (2, .int (Int32.ofInt x2))]) hx hb dX12_cameFrom_1 rfl hl (by decide) rfl (fun ls hl => ?_)
  have hq := lq1_i hf
  clear hf
  obtain ⟨B3, eB3, NB3, hf⟩ := hq
  have hB3 : ∀ (n : Nat) (z2 : Int) (ls : Array Slot) (H : Heap) (locs : List Loc), lv_has ls 4 [(3, .int (Int32.ofInt z2)), (0, .ref a_p0), (1, .int (Int32.ofInt x1)), (2, .int (Int32.ofInt x2))] → va_P D vwCl [(a_p0, .inr (12, [.ref a_p0_st, .ref a_p0_isKept, .int (Int32.ofInt i_p0_seats), .int (Int32.ofInt i_p0_stirs), .ref a_p0_brings, .ref a_p0_need, .ref a_p0_draft, .int (Int32.ofInt i_p0_dSeats), .int (Int32.ofInt i_p0_dStirs), .ref a_p0_dStir, .ref a_p0_dNeed, .int (Int32.ofInt i_p0_told), .int (Int32.ofInt i_p0_highest), .ref a_p0_tape, .int (Int32.ofInt i_p0_taped), .int (Int32.ofInt i_p0_pos), .int (Int32.ofInt i_p0_from), .int (Int32.ofInt i_p0_sort), .int (Int32.ofInt i_p0_value), .int (Int32.ofInt i_p0_fault), .int (Int32.ofInt i_p0_wrongAt), .ref a_p0_places, .ref a_p0_stirred, .ref a_p0_ways, .ref a_p0_waysThen, .ref a_p0_stays, .ref a_p0_fewest, .ref a_p0_bowls, .ref a_p0_has, .ref a_p0_goesOn, .ref a_p0_isThere, .ref a_p0_isThereThen, .ref a_p0_bestRow, .ref a_p0_lanes, .ref a_p0_sizes, .ref a_p0_cells, .int (Int32.ofInt i_p0_torn)])), (a_p0_brings, .inl (G 1, 35, .inl (zA v_p0_brings)))] H → va_D A [(a_p0, .inr (12, [.ref a_p0_st, .ref a_p0_isKept, .int (Int32.ofInt i_p0_seats), .int (Int32.ofInt i_p0_stirs), .ref a_p0_brings, .ref a_p0_need, .ref a_p0_draft, .int (Int32.ofInt i_p0_dSeats), .int (Int32.ofInt i_p0_dStirs), .ref a_p0_dStir, .ref a_p0_dNeed, .int (Int32.ofInt i_p0_told), .int (Int32.ofInt i_p0_highest), .ref a_p0_tape, .int (Int32.ofInt i_p0_taped), .int (Int32.ofInt i_p0_pos), .int (Int32.ofInt i_p0_from), .int (Int32.ofInt i_p0_sort), .int (Int32.ofInt i_p0_value), .int (Int32.ofInt i_p0_fault), .int (Int32.ofInt i_p0_wrongAt), .ref a_p0_places, .ref a_p0_stirred, .ref a_p0_ways, .ref a_p0_waysThen, .ref a_p0_stays, .ref a_p0_fewest, .ref a_p0_bowls, .ref a_p0_has, .ref a_p0_goesOn, .ref a_p0_isThere, .ref a_p0_isThereThen, .ref a_p0_bestRow, .ref a_p0_lanes, .ref a_p0_sizes, .ref a_p0_cells, .int (Int32.ofInt i_p0_torn)])), (a_p0_brings, .inl (G 1, 35, .inl (zA v_p0_brings)))] → va_S A s.heap H locs → lq1 B3 n z2 = some r → W p l e rm_X12_cameFrom s m ([.ref a_p0, .int (Int32.ofInt x1), .int (Int32.ofInt x2)] : List Value).toArray below meth c H locs 0 0 Q (F0 m 2 ls []) := by
    clear hf hl hP hD hS
    intro n
    induction n with
    | zero =>
      intro z2 ls H locs hl hP hD hS hf
      exact (lq1_0 hf).elim
    | succ n ih2 =>
      intro z2 ls H locs hl hP hD hS hf
      replace hf := lq1_s eB3 hf
      unfold B_X12_cameFrom_2 at hf
      refine lv_aload_n hx hb dX12_cameFrom_2 rfl (lv_at hl 1 rfl) ?_
      refine va_get (D := D) (ci := 12) (v := .ref a_p0_brings) (C := RX12) (T := TX12) (N := 37) hx hb hts inX12_cameFrom_X12 hown hK hP 0 rfl rfl 4 (by decide) (hts _ mwX12_cameFrom_1) (fun _ h9 => h9) rfl dX12_cameFrom_3 ?_
      refine lv_bipush (v := Int32.ofInt (7 : Int)) hx hb dX12_cameFrom_6 (by decide) ?_
      refine lv_iload_n hx hb dX12_cameFrom_8 rfl (lv_at hl 2 rfl) ?_
      refine lv_imul hx hb dX12_cameFrom_9 (z_ci (Int32.ofInt_mul (7 : Int) x1) ?_)
      refine lv_iload_n hx hb dX12_cameFrom_10 rfl (lv_at hl 0 rfl) ?_
      refine lv_iadd hx hb dX12_cameFrom_11 (z_ci (Int32.ofInt_add ((7 : Int) * x1) z2) ?_)
      have hc := ck_c hf
      replace hf := ck_r hf
      refine va_iald hx hb hK hP 1 1 rfl rfl (z_ix_in hc) dX12_cameFrom_12 (z_ci (z_ald v_p0_brings hc) ?_)
      clear hc
      refine lv_iload_n hx hb dX12_cameFrom_13 rfl (lv_at hl 3 rfl) ?_
      have hr3 := ck_c hf
      replace hf := ck_r hf
      have hr4 := ck_c hf
      replace hf := ck_r hf
      refine lv_icmp_eq (tgt := 23) hx hb dX12_cameFrom_14 (by decide) (fun cc => ?_) (fun cc => ?_)
      ·
        replace hf := ite_t ((z_eq hr3 hr4).mp cc) hf
        clear cc
        refine lv_iload_n hx hb dX12_cameFrom_23 rfl (lv_at hl 0 rfl) ?_
        obtain rfl := ou1 hf
        rw [hQ]
        exact W.iret hx hb hr (fun t ht hW => ⟨⟨_, (), rfl, rfl, by rw [ht]; exact hP, va_K.moved hW.alike hK, hD⟩, hS.F ht⟩) hS.2.2 dX12_cameFrom_24
      ·
        replace hf := ite_f (fun h9 => cc ((z_eq hr3 hr4).mpr h9)) hf
        clear cc
        obtain ⟨z6, ez⟩ : ∃ y : Int, y = (z2 + (1 : Int)) := ⟨_, rfl⟩
        replace hf := bnd_s hf ez
        refine lv_iinc (v := Int32.ofInt z6) (lv' := [(3, .int (Int32.ofInt z6)), (0, .ref a_p0), (1, .int (Int32.ofInt x1)), (2, .int (Int32.ofInt x2))]) hx hb dX12_cameFrom_17 hl (k := 0) rfl (by rw [ez]; exact (Int32.ofInt_add _ _).symm) (by decide) rfl (fun ls hl => ?_)
        clear ez
        refine lv_goto (tgt := 2) hx hb dX12_cameFrom_20 (by decide) ?_
        exact ih2 _ _ _ _ (lv_sub hl [0, 1, 2, 3] rfl) hP hD hS hf
  exact hB3 _ _ _ _ _ (lv_sub hl [0, 1, 2, 3] rfl) hP hD hS hf

noncomputable def B_X12_nextBy_8 (x2 : Int) (x3 : Int) (w1 : (Int → Int)) (v_p0_brings : (Int → Int)) (again8 : Int → Option (Int × (Int → Int))) (z3 : Int) : Option (Int × (Int → Int)) := (ck (z_ix z3 7) (ck (z_ix (((7 : Int) * x2) + x3) 35) (ck (z_r32 (w1 z3)) (ck (z_r32 (v_p0_brings (((7 : Int) * x2) + x3))) (if (w1 z3) = (v_p0_brings (((7 : Int) * x2) + x3)) then (some (z3, w1)) else (bnd (z3 + (1 : Int)) (fun (z7 : Int) => (again8 z7))))))))
noncomputable def f_X12_nextBy (i_p0_seats : Int) (v_p0_st : (Int → Int)) (v_p0_brings : (Int → Int)) (v_p0_places : (Int → Int)) (x1 : Int) (x2 : Int) (x3 : Int) : Option (Int × (Int → Int)) := (bd1 (f_X12_findPlaces i_p0_seats v_p0_st v_p0_places x1) (fun (w1 : (Int → Int)) => (bnd (0 : Int) (fun (z2 : Int) => (lq1 (B_X12_nextBy_8 x2 x3 w1 v_p0_brings) 1000 z2)))))
abbrev rm_X12_nextBy : Room := { frames := 2, cells := 0, slots := 0, locals := 46 }
theorem hdV_yX12_findPlaces_RX12 : yX12_findPlaces.cls = RX12 ∧ yX12_findPlaces.cls ≠ "java/lang/invoke/MethodHandle" ∧ yX12_findPlaces.cls ≠ "java/lang/invoke/VarHandle" ∧ (parseMethodDescriptor yX12_findPlaces.desc).map (fun d => d.parameters.length) = some 1 := by decide +kernel
theorem inX12_nextBy_X12 : ∀ w ∈ wsX120, w ∈ wsX12_nextBy := by first | exact fun w h => List.mem_cons_of_mem _ (List.mem_append_right _ h) | decide +kernel
theorem mwX12_nextBy_2 : Cond.fieldLink RX12 35 "LadleKingsModel" "places" "[I" ∈ wsX12_nextBy := by first | exact List.mem_of_getElem? (i := 1) rfl | decide +kernel
theorem mwX12_nextBy_3 : Cond.fieldLink RX12 17 "LadleKingsModel" "brings" "[I" ∈ wsX12_nextBy := by first | exact List.mem_of_getElem? (i := 2) rfl | decide +kernel
set_option maxHeartbeats 8000000 in
set_option maxRecDepth 100000 in
theorem c_X12_nextBy (l : Launch) (D : va_G) (G : Nat → ClassId) (sz : Nat) (a_p0 : Nat) (a_p0_st : Nat) (a_p0_isKept : Nat) (a_p0_brings : Nat) (a_p0_need : Nat) (a_p0_draft : Nat) (a_p0_dStir : Nat) (a_p0_dNeed : Nat) (a_p0_tape : Nat) (a_p0_places : Nat) (a_p0_stirred : Nat) (a_p0_ways : Nat) (a_p0_waysThen : Nat) (a_p0_stays : Nat) (a_p0_fewest : Nat) (a_p0_bowls : Nat) (a_p0_has : Nat) (a_p0_goesOn : Nat) (a_p0_isThere : Nat) (a_p0_isThereThen : Nat) (a_p0_bestRow : Nat) (a_p0_lanes : Nat) (a_p0_sizes : Nat) (a_p0_cells : Nat) (i_p0_seats : Int) (i_p0_stirs : Int) (i_p0_dSeats : Int) (i_p0_dStirs : Int) (i_p0_told : Int) (i_p0_highest : Int) (i_p0_taped : Int) (i_p0_pos : Int) (i_p0_from : Int) (i_p0_sort : Int) (i_p0_value : Int) (i_p0_fault : Int) (i_p0_wrongAt : Int) (i_p0_torn : Int) (v_p0_st : (Int → Int)) (v_p0_brings : (Int → Int)) (v_p0_places : (Int → Int)) (x1 : Int) (x2 : Int) (x3 : Int) (r : Int) (o_v_p0_places : (Int → Int)) (hf : f_X12_nextBy i_p0_seats v_p0_st v_p0_brings v_p0_places x1 x2 x3 = some (r, o_v_p0_places)) : Met l yX12_nextBy wsX12_nextBy rm_X12_nextBy (pcG D G [.ref a_p0, .int (Int32.ofInt x1), .int (Int32.ofInt x2), .int (Int32.ofInt x3)] sz [(a_p0, .inr (12, [.ref a_p0_st, .ref a_p0_isKept, .int (Int32.ofInt i_p0_seats), .int (Int32.ofInt i_p0_stirs), .ref a_p0_brings, .ref a_p0_need, .ref a_p0_draft, .int (Int32.ofInt i_p0_dSeats), .int (Int32.ofInt i_p0_dStirs), .ref a_p0_dStir, .ref a_p0_dNeed, .int (Int32.ofInt i_p0_told), .int (Int32.ofInt i_p0_highest), .ref a_p0_tape, .int (Int32.ofInt i_p0_taped), .int (Int32.ofInt i_p0_pos), .int (Int32.ofInt i_p0_from), .int (Int32.ofInt i_p0_sort), .int (Int32.ofInt i_p0_value), .int (Int32.ofInt i_p0_fault), .int (Int32.ofInt i_p0_wrongAt), .ref a_p0_places, .ref a_p0_stirred, .ref a_p0_ways, .ref a_p0_waysThen, .ref a_p0_stays, .ref a_p0_fewest, .ref a_p0_bowls, .ref a_p0_has, .ref a_p0_goesOn, .ref a_p0_isThere, .ref a_p0_isThereThen, .ref a_p0_bestRow, .ref a_p0_lanes, .ref a_p0_sizes, .ref a_p0_cells, .int (Int32.ofInt i_p0_torn)])), (a_p0_st, .inl (G 1, 152, .inl (zA v_p0_st))), (a_p0_brings, .inl (G 1, 35, .inl (zA v_p0_brings))), (a_p0_places, .inl (G 1, 7, .inl (zA v_p0_places)))]) (qcI D G (Int32.ofInt r) [(a_p0, .inr (12, [.ref a_p0_st, .ref a_p0_isKept, .int (Int32.ofInt i_p0_seats), .int (Int32.ofInt i_p0_stirs), .ref a_p0_brings, .ref a_p0_need, .ref a_p0_draft, .int (Int32.ofInt i_p0_dSeats), .int (Int32.ofInt i_p0_dStirs), .ref a_p0_dStir, .ref a_p0_dNeed, .int (Int32.ofInt i_p0_told), .int (Int32.ofInt i_p0_highest), .ref a_p0_tape, .int (Int32.ofInt i_p0_taped), .int (Int32.ofInt i_p0_pos), .int (Int32.ofInt i_p0_from), .int (Int32.ofInt i_p0_sort), .int (Int32.ofInt i_p0_value), .int (Int32.ofInt i_p0_fault), .int (Int32.ofInt i_p0_wrongAt), .ref a_p0_places, .ref a_p0_stirred, .ref a_p0_ways, .ref a_p0_waysThen, .ref a_p0_stays, .ref a_p0_fewest, .ref a_p0_bowls, .ref a_p0_has, .ref a_p0_goesOn, .ref a_p0_isThere, .ref a_p0_isThereThen, .ref a_p0_bestRow, .ref a_p0_lanes, .ref a_p0_sizes, .ref a_p0_cells, .int (Int32.ofInt i_p0_torn)])), (a_p0_st, .inl (G 1, 152, .inl (zA v_p0_st))), (a_p0_brings, .inl (G 1, 35, .inl (zA v_p0_brings))), (a_p0_places, .inl (G 1, 7, .inl (zA o_v_p0_places)))] (va_A [(a_p0, .inr (12, [.ref a_p0_st, .ref a_p0_isKept, .int (Int32.ofInt i_p0_seats), .int (Int32.ofInt i_p0_stirs), .ref a_p0_brings, .ref a_p0_need, .ref a_p0_draft, .int (Int32.ofInt i_p0_dSeats), .int (Int32.ofInt i_p0_dStirs), .ref a_p0_dStir, .ref a_p0_dNeed, .int (Int32.ofInt i_p0_told), .int (Int32.ofInt i_p0_highest), .ref a_p0_tape, .int (Int32.ofInt i_p0_taped), .int (Int32.ofInt i_p0_pos), .int (Int32.ofInt i_p0_from), .int (Int32.ofInt i_p0_sort), .int (Int32.ofInt i_p0_value), .int (Int32.ofInt i_p0_fault), .int (Int32.ofInt i_p0_wrongAt), .ref a_p0_places, .ref a_p0_stirred, .ref a_p0_ways, .ref a_p0_waysThen, .ref a_p0_stays, .ref a_p0_fewest, .ref a_p0_bowls, .ref a_p0_has, .ref a_p0_goesOn, .ref a_p0_isThere, .ref a_p0_isThereThen, .ref a_p0_bestRow, .ref a_p0_lanes, .ref a_p0_sizes, .ref a_p0_cells, .int (Int32.ofInt i_p0_torn)])), (a_p0_st, .inl (G 1, 152, .inl (zA v_p0_st))), (a_p0_brings, .inl (G 1, 35, .inl (zA v_p0_brings))), (a_p0_places, .inl (G 1, 7, .inl (zA v_p0_places)))] sz)) 0 0 (va_A [(a_p0, .inr (12, [.ref a_p0_st, .ref a_p0_isKept, .int (Int32.ofInt i_p0_seats), .int (Int32.ofInt i_p0_stirs), .ref a_p0_brings, .ref a_p0_need, .ref a_p0_draft, .int (Int32.ofInt i_p0_dSeats), .int (Int32.ofInt i_p0_dStirs), .ref a_p0_dStir, .ref a_p0_dNeed, .int (Int32.ofInt i_p0_told), .int (Int32.ofInt i_p0_highest), .ref a_p0_tape, .int (Int32.ofInt i_p0_taped), .int (Int32.ofInt i_p0_pos), .int (Int32.ofInt i_p0_from), .int (Int32.ofInt i_p0_sort), .int (Int32.ofInt i_p0_value), .int (Int32.ofInt i_p0_fault), .int (Int32.ofInt i_p0_wrongAt), .ref a_p0_places, .ref a_p0_stirred, .ref a_p0_ways, .ref a_p0_waysThen, .ref a_p0_stays, .ref a_p0_fewest, .ref a_p0_bowls, .ref a_p0_has, .ref a_p0_goesOn, .ref a_p0_isThere, .ref a_p0_isThereThen, .ref a_p0_bestRow, .ref a_p0_lanes, .ref a_p0_sizes, .ref a_p0_cells, .int (Int32.ofInt i_p0_torn)])), (a_p0_st, .inl (G 1, 152, .inl (zA v_p0_st))), (a_p0_brings, .inl (G 1, 35, .inl (zA v_p0_brings))), (a_p0_places, .inl (G 1, 7, .inl (zA v_p0_places)))] sz) := by
  refine Met.ofW (cc := cX12_nextBy) (maxL := 5) (ret := (some .int)) (by decide) rfl ?_
  intro p e s m args below meth c s₁ B hml hv
  obtain ⟨rfl, hsz, hP, hK, hD0⟩ := hv
  have hx := B.exec
  have hb := B.bytes
  have hr := B.returns
  have hts := atoms_spec (ws := wsX12_nextBy) B.pre
  have hown : s.vm.findClass RX12 = some m.cls := findClass_of_methodNamed B.named
  have hlocks := B.notSynchronized
  subst hsz
  have hD := hD0.self (sz := s.heap.size)
  generalize hAe : va_A [(a_p0, .inr (12, [.ref a_p0_st, .ref a_p0_isKept, .int (Int32.ofInt i_p0_seats), .int (Int32.ofInt i_p0_stirs), .ref a_p0_brings, .ref a_p0_need, .ref a_p0_draft, .int (Int32.ofInt i_p0_dSeats), .int (Int32.ofInt i_p0_dStirs), .ref a_p0_dStir, .ref a_p0_dNeed, .int (Int32.ofInt i_p0_told), .int (Int32.ofInt i_p0_highest), .ref a_p0_tape, .int (Int32.ofInt i_p0_taped), .int (Int32.ofInt i_p0_pos), .int (Int32.ofInt i_p0_from), .int (Int32.ofInt i_p0_sort), .int (Int32.ofInt i_p0_value), .int (Int32.ofInt i_p0_fault), .int (Int32.ofInt i_p0_wrongAt), .ref a_p0_places, .ref a_p0_stirred, .ref a_p0_ways, .ref a_p0_waysThen, .ref a_p0_stays, .ref a_p0_fewest, .ref a_p0_bowls, .ref a_p0_has, .ref a_p0_goesOn, .ref a_p0_isThere, .ref a_p0_isThereThen, .ref a_p0_bestRow, .ref a_p0_lanes, .ref a_p0_sizes, .ref a_p0_cells, .int (Int32.ofInt i_p0_torn)])), (a_p0_st, .inl (G 1, 152, .inl (zA v_p0_st))), (a_p0_brings, .inl (G 1, 35, .inl (zA v_p0_brings))), (a_p0_places, .inl (G 1, 7, .inl (zA v_p0_places)))] s.heap.size = A at hD ⊢
  have hA : ∀ q : Nat, s.heap.size ≤ q → A q := fun q h => by rw [← hAe]; exact Or.inr h
  clear hAe hD0
  have hS : va_S A s.heap s.heap [] := va_S.rf
  have hl := lv_entry ([.ref a_p0, .int (Int32.ofInt x1), .int (Int32.ofInt x2), .int (Int32.ofInt x3)]) (n := 5) (Nat.le_of_ble_eq_true rfl)
  rw [lg_entry_eq]
  generalize (lg_sl ([.ref a_p0, .int (Int32.ofInt x1), .int (Int32.ofInt x2), .int (Int32.ofInt x3)]) ++ List.replicate (5 - (lg_sl ([.ref a_p0, .int (Int32.ofInt x1), .int (Int32.ofInt x2), .int (Int32.ofInt x3)])).length) Slot.unset).toArray = ls at hl ⊢
  have hl : lv_has ls 5 [(0, .ref a_p0), (1, .int (Int32.ofInt x1)), (2, .int (Int32.ofInt x2)), (3, .int (Int32.ofInt x3))] := hl
  refine W_nameQ (fun Q hQ => ?_)
  obtain ⟨H, hH⟩ : ∃ H, H = s.heap := ⟨_, rfl⟩
  replace hS : va_S A s.heap H [] := by rw [hH]; exact hS
  replace hP : va_P D vwCl [(a_p0, .inr (12, [.ref a_p0_st, .ref a_p0_isKept, .int (Int32.ofInt i_p0_seats), .int (Int32.ofInt i_p0_stirs), .ref a_p0_brings, .ref a_p0_need, .ref a_p0_draft, .int (Int32.ofInt i_p0_dSeats), .int (Int32.ofInt i_p0_dStirs), .ref a_p0_dStir, .ref a_p0_dNeed, .int (Int32.ofInt i_p0_told), .int (Int32.ofInt i_p0_highest), .ref a_p0_tape, .int (Int32.ofInt i_p0_taped), .int (Int32.ofInt i_p0_pos), .int (Int32.ofInt i_p0_from), .int (Int32.ofInt i_p0_sort), .int (Int32.ofInt i_p0_value), .int (Int32.ofInt i_p0_fault), .int (Int32.ofInt i_p0_wrongAt), .ref a_p0_places, .ref a_p0_stirred, .ref a_p0_ways, .ref a_p0_waysThen, .ref a_p0_stays, .ref a_p0_fewest, .ref a_p0_bowls, .ref a_p0_has, .ref a_p0_goesOn, .ref a_p0_isThere, .ref a_p0_isThereThen, .ref a_p0_bestRow, .ref a_p0_lanes, .ref a_p0_sizes, .ref a_p0_cells, .int (Int32.ofInt i_p0_torn)])), (a_p0_st, .inl (G 1, 152, .inl (zA v_p0_st))), (a_p0_brings, .inl (G 1, 35, .inl (zA v_p0_brings))), (a_p0_places, .inl (G 1, 7, .inl (zA v_p0_places)))] H := by rw [hH]; exact hP
  rw [← hH]
  clear hH
  unfold f_X12_nextBy at hf
  refine lv_aload_n hx hb dX12_nextBy_0 rfl (lv_at hl 0 rfl) ?_
  refine lv_iload_n hx hb dX12_nextBy_1 rfl (lv_at hl 1 rfl) ?_
  have hq := bd1_s hf
  clear hf
  obtain ⟨w1, hcall, hf⟩ := hq
  refine gsV (ws' := [(a_p0, .inr (12, [.ref a_p0_st, .ref a_p0_isKept, .int (Int32.ofInt i_p0_seats), .int (Int32.ofInt i_p0_stirs), .ref a_p0_brings, .ref a_p0_need, .ref a_p0_draft, .int (Int32.ofInt i_p0_dSeats), .int (Int32.ofInt i_p0_dStirs), .ref a_p0_dStir, .ref a_p0_dNeed, .int (Int32.ofInt i_p0_told), .int (Int32.ofInt i_p0_highest), .ref a_p0_tape, .int (Int32.ofInt i_p0_taped), .int (Int32.ofInt i_p0_pos), .int (Int32.ofInt i_p0_from), .int (Int32.ofInt i_p0_sort), .int (Int32.ofInt i_p0_value), .int (Int32.ofInt i_p0_fault), .int (Int32.ofInt i_p0_wrongAt), .ref a_p0_places, .ref a_p0_stirred, .ref a_p0_ways, .ref a_p0_waysThen, .ref a_p0_stays, .ref a_p0_fewest, .ref a_p0_bowls, .ref a_p0_has, .ref a_p0_goesOn, .ref a_p0_isThere, .ref a_p0_isThereThen, .ref a_p0_bestRow, .ref a_p0_lanes, .ref a_p0_sizes, .ref a_p0_cells, .int (Int32.ofInt i_p0_torn)])), (a_p0_st, .inl (G 1, 152, .inl (zA v_p0_st))), (a_p0_brings, .inl (G 1, 35, .inl (zA v_p0_brings))), (a_p0_places, .inl (G 1, 7, .inl (zA w1)))]) (va_runV (As := [.int (Int32.ofInt x1)]) (rest := []) ⟨hx, hb, hml, hown, hts⟩ (c_X12_findPlaces (l := l) (D := D) (G := G) (sz := H.size) (a_p0 := a_p0) (a_p0_st := a_p0_st) (a_p0_isKept := a_p0_isKept) (a_p0_brings := a_p0_brings) (a_p0_need := a_p0_need) (a_p0_draft := a_p0_draft) (a_p0_dStir := a_p0_dStir) (a_p0_dNeed := a_p0_dNeed) (a_p0_tape := a_p0_tape) (a_p0_places := a_p0_places) (a_p0_stirred := a_p0_stirred) (a_p0_ways := a_p0_ways) (a_p0_waysThen := a_p0_waysThen) (a_p0_stays := a_p0_stays) (a_p0_fewest := a_p0_fewest) (a_p0_bowls := a_p0_bowls) (a_p0_has := a_p0_has) (a_p0_goesOn := a_p0_goesOn) (a_p0_isThere := a_p0_isThere) (a_p0_isThereThen := a_p0_isThereThen) (a_p0_bestRow := a_p0_bestRow) (a_p0_lanes := a_p0_lanes) (a_p0_sizes := a_p0_sizes) (a_p0_cells := a_p0_cells) (i_p0_seats := i_p0_seats) (i_p0_stirs := i_p0_stirs) (i_p0_dSeats := i_p0_dSeats) (i_p0_dStirs := i_p0_dStirs) (i_p0_told := i_p0_told) (i_p0_highest := i_p0_highest) (i_p0_taped := i_p0_taped) (i_p0_pos := i_p0_pos) (i_p0_from := i_p0_from) (i_p0_sort := i_p0_sort) (i_p0_value := i_p0_value) (i_p0_fault := i_p0_fault) (i_p0_wrongAt := i_p0_wrongAt) (i_p0_torn := i_p0_torn) (v_p0_st := v_p0_st) (v_p0_places := v_p0_places) (x1 := x1) (o_v_p0_places := w1) (hf := hcall)) (cwV 1 hts gX12_nextBy_X12_findPlaces rfl rfl rfl hdV_yX12_findPlaces_RX12 ⟨Nat.le_of_ble_eq_true rfl, Nat.le_of_ble_eq_true rfl⟩) (preG_V (ci := 12) (q := (RX12, TX12, 37)) (hP.sub [0, 1, 3] rfl) (hD.sub [0, 1, 3] rfl rfl) hK rfl rfl) rfl rfl hl.1 rfl (lv_room (Nat.le_of_ble_eq_true rfl)) dX12_nextBy_2 ⟨Nat.le_of_ble_eq_true rfl, Nat.le_of_ble_eq_true rfl⟩) hP hD hS hA [0, 1, 3] rfl rfl rfl (fun H locs hP hD hS => ?_)
  clear hcall
  refine lv_iconst (v := Int32.ofInt (0 : Int)) hx hb dX12_nextBy_5 (by decide) ?_
  refine z_topi (fun z2 ez => ?_)
  replace hf := bnd_s hf ez
  clear ez
  refine lv_istore (lv' := [(4, .int (Int32.ofInt z2)), (0, .ref a_p0), (1, .int (Int32.ofInt x1)), (2, .int (Int32.ofInt x2)), (3, .int (Int32.ofInt x3))]) hx hb dX12_nextBy_6 hl (by decide) rfl (fun ls hl => ?_)
  have hq := lq1_i hf
  clear hf
  obtain ⟨B4, eB4, NB4, hf⟩ := hq
  have hB4 : ∀ (n : Nat) (z3 : Int) (ls : Array Slot) (H : Heap) (locs : List Loc), lv_has ls 5 [(4, .int (Int32.ofInt z3)), (0, .ref a_p0), (2, .int (Int32.ofInt x2)), (3, .int (Int32.ofInt x3))] → va_P D vwCl [(a_p0, .inr (12, [.ref a_p0_st, .ref a_p0_isKept, .int (Int32.ofInt i_p0_seats), .int (Int32.ofInt i_p0_stirs), .ref a_p0_brings, .ref a_p0_need, .ref a_p0_draft, .int (Int32.ofInt i_p0_dSeats), .int (Int32.ofInt i_p0_dStirs), .ref a_p0_dStir, .ref a_p0_dNeed, .int (Int32.ofInt i_p0_told), .int (Int32.ofInt i_p0_highest), .ref a_p0_tape, .int (Int32.ofInt i_p0_taped), .int (Int32.ofInt i_p0_pos), .int (Int32.ofInt i_p0_from), .int (Int32.ofInt i_p0_sort), .int (Int32.ofInt i_p0_value), .int (Int32.ofInt i_p0_fault), .int (Int32.ofInt i_p0_wrongAt), .ref a_p0_places, .ref a_p0_stirred, .ref a_p0_ways, .ref a_p0_waysThen, .ref a_p0_stays, .ref a_p0_fewest, .ref a_p0_bowls, .ref a_p0_has, .ref a_p0_goesOn, .ref a_p0_isThere, .ref a_p0_isThereThen, .ref a_p0_bestRow, .ref a_p0_lanes, .ref a_p0_sizes, .ref a_p0_cells, .int (Int32.ofInt i_p0_torn)])), (a_p0_st, .inl (G 1, 152, .inl (zA v_p0_st))), (a_p0_brings, .inl (G 1, 35, .inl (zA v_p0_brings))), (a_p0_places, .inl (G 1, 7, .inl (zA w1)))] H → va_D A [(a_p0, .inr (12, [.ref a_p0_st, .ref a_p0_isKept, .int (Int32.ofInt i_p0_seats), .int (Int32.ofInt i_p0_stirs), .ref a_p0_brings, .ref a_p0_need, .ref a_p0_draft, .int (Int32.ofInt i_p0_dSeats), .int (Int32.ofInt i_p0_dStirs), .ref a_p0_dStir, .ref a_p0_dNeed, .int (Int32.ofInt i_p0_told), .int (Int32.ofInt i_p0_highest), .ref a_p0_tape, .int (Int32.ofInt i_p0_taped), .int (Int32.ofInt i_p0_pos), .int (Int32.ofInt i_p0_from), .int (Int32.ofInt i_p0_sort), .int (Int32.ofInt i_p0_value), .int (Int32.ofInt i_p0_fault), .int (Int32.ofInt i_p0_wrongAt), .ref a_p0_places, .ref a_p0_stirred, .ref a_p0_ways, .ref a_p0_waysThen, .ref a_p0_stays, .ref a_p0_fewest, .ref a_p0_bowls, .ref a_p0_has, .ref a_p0_goesOn, .ref a_p0_isThere, .ref a_p0_isThereThen, .ref a_p0_bestRow, .ref a_p0_lanes, .ref a_p0_sizes, .ref a_p0_cells, .int (Int32.ofInt i_p0_torn)])), (a_p0_st, .inl (G 1, 152, .inl (zA v_p0_st))), (a_p0_brings, .inl (G 1, 35, .inl (zA v_p0_brings))), (a_p0_places, .inl (G 1, 7, .inl (zA w1)))] → va_S A s.heap H locs → lq1 B4 n z3 = some (r, o_v_p0_places) → W p l e rm_X12_nextBy s m ([.ref a_p0, .int (Int32.ofInt x1), .int (Int32.ofInt x2), .int (Int32.ofInt x3)] : List Value).toArray below meth c H locs 0 0 Q (F0 m 8 ls []) := by
    clear hf hl hP hD hS
    intro n
    induction n with
    | zero =>
      intro z3 ls H locs hl hP hD hS hf
      exact (lq1_0 hf).elim
    | succ n ih8 =>
      intro z3 ls H locs hl hP hD hS hf
      replace hf := lq1_s eB4 hf
      unfold B_X12_nextBy_8 at hf
      refine lv_aload_n hx hb dX12_nextBy_8 rfl (lv_at hl 1 rfl) ?_
      refine va_get (D := D) (ci := 12) (v := .ref a_p0_places) (C := RX12) (T := TX12) (N := 37) hx hb hts inX12_nextBy_X12 hown hK hP 0 rfl rfl 21 (by decide) (hts _ mwX12_nextBy_2) (fun _ h9 => h9) rfl dX12_nextBy_9 ?_
      refine lv_iload hx hb dX12_nextBy_12 (lv_at hl 0 rfl) ?_
      have hc := ck_c hf
      replace hf := ck_r hf
      refine va_iald hx hb hK hP 3 1 rfl rfl (z_ix_in hc) dX12_nextBy_14 (z_ci (z_ald w1 hc) ?_)
      clear hc
      refine lv_aload_n hx hb dX12_nextBy_15 rfl (lv_at hl 1 rfl) ?_
      refine va_get (D := D) (ci := 12) (v := .ref a_p0_brings) (C := RX12) (T := TX12) (N := 37) hx hb hts inX12_nextBy_X12 hown hK hP 0 rfl rfl 4 (by decide) (hts _ mwX12_nextBy_3) (fun _ h9 => h9) rfl dX12_nextBy_16 ?_
      refine lv_bipush (v := Int32.ofInt (7 : Int)) hx hb dX12_nextBy_19 (by decide) ?_
      refine lv_iload_n hx hb dX12_nextBy_21 rfl (lv_at hl 2 rfl) ?_
      refine lv_imul hx hb dX12_nextBy_22 (z_ci (Int32.ofInt_mul (7 : Int) x2) ?_)
      refine lv_iload_n hx hb dX12_nextBy_23 rfl (lv_at hl 3 rfl) ?_
      refine lv_iadd hx hb dX12_nextBy_24 (z_ci (Int32.ofInt_add ((7 : Int) * x2) x3) ?_)
      have hc := ck_c hf
      replace hf := ck_r hf
      refine va_iald hx hb hK hP 2 1 rfl rfl (z_ix_in hc) dX12_nextBy_25 (z_ci (z_ald v_p0_brings hc) ?_)
      clear hc
      have hr4 := ck_c hf
      replace hf := ck_r hf
      have hr5 := ck_c hf
      replace hf := ck_r hf
      refine lv_icmp_eq (tgt := 35) hx hb dX12_nextBy_26 (by decide) (fun cc => ?_) (fun cc => ?_)
      ·
        replace hf := ite_t ((z_eq hr4 hr5).mp cc) hf
        clear cc
        refine lv_iload hx hb dX12_nextBy_35 (lv_at hl 0 rfl) ?_
        obtain ⟨rfl, rfl⟩ := ou2 hf
        rw [hQ]
        exact W.iret hx hb hr (fun t ht hW => ⟨⟨_, (), rfl, rfl, by rw [ht]; exact hP, va_K.moved hW.alike hK, hD⟩, hS.F ht⟩) hS.2.2 dX12_nextBy_37
      ·
        replace hf := ite_f (fun h9 => cc ((z_eq hr4 hr5).mpr h9)) hf
        clear cc
        obtain ⟨z7, ez⟩ : ∃ y : Int, y = (z3 + (1 : Int)) := ⟨_, rfl⟩
        replace hf := bnd_s hf ez
        refine lv_iinc (v := Int32.ofInt z7) (lv' := [(4, .int (Int32.ofInt z7)), (0, .ref a_p0), (2, .int (Int32.ofInt x2)), (3, .int (Int32.ofInt x3))]) hx hb dX12_nextBy_29 hl (k := 0) rfl (by rw [ez]; exact (Int32.ofInt_add _ _).symm) (by decide) rfl (fun ls hl => ?_)
        clear ez
        refine lv_goto (tgt := 8) hx hb dX12_nextBy_32 (by decide) ?_
        exact ih8 _ _ _ _ (lv_sub hl [0, 1, 2, 3] rfl) hP hD hS hf
  exact hB4 _ _ _ _ _ (lv_sub hl [0, 1, 3, 4] rfl) hP hD hS hf

noncomputable def f_X12_bowl (i_p0_seats : Int) (i_p0_stirs : Int) (v_p0_st : (Int → Int)) (v_p0_brings : (Int → Int)) (v_p0_places : (Int → Int)) (x1 : Int) (x2 : Int) (x3 : Int) : Option (Int × (Int → Int)) := (bd1 (f_X12_isSeat i_p0_seats x1) (fun (z1 : Int) => (ck (z_r32 z1) (if z1 = (0 : Int) then (some ((-1 : Int), v_p0_places)) else (bd1 (f_X12_isSeat i_p0_seats x2) (fun (z3 : Int) => (ck (z_r32 z3) (if z3 = (0 : Int) then (some ((-1 : Int), v_p0_places)) else (bd1 (f_X12_isStir i_p0_stirs x3) (fun (z5 : Int) => (ck (z_r32 z5) (if z5 = (0 : Int) then (some ((-1 : Int), v_p0_places)) else (bd1 (f_X12_findPlaces i_p0_seats v_p0_st v_p0_places x1) (fun (w7 : (Int → Int)) => (ck (z_ix x2 7) (bd1 (f_X12_cameFrom v_p0_brings x3 (w7 x2)) (fun (z8 : Int) => (ck (z_ix z8 152) (some ((v_p0_st z8), w7))))))))))))))))))))
abbrev rm_X12_bowl : Room := { frames := 2, cells := 0, slots := 0, locals := 46 }
theorem inX12_bowl_X12 : ∀ w ∈ wsX120, w ∈ wsX12_bowl := by first | exact fun w h => List.mem_cons_of_mem _ (List.mem_append_right _ h) | decide +kernel
theorem mwX12_bowl_1 : Cond.fieldLink RX12 7 "LadleKingsModel" "st" "[I" ∈ wsX12_bowl := by first | exact List.mem_of_getElem? (i := 1) rfl | decide +kernel
theorem mwX12_bowl_2 : Cond.fieldLink RX12 35 "LadleKingsModel" "places" "[I" ∈ wsX12_bowl := by first | exact List.mem_of_getElem? (i := 2) rfl | decide +kernel
theorem hdV_yX12_cameFrom_RX12 : yX12_cameFrom.cls = RX12 ∧ yX12_cameFrom.cls ≠ "java/lang/invoke/MethodHandle" ∧ yX12_cameFrom.cls ≠ "java/lang/invoke/VarHandle" ∧ (parseMethodDescriptor yX12_cameFrom.desc).map (fun d => d.parameters.length) = some 2 := by decide +kernel
set_option maxHeartbeats 8000000 in
set_option maxRecDepth 100000 in
theorem c_X12_bowl (l : Launch) (D : va_G) (G : Nat → ClassId) (sz : Nat) (a_p0 : Nat) (a_p0_st : Nat) (a_p0_isKept : Nat) (a_p0_brings : Nat) (a_p0_need : Nat) (a_p0_draft : Nat) (a_p0_dStir : Nat) (a_p0_dNeed : Nat) (a_p0_tape : Nat) (a_p0_places : Nat) (a_p0_stirred : Nat) (a_p0_ways : Nat) (a_p0_waysThen : Nat) (a_p0_stays : Nat) (a_p0_fewest : Nat) (a_p0_bowls : Nat) (a_p0_has : Nat) (a_p0_goesOn : Nat) (a_p0_isThere : Nat) (a_p0_isThereThen : Nat) (a_p0_bestRow : Nat) (a_p0_lanes : Nat) (a_p0_sizes : Nat) (a_p0_cells : Nat) (i_p0_seats : Int) (i_p0_stirs : Int) (i_p0_dSeats : Int) (i_p0_dStirs : Int) (i_p0_told : Int) (i_p0_highest : Int) (i_p0_taped : Int) (i_p0_pos : Int) (i_p0_from : Int) (i_p0_sort : Int) (i_p0_value : Int) (i_p0_fault : Int) (i_p0_wrongAt : Int) (i_p0_torn : Int) (v_p0_st : (Int → Int)) (v_p0_brings : (Int → Int)) (v_p0_places : (Int → Int)) (x1 : Int) (x2 : Int) (x3 : Int) (r : Int) (o_v_p0_places : (Int → Int)) (hf : f_X12_bowl i_p0_seats i_p0_stirs v_p0_st v_p0_brings v_p0_places x1 x2 x3 = some (r, o_v_p0_places)) : Met l yX12_bowl wsX12_bowl rm_X12_bowl (pcG D G [.ref a_p0, .int (Int32.ofInt x1), .int (Int32.ofInt x2), .int (Int32.ofInt x3)] sz [(a_p0, .inr (12, [.ref a_p0_st, .ref a_p0_isKept, .int (Int32.ofInt i_p0_seats), .int (Int32.ofInt i_p0_stirs), .ref a_p0_brings, .ref a_p0_need, .ref a_p0_draft, .int (Int32.ofInt i_p0_dSeats), .int (Int32.ofInt i_p0_dStirs), .ref a_p0_dStir, .ref a_p0_dNeed, .int (Int32.ofInt i_p0_told), .int (Int32.ofInt i_p0_highest), .ref a_p0_tape, .int (Int32.ofInt i_p0_taped), .int (Int32.ofInt i_p0_pos), .int (Int32.ofInt i_p0_from), .int (Int32.ofInt i_p0_sort), .int (Int32.ofInt i_p0_value), .int (Int32.ofInt i_p0_fault), .int (Int32.ofInt i_p0_wrongAt), .ref a_p0_places, .ref a_p0_stirred, .ref a_p0_ways, .ref a_p0_waysThen, .ref a_p0_stays, .ref a_p0_fewest, .ref a_p0_bowls, .ref a_p0_has, .ref a_p0_goesOn, .ref a_p0_isThere, .ref a_p0_isThereThen, .ref a_p0_bestRow, .ref a_p0_lanes, .ref a_p0_sizes, .ref a_p0_cells, .int (Int32.ofInt i_p0_torn)])), (a_p0_st, .inl (G 1, 152, .inl (zA v_p0_st))), (a_p0_brings, .inl (G 1, 35, .inl (zA v_p0_brings))), (a_p0_places, .inl (G 1, 7, .inl (zA v_p0_places)))]) (qcI D G (Int32.ofInt r) [(a_p0, .inr (12, [.ref a_p0_st, .ref a_p0_isKept, .int (Int32.ofInt i_p0_seats), .int (Int32.ofInt i_p0_stirs), .ref a_p0_brings, .ref a_p0_need, .ref a_p0_draft, .int (Int32.ofInt i_p0_dSeats), .int (Int32.ofInt i_p0_dStirs), .ref a_p0_dStir, .ref a_p0_dNeed, .int (Int32.ofInt i_p0_told), .int (Int32.ofInt i_p0_highest), .ref a_p0_tape, .int (Int32.ofInt i_p0_taped), .int (Int32.ofInt i_p0_pos), .int (Int32.ofInt i_p0_from), .int (Int32.ofInt i_p0_sort), .int (Int32.ofInt i_p0_value), .int (Int32.ofInt i_p0_fault), .int (Int32.ofInt i_p0_wrongAt), .ref a_p0_places, .ref a_p0_stirred, .ref a_p0_ways, .ref a_p0_waysThen, .ref a_p0_stays, .ref a_p0_fewest, .ref a_p0_bowls, .ref a_p0_has, .ref a_p0_goesOn, .ref a_p0_isThere, .ref a_p0_isThereThen, .ref a_p0_bestRow, .ref a_p0_lanes, .ref a_p0_sizes, .ref a_p0_cells, .int (Int32.ofInt i_p0_torn)])), (a_p0_st, .inl (G 1, 152, .inl (zA v_p0_st))), (a_p0_brings, .inl (G 1, 35, .inl (zA v_p0_brings))), (a_p0_places, .inl (G 1, 7, .inl (zA o_v_p0_places)))] (va_A [(a_p0, .inr (12, [.ref a_p0_st, .ref a_p0_isKept, .int (Int32.ofInt i_p0_seats), .int (Int32.ofInt i_p0_stirs), .ref a_p0_brings, .ref a_p0_need, .ref a_p0_draft, .int (Int32.ofInt i_p0_dSeats), .int (Int32.ofInt i_p0_dStirs), .ref a_p0_dStir, .ref a_p0_dNeed, .int (Int32.ofInt i_p0_told), .int (Int32.ofInt i_p0_highest), .ref a_p0_tape, .int (Int32.ofInt i_p0_taped), .int (Int32.ofInt i_p0_pos), .int (Int32.ofInt i_p0_from), .int (Int32.ofInt i_p0_sort), .int (Int32.ofInt i_p0_value), .int (Int32.ofInt i_p0_fault), .int (Int32.ofInt i_p0_wrongAt), .ref a_p0_places, .ref a_p0_stirred, .ref a_p0_ways, .ref a_p0_waysThen, .ref a_p0_stays, .ref a_p0_fewest, .ref a_p0_bowls, .ref a_p0_has, .ref a_p0_goesOn, .ref a_p0_isThere, .ref a_p0_isThereThen, .ref a_p0_bestRow, .ref a_p0_lanes, .ref a_p0_sizes, .ref a_p0_cells, .int (Int32.ofInt i_p0_torn)])), (a_p0_st, .inl (G 1, 152, .inl (zA v_p0_st))), (a_p0_brings, .inl (G 1, 35, .inl (zA v_p0_brings))), (a_p0_places, .inl (G 1, 7, .inl (zA v_p0_places)))] sz)) 0 0 (va_A [(a_p0, .inr (12, [.ref a_p0_st, .ref a_p0_isKept, .int (Int32.ofInt i_p0_seats), .int (Int32.ofInt i_p0_stirs), .ref a_p0_brings, .ref a_p0_need, .ref a_p0_draft, .int (Int32.ofInt i_p0_dSeats), .int (Int32.ofInt i_p0_dStirs), .ref a_p0_dStir, .ref a_p0_dNeed, .int (Int32.ofInt i_p0_told), .int (Int32.ofInt i_p0_highest), .ref a_p0_tape, .int (Int32.ofInt i_p0_taped), .int (Int32.ofInt i_p0_pos), .int (Int32.ofInt i_p0_from), .int (Int32.ofInt i_p0_sort), .int (Int32.ofInt i_p0_value), .int (Int32.ofInt i_p0_fault), .int (Int32.ofInt i_p0_wrongAt), .ref a_p0_places, .ref a_p0_stirred, .ref a_p0_ways, .ref a_p0_waysThen, .ref a_p0_stays, .ref a_p0_fewest, .ref a_p0_bowls, .ref a_p0_has, .ref a_p0_goesOn, .ref a_p0_isThere, .ref a_p0_isThereThen, .ref a_p0_bestRow, .ref a_p0_lanes, .ref a_p0_sizes, .ref a_p0_cells, .int (Int32.ofInt i_p0_torn)])), (a_p0_st, .inl (G 1, 152, .inl (zA v_p0_st))), (a_p0_brings, .inl (G 1, 35, .inl (zA v_p0_brings))), (a_p0_places, .inl (G 1, 7, .inl (zA v_p0_places)))] sz) := by
  refine Met.ofW (cc := cX12_bowl) (maxL := 4) (ret := (some .int)) (by decide) rfl ?_
  intro p e s m args below meth c s₁ B hml hv
  obtain ⟨rfl, hsz, hP, hK, hD0⟩ := hv
  have hx := B.exec
  have hb := B.bytes
  have hr := B.returns
  have hts := atoms_spec (ws := wsX12_bowl) B.pre
  have hown : s.vm.findClass RX12 = some m.cls := findClass_of_methodNamed B.named
  have hlocks := B.notSynchronized
  subst hsz
  have hD := hD0.self (sz := s.heap.size)
  generalize hAe : va_A [(a_p0, .inr (12, [.ref a_p0_st, .ref a_p0_isKept, .int (Int32.ofInt i_p0_seats), .int (Int32.ofInt i_p0_stirs), .ref a_p0_brings, .ref a_p0_need, .ref a_p0_draft, .int (Int32.ofInt i_p0_dSeats), .int (Int32.ofInt i_p0_dStirs), .ref a_p0_dStir, .ref a_p0_dNeed, .int (Int32.ofInt i_p0_told), .int (Int32.ofInt i_p0_highest), .ref a_p0_tape, .int (Int32.ofInt i_p0_taped), .int (Int32.ofInt i_p0_pos), .int (Int32.ofInt i_p0_from), .int (Int32.ofInt i_p0_sort), .int (Int32.ofInt i_p0_value), .int (Int32.ofInt i_p0_fault), .int (Int32.ofInt i_p0_wrongAt), .ref a_p0_places, .ref a_p0_stirred, .ref a_p0_ways, .ref a_p0_waysThen, .ref a_p0_stays, .ref a_p0_fewest, .ref a_p0_bowls, .ref a_p0_has, .ref a_p0_goesOn, .ref a_p0_isThere, .ref a_p0_isThereThen, .ref a_p0_bestRow, .ref a_p0_lanes, .ref a_p0_sizes, .ref a_p0_cells, .int (Int32.ofInt i_p0_torn)])), (a_p0_st, .inl (G 1, 152, .inl (zA v_p0_st))), (a_p0_brings, .inl (G 1, 35, .inl (zA v_p0_brings))), (a_p0_places, .inl (G 1, 7, .inl (zA v_p0_places)))] s.heap.size = A at hD ⊢
  have hA : ∀ q : Nat, s.heap.size ≤ q → A q := fun q h => by rw [← hAe]; exact Or.inr h
  clear hAe hD0
  have hS : va_S A s.heap s.heap [] := va_S.rf
  have hl := lv_entry ([.ref a_p0, .int (Int32.ofInt x1), .int (Int32.ofInt x2), .int (Int32.ofInt x3)]) (n := 4) (Nat.le_of_ble_eq_true rfl)
  rw [lg_entry_eq]
  generalize (lg_sl ([.ref a_p0, .int (Int32.ofInt x1), .int (Int32.ofInt x2), .int (Int32.ofInt x3)]) ++ List.replicate (4 - (lg_sl ([.ref a_p0, .int (Int32.ofInt x1), .int (Int32.ofInt x2), .int (Int32.ofInt x3)])).length) Slot.unset).toArray = ls at hl ⊢
  have hl : lv_has ls 4 [(0, .ref a_p0), (1, .int (Int32.ofInt x1)), (2, .int (Int32.ofInt x2)), (3, .int (Int32.ofInt x3))] := hl
  refine W_nameQ (fun Q hQ => ?_)
  obtain ⟨H, hH⟩ : ∃ H, H = s.heap := ⟨_, rfl⟩
  replace hS : va_S A s.heap H [] := by rw [hH]; exact hS
  replace hP : va_P D vwCl [(a_p0, .inr (12, [.ref a_p0_st, .ref a_p0_isKept, .int (Int32.ofInt i_p0_seats), .int (Int32.ofInt i_p0_stirs), .ref a_p0_brings, .ref a_p0_need, .ref a_p0_draft, .int (Int32.ofInt i_p0_dSeats), .int (Int32.ofInt i_p0_dStirs), .ref a_p0_dStir, .ref a_p0_dNeed, .int (Int32.ofInt i_p0_told), .int (Int32.ofInt i_p0_highest), .ref a_p0_tape, .int (Int32.ofInt i_p0_taped), .int (Int32.ofInt i_p0_pos), .int (Int32.ofInt i_p0_from), .int (Int32.ofInt i_p0_sort), .int (Int32.ofInt i_p0_value), .int (Int32.ofInt i_p0_fault), .int (Int32.ofInt i_p0_wrongAt), .ref a_p0_places, .ref a_p0_stirred, .ref a_p0_ways, .ref a_p0_waysThen, .ref a_p0_stays, .ref a_p0_fewest, .ref a_p0_bowls, .ref a_p0_has, .ref a_p0_goesOn, .ref a_p0_isThere, .ref a_p0_isThereThen, .ref a_p0_bestRow, .ref a_p0_lanes, .ref a_p0_sizes, .ref a_p0_cells, .int (Int32.ofInt i_p0_torn)])), (a_p0_st, .inl (G 1, 152, .inl (zA v_p0_st))), (a_p0_brings, .inl (G 1, 35, .inl (zA v_p0_brings))), (a_p0_places, .inl (G 1, 7, .inl (zA v_p0_places)))] H := by rw [hH]; exact hP
  rw [← hH]
  clear hH
  unfold f_X12_bowl at hf
  refine lv_aload_n hx hb dX12_bowl_0 rfl (lv_at hl 0 rfl) ?_
  refine lv_iload_n hx hb dX12_bowl_1 rfl (lv_at hl 1 rfl) ?_
  have hq := bd1_s hf
  clear hf
  obtain ⟨z1, hcall, hf⟩ := hq
  refine gnI (va_runV (As := [.int (Int32.ofInt x1)]) (rest := []) ⟨hx, hb, hml, hown, hts⟩ (c_X12_isSeat (l := l) (D := D) (G := G) (sz := H.size) (a_p0 := a_p0) (a_p0_st := a_p0_st) (a_p0_isKept := a_p0_isKept) (a_p0_brings := a_p0_brings) (a_p0_need := a_p0_need) (a_p0_draft := a_p0_draft) (a_p0_dStir := a_p0_dStir) (a_p0_dNeed := a_p0_dNeed) (a_p0_tape := a_p0_tape) (a_p0_places := a_p0_places) (a_p0_stirred := a_p0_stirred) (a_p0_ways := a_p0_ways) (a_p0_waysThen := a_p0_waysThen) (a_p0_stays := a_p0_stays) (a_p0_fewest := a_p0_fewest) (a_p0_bowls := a_p0_bowls) (a_p0_has := a_p0_has) (a_p0_goesOn := a_p0_goesOn) (a_p0_isThere := a_p0_isThere) (a_p0_isThereThen := a_p0_isThereThen) (a_p0_bestRow := a_p0_bestRow) (a_p0_lanes := a_p0_lanes) (a_p0_sizes := a_p0_sizes) (a_p0_cells := a_p0_cells) (i_p0_seats := i_p0_seats) (i_p0_stirs := i_p0_stirs) (i_p0_dSeats := i_p0_dSeats) (i_p0_dStirs := i_p0_dStirs) (i_p0_told := i_p0_told) (i_p0_highest := i_p0_highest) (i_p0_taped := i_p0_taped) (i_p0_pos := i_p0_pos) (i_p0_from := i_p0_from) (i_p0_sort := i_p0_sort) (i_p0_value := i_p0_value) (i_p0_fault := i_p0_fault) (i_p0_wrongAt := i_p0_wrongAt) (i_p0_torn := i_p0_torn) (x1 := x1) (r := z1) (hf := hcall)) (cwV 1 hts gX12_bowl_X12_isSeat rfl rfl rfl hdV_yX12_isSeat_RX12 ⟨Nat.le_of_ble_eq_true rfl, Nat.le_of_ble_eq_true rfl⟩) (preG_V (ci := 12) (q := (RX12, TX12, 37)) (hP.sub [0] rfl) (hD.sub [0] rfl rfl) hK rfl rfl) rfl rfl hl.1 rfl (lv_room (Nat.le_of_ble_eq_true rfl)) dX12_bowl_2 ⟨Nat.le_of_ble_eq_true rfl, Nat.le_of_ble_eq_true rfl⟩) hP hD hS hA [0] rfl (fun H locs hP hD hS => ?_)
  clear hcall
  have hr1 := ck_c hf
  replace hf := ck_r hf
  refine lv_if_eq (tgt := 24) hx hb dX12_bowl_5 (by decide) (fun cc => ?_) (fun cc => ?_)
  ·
    replace hf := ite_t ((z_eq0 hr1).mp cc) hf
    clear cc
    refine lv_iconst (v := Int32.ofInt (-1 : Int)) hx hb dX12_bowl_24 (by decide) ?_
    obtain ⟨rfl, rfl⟩ := ou2 hf
    rw [hQ]
    exact W.iret hx hb hr (fun t ht hW => ⟨⟨_, (), rfl, rfl, by rw [ht]; exact hP, va_K.moved hW.alike hK, hD⟩, hS.F ht⟩) hS.2.2 dX12_bowl_25
  ·
    replace hf := ite_f (fun h9 => cc ((z_eq0 hr1).mpr h9)) hf
    clear cc
    refine lv_aload_n hx hb dX12_bowl_8 rfl (lv_at hl 0 rfl) ?_
    refine lv_iload_n hx hb dX12_bowl_9 rfl (lv_at hl 2 rfl) ?_
    have hq := bd1_s hf
    clear hf
    obtain ⟨z3, hcall, hf⟩ := hq
    refine gnI (va_runV (As := [.int (Int32.ofInt x2)]) (rest := []) ⟨hx, hb, hml, hown, hts⟩ (c_X12_isSeat (l := l) (D := D) (G := G) (sz := H.size) (a_p0 := a_p0) (a_p0_st := a_p0_st) (a_p0_isKept := a_p0_isKept) (a_p0_brings := a_p0_brings) (a_p0_need := a_p0_need) (a_p0_draft := a_p0_draft) (a_p0_dStir := a_p0_dStir) (a_p0_dNeed := a_p0_dNeed) (a_p0_tape := a_p0_tape) (a_p0_places := a_p0_places) (a_p0_stirred := a_p0_stirred) (a_p0_ways := a_p0_ways) (a_p0_waysThen := a_p0_waysThen) (a_p0_stays := a_p0_stays) (a_p0_fewest := a_p0_fewest) (a_p0_bowls := a_p0_bowls) (a_p0_has := a_p0_has) (a_p0_goesOn := a_p0_goesOn) (a_p0_isThere := a_p0_isThere) (a_p0_isThereThen := a_p0_isThereThen) (a_p0_bestRow := a_p0_bestRow) (a_p0_lanes := a_p0_lanes) (a_p0_sizes := a_p0_sizes) (a_p0_cells := a_p0_cells) (i_p0_seats := i_p0_seats) (i_p0_stirs := i_p0_stirs) (i_p0_dSeats := i_p0_dSeats) (i_p0_dStirs := i_p0_dStirs) (i_p0_told := i_p0_told) (i_p0_highest := i_p0_highest) (i_p0_taped := i_p0_taped) (i_p0_pos := i_p0_pos) (i_p0_from := i_p0_from) (i_p0_sort := i_p0_sort) (i_p0_value := i_p0_value) (i_p0_fault := i_p0_fault) (i_p0_wrongAt := i_p0_wrongAt) (i_p0_torn := i_p0_torn) (x1 := x2) (r := z3) (hf := hcall)) (cwV 1 hts gX12_bowl_X12_isSeat rfl rfl rfl hdV_yX12_isSeat_RX12 ⟨Nat.le_of_ble_eq_true rfl, Nat.le_of_ble_eq_true rfl⟩) (preG_V (ci := 12) (q := (RX12, TX12, 37)) (hP.sub [0] rfl) (hD.sub [0] rfl rfl) hK rfl rfl) rfl rfl hl.1 rfl (lv_room (Nat.le_of_ble_eq_true rfl)) dX12_bowl_10 ⟨Nat.le_of_ble_eq_true rfl, Nat.le_of_ble_eq_true rfl⟩) hP hD hS hA [0] rfl (fun H locs hP hD hS => ?_)
    clear hcall
    have hr3 := ck_c hf
    replace hf := ck_r hf
    refine lv_if_eq (tgt := 24) hx hb dX12_bowl_13 (by decide) (fun cc => ?_) (fun cc => ?_)
    ·
      replace hf := ite_t ((z_eq0 hr3).mp cc) hf
      clear cc
      refine lv_iconst (v := Int32.ofInt (-1 : Int)) hx hb dX12_bowl_24 (by decide) ?_
      obtain ⟨rfl, rfl⟩ := ou2 hf
      rw [hQ]
      exact W.iret hx hb hr (fun t ht hW => ⟨⟨_, (), rfl, rfl, by rw [ht]; exact hP, va_K.moved hW.alike hK, hD⟩, hS.F ht⟩) hS.2.2 dX12_bowl_25
    ·
      replace hf := ite_f (fun h9 => cc ((z_eq0 hr3).mpr h9)) hf
      clear cc
      refine lv_aload_n hx hb dX12_bowl_16 rfl (lv_at hl 0 rfl) ?_
      refine lv_iload_n hx hb dX12_bowl_17 rfl (lv_at hl 3 rfl) ?_
      have hq := bd1_s hf
      clear hf
      obtain ⟨z5, hcall, hf⟩ := hq
      refine gnI (va_runV (As := [.int (Int32.ofInt x3)]) (rest := []) ⟨hx, hb, hml, hown, hts⟩ (c_X12_isStir (l := l) (D := D) (G := G) (sz := H.size) (a_p0 := a_p0) (a_p0_st := a_p0_st) (a_p0_isKept := a_p0_isKept) (a_p0_brings := a_p0_brings) (a_p0_need := a_p0_need) (a_p0_draft := a_p0_draft) (a_p0_dStir := a_p0_dStir) (a_p0_dNeed := a_p0_dNeed) (a_p0_tape := a_p0_tape) (a_p0_places := a_p0_places) (a_p0_stirred := a_p0_stirred) (a_p0_ways := a_p0_ways) (a_p0_waysThen := a_p0_waysThen) (a_p0_stays := a_p0_stays) (a_p0_fewest := a_p0_fewest) (a_p0_bowls := a_p0_bowls) (a_p0_has := a_p0_has) (a_p0_goesOn := a_p0_goesOn) (a_p0_isThere := a_p0_isThere) (a_p0_isThereThen := a_p0_isThereThen) (a_p0_bestRow := a_p0_bestRow) (a_p0_lanes := a_p0_lanes) (a_p0_sizes := a_p0_sizes) (a_p0_cells := a_p0_cells) (i_p0_seats := i_p0_seats) (i_p0_stirs := i_p0_stirs) (i_p0_dSeats := i_p0_dSeats) (i_p0_dStirs := i_p0_dStirs) (i_p0_told := i_p0_told) (i_p0_highest := i_p0_highest) (i_p0_taped := i_p0_taped) (i_p0_pos := i_p0_pos) (i_p0_from := i_p0_from) (i_p0_sort := i_p0_sort) (i_p0_value := i_p0_value) (i_p0_fault := i_p0_fault) (i_p0_wrongAt := i_p0_wrongAt) (i_p0_torn := i_p0_torn) (x1 := x3) (r := z5) (hf := hcall)) (cwV 1 hts gX12_bowl_X12_isStir rfl rfl rfl hdV_yX12_isStir_RX12 ⟨Nat.le_of_ble_eq_true rfl, Nat.le_of_ble_eq_true rfl⟩) (preG_V (ci := 12) (q := (RX12, TX12, 37)) (hP.sub [0] rfl) (hD.sub [0] rfl rfl) hK rfl rfl) rfl rfl hl.1 rfl (lv_room (Nat.le_of_ble_eq_true rfl)) dX12_bowl_18 ⟨Nat.le_of_ble_eq_true rfl, Nat.le_of_ble_eq_true rfl⟩) hP hD hS hA [0] rfl (fun H locs hP hD hS => ?_)
      clear hcall
      have hr5 := ck_c hf
      replace hf := ck_r hf
      refine lv_if_ne (tgt := 26) hx hb dX12_bowl_21 (by decide) (fun cc => ?_) (fun cc => ?_)
      ·
        replace hf := ite_f (fun h9 => cc ((z_eq0 hr5).mpr h9)) hf
        clear cc
        refine lv_aload_n hx hb dX12_bowl_26 rfl (lv_at hl 0 rfl) ?_
        refine lv_iload_n hx hb dX12_bowl_27 rfl (lv_at hl 1 rfl) ?_
        have hq := bd1_s hf
        clear hf
        obtain ⟨w7, hcall, hf⟩ := hq
        refine gsV (ws' := [(a_p0, .inr (12, [.ref a_p0_st, .ref a_p0_isKept, .int (Int32.ofInt i_p0_seats), .int (Int32.ofInt i_p0_stirs), .ref a_p0_brings, .ref a_p0_need, .ref a_p0_draft, .int (Int32.ofInt i_p0_dSeats), .int (Int32.ofInt i_p0_dStirs), .ref a_p0_dStir, .ref a_p0_dNeed, .int (Int32.ofInt i_p0_told), .int (Int32.ofInt i_p0_highest), .ref a_p0_tape, .int (Int32.ofInt i_p0_taped), .int (Int32.ofInt i_p0_pos), .int (Int32.ofInt i_p0_from), .int (Int32.ofInt i_p0_sort), .int (Int32.ofInt i_p0_value), .int (Int32.ofInt i_p0_fault), .int (Int32.ofInt i_p0_wrongAt), .ref a_p0_places, .ref a_p0_stirred, .ref a_p0_ways, .ref a_p0_waysThen, .ref a_p0_stays, .ref a_p0_fewest, .ref a_p0_bowls, .ref a_p0_has, .ref a_p0_goesOn, .ref a_p0_isThere, .ref a_p0_isThereThen, .ref a_p0_bestRow, .ref a_p0_lanes, .ref a_p0_sizes, .ref a_p0_cells, .int (Int32.ofInt i_p0_torn)])), (a_p0_st, .inl (G 1, 152, .inl (zA v_p0_st))), (a_p0_brings, .inl (G 1, 35, .inl (zA v_p0_brings))), (a_p0_places, .inl (G 1, 7, .inl (zA w7)))]) (va_runV (As := [.int (Int32.ofInt x1)]) (rest := []) ⟨hx, hb, hml, hown, hts⟩ (c_X12_findPlaces (l := l) (D := D) (G := G) (sz := H.size) (a_p0 := a_p0) (a_p0_st := a_p0_st) (a_p0_isKept := a_p0_isKept) (a_p0_brings := a_p0_brings) (a_p0_need := a_p0_need) (a_p0_draft := a_p0_draft) (a_p0_dStir := a_p0_dStir) (a_p0_dNeed := a_p0_dNeed) (a_p0_tape := a_p0_tape) (a_p0_places := a_p0_places) (a_p0_stirred := a_p0_stirred) (a_p0_ways := a_p0_ways) (a_p0_waysThen := a_p0_waysThen) (a_p0_stays := a_p0_stays) (a_p0_fewest := a_p0_fewest) (a_p0_bowls := a_p0_bowls) (a_p0_has := a_p0_has) (a_p0_goesOn := a_p0_goesOn) (a_p0_isThere := a_p0_isThere) (a_p0_isThereThen := a_p0_isThereThen) (a_p0_bestRow := a_p0_bestRow) (a_p0_lanes := a_p0_lanes) (a_p0_sizes := a_p0_sizes) (a_p0_cells := a_p0_cells) (i_p0_seats := i_p0_seats) (i_p0_stirs := i_p0_stirs) (i_p0_dSeats := i_p0_dSeats) (i_p0_dStirs := i_p0_dStirs) (i_p0_told := i_p0_told) (i_p0_highest := i_p0_highest) (i_p0_taped := i_p0_taped) (i_p0_pos := i_p0_pos) (i_p0_from := i_p0_from) (i_p0_sort := i_p0_sort) (i_p0_value := i_p0_value) (i_p0_fault := i_p0_fault) (i_p0_wrongAt := i_p0_wrongAt) (i_p0_torn := i_p0_torn) (v_p0_st := v_p0_st) (v_p0_places := v_p0_places) (x1 := x1) (o_v_p0_places := w7) (hf := hcall)) (cwV 1 hts gX12_bowl_X12_findPlaces rfl rfl rfl hdV_yX12_findPlaces_RX12 ⟨Nat.le_of_ble_eq_true rfl, Nat.le_of_ble_eq_true rfl⟩) (preG_V (ci := 12) (q := (RX12, TX12, 37)) (hP.sub [0, 1, 3] rfl) (hD.sub [0, 1, 3] rfl rfl) hK rfl rfl) rfl rfl hl.1 rfl (lv_room (Nat.le_of_ble_eq_true rfl)) dX12_bowl_28 ⟨Nat.le_of_ble_eq_true rfl, Nat.le_of_ble_eq_true rfl⟩) hP hD hS hA [0, 1, 3] rfl rfl rfl (fun H locs hP hD hS => ?_)
        clear hcall
        refine lv_aload_n hx hb dX12_bowl_31 rfl (lv_at hl 0 rfl) ?_
        refine va_get (D := D) (ci := 12) (v := .ref a_p0_st) (C := RX12) (T := TX12) (N := 37) hx hb hts inX12_bowl_X12 hown hK hP 0 rfl rfl 0 (by decide) (hts _ mwX12_bowl_1) (fun _ h9 => h9) rfl dX12_bowl_32 ?_
        refine lv_aload_n hx hb dX12_bowl_35 rfl (lv_at hl 0 rfl) ?_
        refine lv_iload_n hx hb dX12_bowl_36 rfl (lv_at hl 3 rfl) ?_
        refine lv_aload_n hx hb dX12_bowl_37 rfl (lv_at hl 0 rfl) ?_
        refine va_get (D := D) (ci := 12) (v := .ref a_p0_places) (C := RX12) (T := TX12) (N := 37) hx hb hts inX12_bowl_X12 hown hK hP 0 rfl rfl 21 (by decide) (hts _ mwX12_bowl_2) (fun _ h9 => h9) rfl dX12_bowl_38 ?_
        refine lv_iload_n hx hb dX12_bowl_41 rfl (lv_at hl 2 rfl) ?_
        have hc := ck_c hf
        replace hf := ck_r hf
        refine va_iald hx hb hK hP 3 1 rfl rfl (z_ix_in hc) dX12_bowl_42 (z_ci (z_ald w7 hc) ?_)
        clear hc
        have hq := bd1_s hf
        clear hf
        obtain ⟨z8, hcall, hf⟩ := hq
        refine gnI (va_runV (As := [.int (Int32.ofInt x3), .int (Int32.ofInt (w7 x2))]) (rest := [.ref a_p0_st]) ⟨hx, hb, hml, hown, hts⟩ (c_X12_cameFrom (l := l) (D := D) (G := G) (sz := H.size) (a_p0 := a_p0) (a_p0_st := a_p0_st) (a_p0_isKept := a_p0_isKept) (a_p0_brings := a_p0_brings) (a_p0_need := a_p0_need) (a_p0_draft := a_p0_draft) (a_p0_dStir := a_p0_dStir) (a_p0_dNeed := a_p0_dNeed) (a_p0_tape := a_p0_tape) (a_p0_places := a_p0_places) (a_p0_stirred := a_p0_stirred) (a_p0_ways := a_p0_ways) (a_p0_waysThen := a_p0_waysThen) (a_p0_stays := a_p0_stays) (a_p0_fewest := a_p0_fewest) (a_p0_bowls := a_p0_bowls) (a_p0_has := a_p0_has) (a_p0_goesOn := a_p0_goesOn) (a_p0_isThere := a_p0_isThere) (a_p0_isThereThen := a_p0_isThereThen) (a_p0_bestRow := a_p0_bestRow) (a_p0_lanes := a_p0_lanes) (a_p0_sizes := a_p0_sizes) (a_p0_cells := a_p0_cells) (i_p0_seats := i_p0_seats) (i_p0_stirs := i_p0_stirs) (i_p0_dSeats := i_p0_dSeats) (i_p0_dStirs := i_p0_dStirs) (i_p0_told := i_p0_told) (i_p0_highest := i_p0_highest) (i_p0_taped := i_p0_taped) (i_p0_pos := i_p0_pos) (i_p0_from := i_p0_from) (i_p0_sort := i_p0_sort) (i_p0_value := i_p0_value) (i_p0_fault := i_p0_fault) (i_p0_wrongAt := i_p0_wrongAt) (i_p0_torn := i_p0_torn) (v_p0_brings := v_p0_brings) (x1 := x3) (x2 := (w7 x2)) (r := z8) (hf := hcall)) (cwV 2 hts gX12_bowl_X12_cameFrom rfl rfl rfl hdV_yX12_cameFrom_RX12 ⟨Nat.le_of_ble_eq_true rfl, Nat.le_of_ble_eq_true rfl⟩) (preG_V (ci := 12) (q := (RX12, TX12, 37)) (hP.sub [0, 2] rfl) (hD.sub [0, 2] rfl rfl) hK rfl rfl) rfl rfl hl.1 rfl (lv_room (Nat.le_of_ble_eq_true rfl)) dX12_bowl_43 ⟨Nat.le_of_ble_eq_true rfl, Nat.le_of_ble_eq_true rfl⟩) hP hD hS hA [0, 2] rfl (fun H locs hP hD hS => ?_)
        clear hcall
        have hc := ck_c hf
        replace hf := ck_r hf
        refine va_iald hx hb hK hP 1 1 rfl rfl (z_ix_in hc) dX12_bowl_46 (z_ci (z_ald v_p0_st hc) ?_)
        clear hc
        obtain ⟨rfl, rfl⟩ := ou2 hf
        rw [hQ]
        exact W.iret hx hb hr (fun t ht hW => ⟨⟨_, (), rfl, rfl, by rw [ht]; exact hP, va_K.moved hW.alike hK, hD⟩, hS.F ht⟩) hS.2.2 dX12_bowl_47
      ·
        replace hf := ite_t ((z_eq0 hr5).mp cc) hf
        clear cc
        refine lv_iconst (v := Int32.ofInt (-1 : Int)) hx hb dX12_bowl_24 (by decide) ?_
        obtain ⟨rfl, rfl⟩ := ou2 hf
        rw [hQ]
        exact W.iret hx hb hr (fun t ht hW => ⟨⟨_, (), rfl, rfl, by rw [ht]; exact hP, va_K.moved hW.alike hK, hD⟩, hS.F ht⟩) hS.2.2 dX12_bowl_25

noncomputable def f_X12_ladle (i_p0_seats : Int) (i_p0_stirs : Int) (v_p0_st : (Int → Int)) (v_p0_places : (Int → Int)) (x1 : Int) (x2 : Int) (x3 : Int) : Option (Int × (Int → Int)) := (bd1 (f_X12_isSeat i_p0_seats x1) (fun (z1 : Int) => (ck (z_r32 z1) (if z1 = (0 : Int) then (some ((-1 : Int), v_p0_places)) else (bd1 (f_X12_isSeat i_p0_seats x2) (fun (z3 : Int) => (ck (z_r32 z3) (if z3 = (0 : Int) then (some ((-1 : Int), v_p0_places)) else (bd1 (f_X12_isStir i_p0_stirs x3) (fun (z5 : Int) => (ck (z_r32 z5) (if z5 = (0 : Int) then (some ((-1 : Int), v_p0_places)) else (bd1 (f_X12_findPlaces i_p0_seats v_p0_st v_p0_places x1) (fun (w7 : (Int → Int)) => (ck (z_ix x2 7) (some ((w7 x2), w7)))))))))))))))))
abbrev rm_X12_ladle : Room := { frames := 2, cells := 0, slots := 0, locals := 46 }
theorem inX12_ladle_X12 : ∀ w ∈ wsX120, w ∈ wsX12_ladle := by first | exact fun w h => List.mem_cons_of_mem _ (List.mem_append_right _ h) | decide +kernel
theorem mwX12_ladle_1 : Cond.fieldLink RX12 35 "LadleKingsModel" "places" "[I" ∈ wsX12_ladle := by first | exact List.mem_of_getElem? (i := 1) rfl | decide +kernel
set_option maxHeartbeats 8000000 in
set_option maxRecDepth 100000 in
theorem c_X12_ladle (l : Launch) (D : va_G) (G : Nat → ClassId) (sz : Nat) (a_p0 : Nat) (a_p0_st : Nat) (a_p0_isKept : Nat) (a_p0_brings : Nat) (a_p0_need : Nat) (a_p0_draft : Nat) (a_p0_dStir : Nat) (a_p0_dNeed : Nat) (a_p0_tape : Nat) (a_p0_places : Nat) (a_p0_stirred : Nat) (a_p0_ways : Nat) (a_p0_waysThen : Nat) (a_p0_stays : Nat) (a_p0_fewest : Nat) (a_p0_bowls : Nat) (a_p0_has : Nat) (a_p0_goesOn : Nat) (a_p0_isThere : Nat) (a_p0_isThereThen : Nat) (a_p0_bestRow : Nat) (a_p0_lanes : Nat) (a_p0_sizes : Nat) (a_p0_cells : Nat) (i_p0_seats : Int) (i_p0_stirs : Int) (i_p0_dSeats : Int) (i_p0_dStirs : Int) (i_p0_told : Int) (i_p0_highest : Int) (i_p0_taped : Int) (i_p0_pos : Int) (i_p0_from : Int) (i_p0_sort : Int) (i_p0_value : Int) (i_p0_fault : Int) (i_p0_wrongAt : Int) (i_p0_torn : Int) (v_p0_st : (Int → Int)) (v_p0_places : (Int → Int)) (x1 : Int) (x2 : Int) (x3 : Int) (r : Int) (o_v_p0_places : (Int → Int)) (hf : f_X12_ladle i_p0_seats i_p0_stirs v_p0_st v_p0_places x1 x2 x3 = some (r, o_v_p0_places)) : Met l yX12_ladle wsX12_ladle rm_X12_ladle (pcG D G [.ref a_p0, .int (Int32.ofInt x1), .int (Int32.ofInt x2), .int (Int32.ofInt x3)] sz [(a_p0, .inr (12, [.ref a_p0_st, .ref a_p0_isKept, .int (Int32.ofInt i_p0_seats), .int (Int32.ofInt i_p0_stirs), .ref a_p0_brings, .ref a_p0_need, .ref a_p0_draft, .int (Int32.ofInt i_p0_dSeats), .int (Int32.ofInt i_p0_dStirs), .ref a_p0_dStir, .ref a_p0_dNeed, .int (Int32.ofInt i_p0_told), .int (Int32.ofInt i_p0_highest), .ref a_p0_tape, .int (Int32.ofInt i_p0_taped), .int (Int32.ofInt i_p0_pos), .int (Int32.ofInt i_p0_from), .int (Int32.ofInt i_p0_sort), .int (Int32.ofInt i_p0_value), .int (Int32.ofInt i_p0_fault), .int (Int32.ofInt i_p0_wrongAt), .ref a_p0_places, .ref a_p0_stirred, .ref a_p0_ways, .ref a_p0_waysThen, .ref a_p0_stays, .ref a_p0_fewest, .ref a_p0_bowls, .ref a_p0_has, .ref a_p0_goesOn, .ref a_p0_isThere, .ref a_p0_isThereThen, .ref a_p0_bestRow, .ref a_p0_lanes, .ref a_p0_sizes, .ref a_p0_cells, .int (Int32.ofInt i_p0_torn)])), (a_p0_st, .inl (G 1, 152, .inl (zA v_p0_st))), (a_p0_places, .inl (G 1, 7, .inl (zA v_p0_places)))]) (qcI D G (Int32.ofInt r) [(a_p0, .inr (12, [.ref a_p0_st, .ref a_p0_isKept, .int (Int32.ofInt i_p0_seats), .int (Int32.ofInt i_p0_stirs), .ref a_p0_brings, .ref a_p0_need, .ref a_p0_draft, .int (Int32.ofInt i_p0_dSeats), .int (Int32.ofInt i_p0_dStirs), .ref a_p0_dStir, .ref a_p0_dNeed, .int (Int32.ofInt i_p0_told), .int (Int32.ofInt i_p0_highest), .ref a_p0_tape, .int (Int32.ofInt i_p0_taped), .int (Int32.ofInt i_p0_pos), .int (Int32.ofInt i_p0_from), .int (Int32.ofInt i_p0_sort), .int (Int32.ofInt i_p0_value), .int (Int32.ofInt i_p0_fault), .int (Int32.ofInt i_p0_wrongAt), .ref a_p0_places, .ref a_p0_stirred, .ref a_p0_ways, .ref a_p0_waysThen, .ref a_p0_stays, .ref a_p0_fewest, .ref a_p0_bowls, .ref a_p0_has, .ref a_p0_goesOn, .ref a_p0_isThere, .ref a_p0_isThereThen, .ref a_p0_bestRow, .ref a_p0_lanes, .ref a_p0_sizes, .ref a_p0_cells, .int (Int32.ofInt i_p0_torn)])), (a_p0_st, .inl (G 1, 152, .inl (zA v_p0_st))), (a_p0_places, .inl (G 1, 7, .inl (zA o_v_p0_places)))] (va_A [(a_p0, .inr (12, [.ref a_p0_st, .ref a_p0_isKept, .int (Int32.ofInt i_p0_seats), .int (Int32.ofInt i_p0_stirs), .ref a_p0_brings, .ref a_p0_need, .ref a_p0_draft, .int (Int32.ofInt i_p0_dSeats), .int (Int32.ofInt i_p0_dStirs), .ref a_p0_dStir, .ref a_p0_dNeed, .int (Int32.ofInt i_p0_told), .int (Int32.ofInt i_p0_highest), .ref a_p0_tape, .int (Int32.ofInt i_p0_taped), .int (Int32.ofInt i_p0_pos), .int (Int32.ofInt i_p0_from), .int (Int32.ofInt i_p0_sort), .int (Int32.ofInt i_p0_value), .int (Int32.ofInt i_p0_fault), .int (Int32.ofInt i_p0_wrongAt), .ref a_p0_places, .ref a_p0_stirred, .ref a_p0_ways, .ref a_p0_waysThen, .ref a_p0_stays, .ref a_p0_fewest, .ref a_p0_bowls, .ref a_p0_has, .ref a_p0_goesOn, .ref a_p0_isThere, .ref a_p0_isThereThen, .ref a_p0_bestRow, .ref a_p0_lanes, .ref a_p0_sizes, .ref a_p0_cells, .int (Int32.ofInt i_p0_torn)])), (a_p0_st, .inl (G 1, 152, .inl (zA v_p0_st))), (a_p0_places, .inl (G 1, 7, .inl (zA v_p0_places)))] sz)) 0 0 (va_A [(a_p0, .inr (12, [.ref a_p0_st, .ref a_p0_isKept, .int (Int32.ofInt i_p0_seats), .int (Int32.ofInt i_p0_stirs), .ref a_p0_brings, .ref a_p0_need, .ref a_p0_draft, .int (Int32.ofInt i_p0_dSeats), .int (Int32.ofInt i_p0_dStirs), .ref a_p0_dStir, .ref a_p0_dNeed, .int (Int32.ofInt i_p0_told), .int (Int32.ofInt i_p0_highest), .ref a_p0_tape, .int (Int32.ofInt i_p0_taped), .int (Int32.ofInt i_p0_pos), .int (Int32.ofInt i_p0_from), .int (Int32.ofInt i_p0_sort), .int (Int32.ofInt i_p0_value), .int (Int32.ofInt i_p0_fault), .int (Int32.ofInt i_p0_wrongAt), .ref a_p0_places, .ref a_p0_stirred, .ref a_p0_ways, .ref a_p0_waysThen, .ref a_p0_stays, .ref a_p0_fewest, .ref a_p0_bowls, .ref a_p0_has, .ref a_p0_goesOn, .ref a_p0_isThere, .ref a_p0_isThereThen, .ref a_p0_bestRow, .ref a_p0_lanes, .ref a_p0_sizes, .ref a_p0_cells, .int (Int32.ofInt i_p0_torn)])), (a_p0_st, .inl (G 1, 152, .inl (zA v_p0_st))), (a_p0_places, .inl (G 1, 7, .inl (zA v_p0_places)))] sz) := by
  refine Met.ofW (cc := cX12_ladle) (maxL := 4) (ret := (some .int)) (by decide) rfl ?_
  intro p e s m args below meth c s₁ B hml hv
  obtain ⟨rfl, hsz, hP, hK, hD0⟩ := hv
  have hx := B.exec
  have hb := B.bytes
  have hr := B.returns
  have hts := atoms_spec (ws := wsX12_ladle) B.pre
  have hown : s.vm.findClass RX12 = some m.cls := findClass_of_methodNamed B.named
  have hlocks := B.notSynchronized
  subst hsz
  have hD := hD0.self (sz := s.heap.size)
  generalize hAe : va_A [(a_p0, .inr (12, [.ref a_p0_st, .ref a_p0_isKept, .int (Int32.ofInt i_p0_seats), .int (Int32.ofInt i_p0_stirs), .ref a_p0_brings, .ref a_p0_need, .ref a_p0_draft, .int (Int32.ofInt i_p0_dSeats), .int (Int32.ofInt i_p0_dStirs), .ref a_p0_dStir, .ref a_p0_dNeed, .int (Int32.ofInt i_p0_told), .int (Int32.ofInt i_p0_highest), .ref a_p0_tape, .int (Int32.ofInt i_p0_taped), .int (Int32.ofInt i_p0_pos), .int (Int32.ofInt i_p0_from), .int (Int32.ofInt i_p0_sort), .int (Int32.ofInt i_p0_value), .int (Int32.ofInt i_p0_fault), .int (Int32.ofInt i_p0_wrongAt), .ref a_p0_places, .ref a_p0_stirred, .ref a_p0_ways, .ref a_p0_waysThen, .ref a_p0_stays, .ref a_p0_fewest, .ref a_p0_bowls, .ref a_p0_has, .ref a_p0_goesOn, .ref a_p0_isThere, .ref a_p0_isThereThen, .ref a_p0_bestRow, .ref a_p0_lanes, .ref a_p0_sizes, .ref a_p0_cells, .int (Int32.ofInt i_p0_torn)])), (a_p0_st, .inl (G 1, 152, .inl (zA v_p0_st))), (a_p0_places, .inl (G 1, 7, .inl (zA v_p0_places)))] s.heap.size = A at hD ⊢
  have hA : ∀ q : Nat, s.heap.size ≤ q → A q := fun q h => by rw [← hAe]; exact Or.inr h
  clear hAe hD0
  have hS : va_S A s.heap s.heap [] := va_S.rf
  have hl := lv_entry ([.ref a_p0, .int (Int32.ofInt x1), .int (Int32.ofInt x2), .int (Int32.ofInt x3)]) (n := 4) (Nat.le_of_ble_eq_true rfl)
  rw [lg_entry_eq]
  generalize (lg_sl ([.ref a_p0, .int (Int32.ofInt x1), .int (Int32.ofInt x2), .int (Int32.ofInt x3)]) ++ List.replicate (4 - (lg_sl ([.ref a_p0, .int (Int32.ofInt x1), .int (Int32.ofInt x2), .int (Int32.ofInt x3)])).length) Slot.unset).toArray = ls at hl ⊢
  have hl : lv_has ls 4 [(0, .ref a_p0), (1, .int (Int32.ofInt x1)), (2, .int (Int32.ofInt x2)), (3, .int (Int32.ofInt x3))] := hl
  refine W_nameQ (fun Q hQ => ?_)
  obtain ⟨H, hH⟩ : ∃ H, H = s.heap := ⟨_, rfl⟩
  replace hS : va_S A s.heap H [] := by rw [hH]; exact hS
  replace hP : va_P D vwCl [(a_p0, .inr (12, [.ref a_p0_st, .ref a_p0_isKept, .int (Int32.ofInt i_p0_seats), .int (Int32.ofInt i_p0_stirs), .ref a_p0_brings, .ref a_p0_need, .ref a_p0_draft, .int (Int32.ofInt i_p0_dSeats), .int (Int32.ofInt i_p0_dStirs), .ref a_p0_dStir, .ref a_p0_dNeed, .int (Int32.ofInt i_p0_told), .int (Int32.ofInt i_p0_highest), .ref a_p0_tape, .int (Int32.ofInt i_p0_taped), .int (Int32.ofInt i_p0_pos), .int (Int32.ofInt i_p0_from), .int (Int32.ofInt i_p0_sort), .int (Int32.ofInt i_p0_value), .int (Int32.ofInt i_p0_fault), .int (Int32.ofInt i_p0_wrongAt), .ref a_p0_places, .ref a_p0_stirred, .ref a_p0_ways, .ref a_p0_waysThen, .ref a_p0_stays, .ref a_p0_fewest, .ref a_p0_bowls, .ref a_p0_has, .ref a_p0_goesOn, .ref a_p0_isThere, .ref a_p0_isThereThen, .ref a_p0_bestRow, .ref a_p0_lanes, .ref a_p0_sizes, .ref a_p0_cells, .int (Int32.ofInt i_p0_torn)])), (a_p0_st, .inl (G 1, 152, .inl (zA v_p0_st))), (a_p0_places, .inl (G 1, 7, .inl (zA v_p0_places)))] H := by rw [hH]; exact hP
  rw [← hH]
  clear hH
  unfold f_X12_ladle at hf
  refine lv_aload_n hx hb dX12_ladle_0 rfl (lv_at hl 0 rfl) ?_
  refine lv_iload_n hx hb dX12_ladle_1 rfl (lv_at hl 1 rfl) ?_
  have hq := bd1_s hf
  clear hf
  obtain ⟨z1, hcall, hf⟩ := hq
  refine gnI (va_runV (As := [.int (Int32.ofInt x1)]) (rest := []) ⟨hx, hb, hml, hown, hts⟩ (c_X12_isSeat (l := l) (D := D) (G := G) (sz := H.size) (a_p0 := a_p0) (a_p0_st := a_p0_st) (a_p0_isKept := a_p0_isKept) (a_p0_brings := a_p0_brings) (a_p0_need := a_p0_need) (a_p0_draft := a_p0_draft) (a_p0_dStir := a_p0_dStir) (a_p0_dNeed := a_p0_dNeed) (a_p0_tape := a_p0_tape) (a_p0_places := a_p0_places) (a_p0_stirred := a_p0_stirred) (a_p0_ways := a_p0_ways) (a_p0_waysThen := a_p0_waysThen) (a_p0_stays := a_p0_stays) (a_p0_fewest := a_p0_fewest) (a_p0_bowls := a_p0_bowls) (a_p0_has := a_p0_has) (a_p0_goesOn := a_p0_goesOn) (a_p0_isThere := a_p0_isThere) (a_p0_isThereThen := a_p0_isThereThen) (a_p0_bestRow := a_p0_bestRow) (a_p0_lanes := a_p0_lanes) (a_p0_sizes := a_p0_sizes) (a_p0_cells := a_p0_cells) (i_p0_seats := i_p0_seats) (i_p0_stirs := i_p0_stirs) (i_p0_dSeats := i_p0_dSeats) (i_p0_dStirs := i_p0_dStirs) (i_p0_told := i_p0_told) (i_p0_highest := i_p0_highest) (i_p0_taped := i_p0_taped) (i_p0_pos := i_p0_pos) (i_p0_from := i_p0_from) (i_p0_sort := i_p0_sort) (i_p0_value := i_p0_value) (i_p0_fault := i_p0_fault) (i_p0_wrongAt := i_p0_wrongAt) (i_p0_torn := i_p0_torn) (x1 := x1) (r := z1) (hf := hcall)) (cwV 1 hts gX12_ladle_X12_isSeat rfl rfl rfl hdV_yX12_isSeat_RX12 ⟨Nat.le_of_ble_eq_true rfl, Nat.le_of_ble_eq_true rfl⟩) (preG_V (ci := 12) (q := (RX12, TX12, 37)) (hP.sub [0] rfl) (hD.sub [0] rfl rfl) hK rfl rfl) rfl rfl hl.1 rfl (lv_room (Nat.le_of_ble_eq_true rfl)) dX12_ladle_2 ⟨Nat.le_of_ble_eq_true rfl, Nat.le_of_ble_eq_true rfl⟩) hP hD hS hA [0] rfl (fun H locs hP hD hS => ?_)
  clear hcall
  have hr1 := ck_c hf
  replace hf := ck_r hf
  refine lv_if_eq (tgt := 24) hx hb dX12_ladle_5 (by decide) (fun cc => ?_) (fun cc => ?_)
  ·
    replace hf := ite_t ((z_eq0 hr1).mp cc) hf
    clear cc
    refine lv_iconst (v := Int32.ofInt (-1 : Int)) hx hb dX12_ladle_24 (by decide) ?_
    obtain ⟨rfl, rfl⟩ := ou2 hf
    rw [hQ]
    exact W.iret hx hb hr (fun t ht hW => ⟨⟨_, (), rfl, rfl, by rw [ht]; exact hP, va_K.moved hW.alike hK, hD⟩, hS.F ht⟩) hS.2.2 dX12_ladle_25
  ·
    replace hf := ite_f (fun h9 => cc ((z_eq0 hr1).mpr h9)) hf
    clear cc
    refine lv_aload_n hx hb dX12_ladle_8 rfl (lv_at hl 0 rfl) ?_
    refine lv_iload_n hx hb dX12_ladle_9 rfl (lv_at hl 2 rfl) ?_
    have hq := bd1_s hf
    clear hf
    obtain ⟨z3, hcall, hf⟩ := hq
    refine gnI (va_runV (As := [.int (Int32.ofInt x2)]) (rest := []) ⟨hx, hb, hml, hown, hts⟩ (c_X12_isSeat (l := l) (D := D) (G := G) (sz := H.size) (a_p0 := a_p0) (a_p0_st := a_p0_st) (a_p0_isKept := a_p0_isKept) (a_p0_brings := a_p0_brings) (a_p0_need := a_p0_need) (a_p0_draft := a_p0_draft) (a_p0_dStir := a_p0_dStir) (a_p0_dNeed := a_p0_dNeed) (a_p0_tape := a_p0_tape) (a_p0_places := a_p0_places) (a_p0_stirred := a_p0_stirred) (a_p0_ways := a_p0_ways) (a_p0_waysThen := a_p0_waysThen) (a_p0_stays := a_p0_stays) (a_p0_fewest := a_p0_fewest) (a_p0_bowls := a_p0_bowls) (a_p0_has := a_p0_has) (a_p0_goesOn := a_p0_goesOn) (a_p0_isThere := a_p0_isThere) (a_p0_isThereThen := a_p0_isThereThen) (a_p0_bestRow := a_p0_bestRow) (a_p0_lanes := a_p0_lanes) (a_p0_sizes := a_p0_sizes) (a_p0_cells := a_p0_cells) (i_p0_seats := i_p0_seats) (i_p0_stirs := i_p0_stirs) (i_p0_dSeats := i_p0_dSeats) (i_p0_dStirs := i_p0_dStirs) (i_p0_told := i_p0_told) (i_p0_highest := i_p0_highest) (i_p0_taped := i_p0_taped) (i_p0_pos := i_p0_pos) (i_p0_from := i_p0_from) (i_p0_sort := i_p0_sort) (i_p0_value := i_p0_value) (i_p0_fault := i_p0_fault) (i_p0_wrongAt := i_p0_wrongAt) (i_p0_torn := i_p0_torn) (x1 := x2) (r := z3) (hf := hcall)) (cwV 1 hts gX12_ladle_X12_isSeat rfl rfl rfl hdV_yX12_isSeat_RX12 ⟨Nat.le_of_ble_eq_true rfl, Nat.le_of_ble_eq_true rfl⟩) (preG_V (ci := 12) (q := (RX12, TX12, 37)) (hP.sub [0] rfl) (hD.sub [0] rfl rfl) hK rfl rfl) rfl rfl hl.1 rfl (lv_room (Nat.le_of_ble_eq_true rfl)) dX12_ladle_10 ⟨Nat.le_of_ble_eq_true rfl, Nat.le_of_ble_eq_true rfl⟩) hP hD hS hA [0] rfl (fun H locs hP hD hS => ?_)
    clear hcall
    have hr3 := ck_c hf
    replace hf := ck_r hf
    refine lv_if_eq (tgt := 24) hx hb dX12_ladle_13 (by decide) (fun cc => ?_) (fun cc => ?_)
    ·
      replace hf := ite_t ((z_eq0 hr3).mp cc) hf
      clear cc
      refine lv_iconst (v := Int32.ofInt (-1 : Int)) hx hb dX12_ladle_24 (by decide) ?_
      obtain ⟨rfl, rfl⟩ := ou2 hf
      rw [hQ]
      exact W.iret hx hb hr (fun t ht hW => ⟨⟨_, (), rfl, rfl, by rw [ht]; exact hP, va_K.moved hW.alike hK, hD⟩, hS.F ht⟩) hS.2.2 dX12_ladle_25
    ·
      replace hf := ite_f (fun h9 => cc ((z_eq0 hr3).mpr h9)) hf
      clear cc
      refine lv_aload_n hx hb dX12_ladle_16 rfl (lv_at hl 0 rfl) ?_
      refine lv_iload_n hx hb dX12_ladle_17 rfl (lv_at hl 3 rfl) ?_
      have hq := bd1_s hf
      clear hf
      obtain ⟨z5, hcall, hf⟩ := hq
      refine gnI (va_runV (As := [.int (Int32.ofInt x3)]) (rest := []) ⟨hx, hb, hml, hown, hts⟩ (c_X12_isStir (l := l) (D := D) (G := G) (sz := H.size) (a_p0 := a_p0) (a_p0_st := a_p0_st) (a_p0_isKept := a_p0_isKept) (a_p0_brings := a_p0_brings) (a_p0_need := a_p0_need) (a_p0_draft := a_p0_draft) (a_p0_dStir := a_p0_dStir) (a_p0_dNeed := a_p0_dNeed) (a_p0_tape := a_p0_tape) (a_p0_places := a_p0_places) (a_p0_stirred := a_p0_stirred) (a_p0_ways := a_p0_ways) (a_p0_waysThen := a_p0_waysThen) (a_p0_stays := a_p0_stays) (a_p0_fewest := a_p0_fewest) (a_p0_bowls := a_p0_bowls) (a_p0_has := a_p0_has) (a_p0_goesOn := a_p0_goesOn) (a_p0_isThere := a_p0_isThere) (a_p0_isThereThen := a_p0_isThereThen) (a_p0_bestRow := a_p0_bestRow) (a_p0_lanes := a_p0_lanes) (a_p0_sizes := a_p0_sizes) (a_p0_cells := a_p0_cells) (i_p0_seats := i_p0_seats) (i_p0_stirs := i_p0_stirs) (i_p0_dSeats := i_p0_dSeats) (i_p0_dStirs := i_p0_dStirs) (i_p0_told := i_p0_told) (i_p0_highest := i_p0_highest) (i_p0_taped := i_p0_taped) (i_p0_pos := i_p0_pos) (i_p0_from := i_p0_from) (i_p0_sort := i_p0_sort) (i_p0_value := i_p0_value) (i_p0_fault := i_p0_fault) (i_p0_wrongAt := i_p0_wrongAt) (i_p0_torn := i_p0_torn) (x1 := x3) (r := z5) (hf := hcall)) (cwV 1 hts gX12_ladle_X12_isStir rfl rfl rfl hdV_yX12_isStir_RX12 ⟨Nat.le_of_ble_eq_true rfl, Nat.le_of_ble_eq_true rfl⟩) (preG_V (ci := 12) (q := (RX12, TX12, 37)) (hP.sub [0] rfl) (hD.sub [0] rfl rfl) hK rfl rfl) rfl rfl hl.1 rfl (lv_room (Nat.le_of_ble_eq_true rfl)) dX12_ladle_18 ⟨Nat.le_of_ble_eq_true rfl, Nat.le_of_ble_eq_true rfl⟩) hP hD hS hA [0] rfl (fun H locs hP hD hS => ?_)
      clear hcall
      have hr5 := ck_c hf
      replace hf := ck_r hf
      refine lv_if_ne (tgt := 26) hx hb dX12_ladle_21 (by decide) (fun cc => ?_) (fun cc => ?_)
      ·
        replace hf := ite_f (fun h9 => cc ((z_eq0 hr5).mpr h9)) hf
        clear cc
        refine lv_aload_n hx hb dX12_ladle_26 rfl (lv_at hl 0 rfl) ?_
        refine lv_iload_n hx hb dX12_ladle_27 rfl (lv_at hl 1 rfl) ?_
        have hq := bd1_s hf
        clear hf
        obtain ⟨w7, hcall, hf⟩ := hq
        refine gsV (ws' := [(a_p0, .inr (12, [.ref a_p0_st, .ref a_p0_isKept, .int (Int32.ofInt i_p0_seats), .int (Int32.ofInt i_p0_stirs), .ref a_p0_brings, .ref a_p0_need, .ref a_p0_draft, .int (Int32.ofInt i_p0_dSeats), .int (Int32.ofInt i_p0_dStirs), .ref a_p0_dStir, .ref a_p0_dNeed, .int (Int32.ofInt i_p0_told), .int (Int32.ofInt i_p0_highest), .ref a_p0_tape, .int (Int32.ofInt i_p0_taped), .int (Int32.ofInt i_p0_pos), .int (Int32.ofInt i_p0_from), .int (Int32.ofInt i_p0_sort), .int (Int32.ofInt i_p0_value), .int (Int32.ofInt i_p0_fault), .int (Int32.ofInt i_p0_wrongAt), .ref a_p0_places, .ref a_p0_stirred, .ref a_p0_ways, .ref a_p0_waysThen, .ref a_p0_stays, .ref a_p0_fewest, .ref a_p0_bowls, .ref a_p0_has, .ref a_p0_goesOn, .ref a_p0_isThere, .ref a_p0_isThereThen, .ref a_p0_bestRow, .ref a_p0_lanes, .ref a_p0_sizes, .ref a_p0_cells, .int (Int32.ofInt i_p0_torn)])), (a_p0_st, .inl (G 1, 152, .inl (zA v_p0_st))), (a_p0_places, .inl (G 1, 7, .inl (zA w7)))]) (va_runV (As := [.int (Int32.ofInt x1)]) (rest := []) ⟨hx, hb, hml, hown, hts⟩ (c_X12_findPlaces (l := l) (D := D) (G := G) (sz := H.size) (a_p0 := a_p0) (a_p0_st := a_p0_st) (a_p0_isKept := a_p0_isKept) (a_p0_brings := a_p0_brings) (a_p0_need := a_p0_need) (a_p0_draft := a_p0_draft) (a_p0_dStir := a_p0_dStir) (a_p0_dNeed := a_p0_dNeed) (a_p0_tape := a_p0_tape) (a_p0_places := a_p0_places) (a_p0_stirred := a_p0_stirred) (a_p0_ways := a_p0_ways) (a_p0_waysThen := a_p0_waysThen) (a_p0_stays := a_p0_stays) (a_p0_fewest := a_p0_fewest) (a_p0_bowls := a_p0_bowls) (a_p0_has := a_p0_has) (a_p0_goesOn := a_p0_goesOn) (a_p0_isThere := a_p0_isThere) (a_p0_isThereThen := a_p0_isThereThen) (a_p0_bestRow := a_p0_bestRow) (a_p0_lanes := a_p0_lanes) (a_p0_sizes := a_p0_sizes) (a_p0_cells := a_p0_cells) (i_p0_seats := i_p0_seats) (i_p0_stirs := i_p0_stirs) (i_p0_dSeats := i_p0_dSeats) (i_p0_dStirs := i_p0_dStirs) (i_p0_told := i_p0_told) (i_p0_highest := i_p0_highest) (i_p0_taped := i_p0_taped) (i_p0_pos := i_p0_pos) (i_p0_from := i_p0_from) (i_p0_sort := i_p0_sort) (i_p0_value := i_p0_value) (i_p0_fault := i_p0_fault) (i_p0_wrongAt := i_p0_wrongAt) (i_p0_torn := i_p0_torn) (v_p0_st := v_p0_st) (v_p0_places := v_p0_places) (x1 := x1) (o_v_p0_places := w7) (hf := hcall)) (cwV 1 hts gX12_ladle_X12_findPlaces rfl rfl rfl hdV_yX12_findPlaces_RX12 ⟨Nat.le_of_ble_eq_true rfl, Nat.le_of_ble_eq_true rfl⟩) (preG_V (ci := 12) (q := (RX12, TX12, 37)) (hP.sub [0, 1, 2] rfl) (hD.sub [0, 1, 2] rfl rfl) hK rfl rfl) rfl rfl hl.1 rfl (lv_room (Nat.le_of_ble_eq_true rfl)) dX12_ladle_28 ⟨Nat.le_of_ble_eq_true rfl, Nat.le_of_ble_eq_true rfl⟩) hP hD hS hA [0, 1, 2] rfl rfl rfl (fun H locs hP hD hS => ?_)
        clear hcall
        refine lv_aload_n hx hb dX12_ladle_31 rfl (lv_at hl 0 rfl) ?_
        refine va_get (D := D) (ci := 12) (v := .ref a_p0_places) (C := RX12) (T := TX12) (N := 37) hx hb hts inX12_ladle_X12 hown hK hP 0 rfl rfl 21 (by decide) (hts _ mwX12_ladle_1) (fun _ h9 => h9) rfl dX12_ladle_32 ?_
        refine lv_iload_n hx hb dX12_ladle_35 rfl (lv_at hl 2 rfl) ?_
        have hc := ck_c hf
        replace hf := ck_r hf
        refine va_iald hx hb hK hP 2 1 rfl rfl (z_ix_in hc) dX12_ladle_36 (z_ci (z_ald w7 hc) ?_)
        clear hc
        obtain ⟨rfl, rfl⟩ := ou2 hf
        rw [hQ]
        exact W.iret hx hb hr (fun t ht hW => ⟨⟨_, (), rfl, rfl, by rw [ht]; exact hP, va_K.moved hW.alike hK, hD⟩, hS.F ht⟩) hS.2.2 dX12_ladle_37
      ·
        replace hf := ite_t ((z_eq0 hr5).mp cc) hf
        clear cc
        refine lv_iconst (v := Int32.ofInt (-1 : Int)) hx hb dX12_ladle_24 (by decide) ?_
        obtain ⟨rfl, rfl⟩ := ou2 hf
        rw [hQ]
        exact W.iret hx hb hr (fun t ht hW => ⟨⟨_, (), rfl, rfl, by rw [ht]; exact hP, va_K.moved hW.alike hK, hD⟩, hS.F ht⟩) hS.2.2 dX12_ladle_25

noncomputable def f_X12_next (i_p0_seats : Int) (i_p0_stirs : Int) (v_p0_st : (Int → Int)) (v_p0_brings : (Int → Int)) (v_p0_places : (Int → Int)) (x1 : Int) (x2 : Int) : Option (Int × (Int → Int)) := (bd1 (f_X12_isSeat i_p0_seats x1) (fun (z1 : Int) => (ck (z_r32 z1) (if z1 = (0 : Int) then (some ((-1 : Int), v_p0_places)) else (bd1 (f_X12_isStir i_p0_stirs x2) (fun (z3 : Int) => (ck (z_r32 z3) (if z3 = (0 : Int) then (some ((-1 : Int), v_p0_places)) else (ck (z_ix (7 : Int) 152) (bd2 (f_X12_nextBy i_p0_seats v_p0_st v_p0_brings v_p0_places x1 x2 (v_p0_st (7 : Int))) (fun (z5 : Int) (w6 : (Int → Int)) => (some (z5, w6)))))))))))))
abbrev rm_X12_next : Room := { frames := 3, cells := 0, slots := 0, locals := 70 }
theorem inX12_next_X12 : ∀ w ∈ wsX120, w ∈ wsX12_next := by first | exact fun w h => List.mem_cons_of_mem _ (List.mem_append_right _ h) | decide +kernel
theorem mwX12_next_1 : Cond.fieldLink RX12 7 "LadleKingsModel" "st" "[I" ∈ wsX12_next := by first | exact List.mem_of_getElem? (i := 1) rfl | decide +kernel
theorem hdV_yX12_nextBy_RX12 : yX12_nextBy.cls = RX12 ∧ yX12_nextBy.cls ≠ "java/lang/invoke/MethodHandle" ∧ yX12_nextBy.cls ≠ "java/lang/invoke/VarHandle" ∧ (parseMethodDescriptor yX12_nextBy.desc).map (fun d => d.parameters.length) = some 3 := by decide +kernel
set_option maxHeartbeats 8000000 in
set_option maxRecDepth 100000 in
theorem c_X12_next (l : Launch) (D : va_G) (G : Nat → ClassId) (sz : Nat) (a_p0 : Nat) (a_p0_st : Nat) (a_p0_isKept : Nat) (a_p0_brings : Nat) (a_p0_need : Nat) (a_p0_draft : Nat) (a_p0_dStir : Nat) (a_p0_dNeed : Nat) (a_p0_tape : Nat) (a_p0_places : Nat) (a_p0_stirred : Nat) (a_p0_ways : Nat) (a_p0_waysThen : Nat) (a_p0_stays : Nat) (a_p0_fewest : Nat) (a_p0_bowls : Nat) (a_p0_has : Nat) (a_p0_goesOn : Nat) (a_p0_isThere : Nat) (a_p0_isThereThen : Nat) (a_p0_bestRow : Nat) (a_p0_lanes : Nat) (a_p0_sizes : Nat) (a_p0_cells : Nat) (i_p0_seats : Int) (i_p0_stirs : Int) (i_p0_dSeats : Int) (i_p0_dStirs : Int) (i_p0_told : Int) (i_p0_highest : Int) (i_p0_taped : Int) (i_p0_pos : Int) (i_p0_from : Int) (i_p0_sort : Int) (i_p0_value : Int) (i_p0_fault : Int) (i_p0_wrongAt : Int) (i_p0_torn : Int) (v_p0_st : (Int → Int)) (v_p0_brings : (Int → Int)) (v_p0_places : (Int → Int)) (x1 : Int) (x2 : Int) (r : Int) (o_v_p0_places : (Int → Int)) (hf : f_X12_next i_p0_seats i_p0_stirs v_p0_st v_p0_brings v_p0_places x1 x2 = some (r, o_v_p0_places)) : Met l yX12_next wsX12_next rm_X12_next (pcG D G [.ref a_p0, .int (Int32.ofInt x1), .int (Int32.ofInt x2)] sz [(a_p0, .inr (12, [.ref a_p0_st, .ref a_p0_isKept, .int (Int32.ofInt i_p0_seats), .int (Int32.ofInt i_p0_stirs), .ref a_p0_brings, .ref a_p0_need, .ref a_p0_draft, .int (Int32.ofInt i_p0_dSeats), .int (Int32.ofInt i_p0_dStirs), .ref a_p0_dStir, .ref a_p0_dNeed, .int (Int32.ofInt i_p0_told), .int (Int32.ofInt i_p0_highest), .ref a_p0_tape, .int (Int32.ofInt i_p0_taped), .int (Int32.ofInt i_p0_pos), .int (Int32.ofInt i_p0_from), .int (Int32.ofInt i_p0_sort), .int (Int32.ofInt i_p0_value), .int (Int32.ofInt i_p0_fault), .int (Int32.ofInt i_p0_wrongAt), .ref a_p0_places, .ref a_p0_stirred, .ref a_p0_ways, .ref a_p0_waysThen, .ref a_p0_stays, .ref a_p0_fewest, .ref a_p0_bowls, .ref a_p0_has, .ref a_p0_goesOn, .ref a_p0_isThere, .ref a_p0_isThereThen, .ref a_p0_bestRow, .ref a_p0_lanes, .ref a_p0_sizes, .ref a_p0_cells, .int (Int32.ofInt i_p0_torn)])), (a_p0_st, .inl (G 1, 152, .inl (zA v_p0_st))), (a_p0_brings, .inl (G 1, 35, .inl (zA v_p0_brings))), (a_p0_places, .inl (G 1, 7, .inl (zA v_p0_places)))]) (qcI D G (Int32.ofInt r) [(a_p0, .inr (12, [.ref a_p0_st, .ref a_p0_isKept, .int (Int32.ofInt i_p0_seats), .int (Int32.ofInt i_p0_stirs), .ref a_p0_brings, .ref a_p0_need, .ref a_p0_draft, .int (Int32.ofInt i_p0_dSeats), .int (Int32.ofInt i_p0_dStirs), .ref a_p0_dStir, .ref a_p0_dNeed, .int (Int32.ofInt i_p0_told), .int (Int32.ofInt i_p0_highest), .ref a_p0_tape, .int (Int32.ofInt i_p0_taped), .int (Int32.ofInt i_p0_pos), .int (Int32.ofInt i_p0_from), .int (Int32.ofInt i_p0_sort), .int (Int32.ofInt i_p0_value), .int (Int32.ofInt i_p0_fault), .int (Int32.ofInt i_p0_wrongAt), .ref a_p0_places, .ref a_p0_stirred, .ref a_p0_ways, .ref a_p0_waysThen, .ref a_p0_stays, .ref a_p0_fewest, .ref a_p0_bowls, .ref a_p0_has, .ref a_p0_goesOn, .ref a_p0_isThere, .ref a_p0_isThereThen, .ref a_p0_bestRow, .ref a_p0_lanes, .ref a_p0_sizes, .ref a_p0_cells, .int (Int32.ofInt i_p0_torn)])), (a_p0_st, .inl (G 1, 152, .inl (zA v_p0_st))), (a_p0_brings, .inl (G 1, 35, .inl (zA v_p0_brings))), (a_p0_places, .inl (G 1, 7, .inl (zA o_v_p0_places)))] (va_A [(a_p0, .inr (12, [.ref a_p0_st, .ref a_p0_isKept, .int (Int32.ofInt i_p0_seats), .int (Int32.ofInt i_p0_stirs), .ref a_p0_brings, .ref a_p0_need, .ref a_p0_draft, .int (Int32.ofInt i_p0_dSeats), .int (Int32.ofInt i_p0_dStirs), .ref a_p0_dStir, .ref a_p0_dNeed, .int (Int32.ofInt i_p0_told), .int (Int32.ofInt i_p0_highest), .ref a_p0_tape, .int (Int32.ofInt i_p0_taped), .int (Int32.ofInt i_p0_pos), .int (Int32.ofInt i_p0_from), .int (Int32.ofInt i_p0_sort), .int (Int32.ofInt i_p0_value), .int (Int32.ofInt i_p0_fault), .int (Int32.ofInt i_p0_wrongAt), .ref a_p0_places, .ref a_p0_stirred, .ref a_p0_ways, .ref a_p0_waysThen, .ref a_p0_stays, .ref a_p0_fewest, .ref a_p0_bowls, .ref a_p0_has, .ref a_p0_goesOn, .ref a_p0_isThere, .ref a_p0_isThereThen, .ref a_p0_bestRow, .ref a_p0_lanes, .ref a_p0_sizes, .ref a_p0_cells, .int (Int32.ofInt i_p0_torn)])), (a_p0_st, .inl (G 1, 152, .inl (zA v_p0_st))), (a_p0_brings, .inl (G 1, 35, .inl (zA v_p0_brings))), (a_p0_places, .inl (G 1, 7, .inl (zA v_p0_places)))] sz)) 0 0 (va_A [(a_p0, .inr (12, [.ref a_p0_st, .ref a_p0_isKept, .int (Int32.ofInt i_p0_seats), .int (Int32.ofInt i_p0_stirs), .ref a_p0_brings, .ref a_p0_need, .ref a_p0_draft, .int (Int32.ofInt i_p0_dSeats), .int (Int32.ofInt i_p0_dStirs), .ref a_p0_dStir, .ref a_p0_dNeed, .int (Int32.ofInt i_p0_told), .int (Int32.ofInt i_p0_highest), .ref a_p0_tape, .int (Int32.ofInt i_p0_taped), .int (Int32.ofInt i_p0_pos), .int (Int32.ofInt i_p0_from), .int (Int32.ofInt i_p0_sort), .int (Int32.ofInt i_p0_value), .int (Int32.ofInt i_p0_fault), .int (Int32.ofInt i_p0_wrongAt), .ref a_p0_places, .ref a_p0_stirred, .ref a_p0_ways, .ref a_p0_waysThen, .ref a_p0_stays, .ref a_p0_fewest, .ref a_p0_bowls, .ref a_p0_has, .ref a_p0_goesOn, .ref a_p0_isThere, .ref a_p0_isThereThen, .ref a_p0_bestRow, .ref a_p0_lanes, .ref a_p0_sizes, .ref a_p0_cells, .int (Int32.ofInt i_p0_torn)])), (a_p0_st, .inl (G 1, 152, .inl (zA v_p0_st))), (a_p0_brings, .inl (G 1, 35, .inl (zA v_p0_brings))), (a_p0_places, .inl (G 1, 7, .inl (zA v_p0_places)))] sz) := by
  refine Met.ofW (cc := cX12_next) (maxL := 3) (ret := (some .int)) (by decide) rfl ?_
  intro p e s m args below meth c s₁ B hml hv
  obtain ⟨rfl, hsz, hP, hK, hD0⟩ := hv
  have hx := B.exec
  have hb := B.bytes
  have hr := B.returns
  have hts := atoms_spec (ws := wsX12_next) B.pre
  have hown : s.vm.findClass RX12 = some m.cls := findClass_of_methodNamed B.named
  have hlocks := B.notSynchronized
  subst hsz
  have hD := hD0.self (sz := s.heap.size)
  generalize hAe : va_A [(a_p0, .inr (12, [.ref a_p0_st, .ref a_p0_isKept, .int (Int32.ofInt i_p0_seats), .int (Int32.ofInt i_p0_stirs), .ref a_p0_brings, .ref a_p0_need, .ref a_p0_draft, .int (Int32.ofInt i_p0_dSeats), .int (Int32.ofInt i_p0_dStirs), .ref a_p0_dStir, .ref a_p0_dNeed, .int (Int32.ofInt i_p0_told), .int (Int32.ofInt i_p0_highest), .ref a_p0_tape, .int (Int32.ofInt i_p0_taped), .int (Int32.ofInt i_p0_pos), .int (Int32.ofInt i_p0_from), .int (Int32.ofInt i_p0_sort), .int (Int32.ofInt i_p0_value), .int (Int32.ofInt i_p0_fault), .int (Int32.ofInt i_p0_wrongAt), .ref a_p0_places, .ref a_p0_stirred, .ref a_p0_ways, .ref a_p0_waysThen, .ref a_p0_stays, .ref a_p0_fewest, .ref a_p0_bowls, .ref a_p0_has, .ref a_p0_goesOn, .ref a_p0_isThere, .ref a_p0_isThereThen, .ref a_p0_bestRow, .ref a_p0_lanes, .ref a_p0_sizes, .ref a_p0_cells, .int (Int32.ofInt i_p0_torn)])), (a_p0_st, .inl (G 1, 152, .inl (zA v_p0_st))), (a_p0_brings, .inl (G 1, 35, .inl (zA v_p0_brings))), (a_p0_places, .inl (G 1, 7, .inl (zA v_p0_places)))] s.heap.size = A at hD ⊢
  have hA : ∀ q : Nat, s.heap.size ≤ q → A q := fun q h => by rw [← hAe]; exact Or.inr h
  clear hAe hD0
  have hS : va_S A s.heap s.heap [] := va_S.rf
  have hl := lv_entry ([.ref a_p0, .int (Int32.ofInt x1), .int (Int32.ofInt x2)]) (n := 3) (Nat.le_of_ble_eq_true rfl)
  rw [lg_entry_eq]
  generalize (lg_sl ([.ref a_p0, .int (Int32.ofInt x1), .int (Int32.ofInt x2)]) ++ List.replicate (3 - (lg_sl ([.ref a_p0, .int (Int32.ofInt x1), .int (Int32.ofInt x2)])).length) Slot.unset).toArray = ls at hl ⊢
  have hl : lv_has ls 3 [(0, .ref a_p0), (1, .int (Int32.ofInt x1)), (2, .int (Int32.ofInt x2))] := hl
  refine W_nameQ (fun Q hQ => ?_)
  obtain ⟨H, hH⟩ : ∃ H, H = s.heap := ⟨_, rfl⟩
  replace hS : va_S A s.heap H [] := by rw [hH]; exact hS
  replace hP : va_P D vwCl [(a_p0, .inr (12, [.ref a_p0_st, .ref a_p0_isKept, .int (Int32.ofInt i_p0_seats), .int (Int32.ofInt i_p0_stirs), .ref a_p0_brings, .ref a_p0_need, .ref a_p0_draft, .int (Int32.ofInt i_p0_dSeats), .int (Int32.ofInt i_p0_dStirs), .ref a_p0_dStir, .ref a_p0_dNeed, .int (Int32.ofInt i_p0_told), .int (Int32.ofInt i_p0_highest), .ref a_p0_tape, .int (Int32.ofInt i_p0_taped), .int (Int32.ofInt i_p0_pos), .int (Int32.ofInt i_p0_from), .int (Int32.ofInt i_p0_sort), .int (Int32.ofInt i_p0_value), .int (Int32.ofInt i_p0_fault), .int (Int32.ofInt i_p0_wrongAt), .ref a_p0_places, .ref a_p0_stirred, .ref a_p0_ways, .ref a_p0_waysThen, .ref a_p0_stays, .ref a_p0_fewest, .ref a_p0_bowls, .ref a_p0_has, .ref a_p0_goesOn, .ref a_p0_isThere, .ref a_p0_isThereThen, .ref a_p0_bestRow, .ref a_p0_lanes, .ref a_p0_sizes, .ref a_p0_cells, .int (Int32.ofInt i_p0_torn)])), (a_p0_st, .inl (G 1, 152, .inl (zA v_p0_st))), (a_p0_brings, .inl (G 1, 35, .inl (zA v_p0_brings))), (a_p0_places, .inl (G 1, 7, .inl (zA v_p0_places)))] H := by rw [hH]; exact hP
  rw [← hH]
  clear hH
  unfold f_X12_next at hf
  refine lv_aload_n hx hb dX12_next_0 rfl (lv_at hl 0 rfl) ?_
  refine lv_iload_n hx hb dX12_next_1 rfl (lv_at hl 1 rfl) ?_
  have hq := bd1_s hf
  clear hf
  obtain ⟨z1, hcall, hf⟩ := hq
  refine gnI (va_runV (As := [.int (Int32.ofInt x1)]) (rest := []) ⟨hx, hb, hml, hown, hts⟩ (c_X12_isSeat (l := l) (D := D) (G := G) (sz := H.size) (a_p0 := a_p0) (a_p0_st := a_p0_st) (a_p0_isKept := a_p0_isKept) (a_p0_brings := a_p0_brings) (a_p0_need := a_p0_need) (a_p0_draft := a_p0_draft) (a_p0_dStir := a_p0_dStir) (a_p0_dNeed := a_p0_dNeed) (a_p0_tape := a_p0_tape) (a_p0_places := a_p0_places) (a_p0_stirred := a_p0_stirred) (a_p0_ways := a_p0_ways) (a_p0_waysThen := a_p0_waysThen) (a_p0_stays := a_p0_stays) (a_p0_fewest := a_p0_fewest) (a_p0_bowls := a_p0_bowls) (a_p0_has := a_p0_has) (a_p0_goesOn := a_p0_goesOn) (a_p0_isThere := a_p0_isThere) (a_p0_isThereThen := a_p0_isThereThen) (a_p0_bestRow := a_p0_bestRow) (a_p0_lanes := a_p0_lanes) (a_p0_sizes := a_p0_sizes) (a_p0_cells := a_p0_cells) (i_p0_seats := i_p0_seats) (i_p0_stirs := i_p0_stirs) (i_p0_dSeats := i_p0_dSeats) (i_p0_dStirs := i_p0_dStirs) (i_p0_told := i_p0_told) (i_p0_highest := i_p0_highest) (i_p0_taped := i_p0_taped) (i_p0_pos := i_p0_pos) (i_p0_from := i_p0_from) (i_p0_sort := i_p0_sort) (i_p0_value := i_p0_value) (i_p0_fault := i_p0_fault) (i_p0_wrongAt := i_p0_wrongAt) (i_p0_torn := i_p0_torn) (x1 := x1) (r := z1) (hf := hcall)) (cwV 1 hts gX12_next_X12_isSeat rfl rfl rfl hdV_yX12_isSeat_RX12 ⟨Nat.le_of_ble_eq_true rfl, Nat.le_of_ble_eq_true rfl⟩) (preG_V (ci := 12) (q := (RX12, TX12, 37)) (hP.sub [0] rfl) (hD.sub [0] rfl rfl) hK rfl rfl) rfl rfl hl.1 rfl (lv_room (Nat.le_of_ble_eq_true rfl)) dX12_next_2 ⟨Nat.le_of_ble_eq_true rfl, Nat.le_of_ble_eq_true rfl⟩) hP hD hS hA [0] rfl (fun H locs hP hD hS => ?_)
  clear hcall
  have hr1 := ck_c hf
  replace hf := ck_r hf
  refine lv_if_eq (tgt := 32) hx hb dX12_next_5 (by decide) (fun cc => ?_) (fun cc => ?_)
  ·
    replace hf := ite_t ((z_eq0 hr1).mp cc) hf
    clear cc
    refine lv_iconst (v := Int32.ofInt (-1 : Int)) hx hb dX12_next_32 (by decide) ?_
    obtain ⟨rfl, rfl⟩ := ou2 hf
    rw [hQ]
    exact W.iret hx hb hr (fun t ht hW => ⟨⟨_, (), rfl, rfl, by rw [ht]; exact hP, va_K.moved hW.alike hK, hD⟩, hS.F ht⟩) hS.2.2 dX12_next_33
  ·
    replace hf := ite_f (fun h9 => cc ((z_eq0 hr1).mpr h9)) hf
    clear cc
    refine lv_aload_n hx hb dX12_next_8 rfl (lv_at hl 0 rfl) ?_
    refine lv_iload_n hx hb dX12_next_9 rfl (lv_at hl 2 rfl) ?_
    have hq := bd1_s hf
    clear hf
    obtain ⟨z3, hcall, hf⟩ := hq
    refine gnI (va_runV (As := [.int (Int32.ofInt x2)]) (rest := []) ⟨hx, hb, hml, hown, hts⟩ (c_X12_isStir (l := l) (D := D) (G := G) (sz := H.size) (a_p0 := a_p0) (a_p0_st := a_p0_st) (a_p0_isKept := a_p0_isKept) (a_p0_brings := a_p0_brings) (a_p0_need := a_p0_need) (a_p0_draft := a_p0_draft) (a_p0_dStir := a_p0_dStir) (a_p0_dNeed := a_p0_dNeed) (a_p0_tape := a_p0_tape) (a_p0_places := a_p0_places) (a_p0_stirred := a_p0_stirred) (a_p0_ways := a_p0_ways) (a_p0_waysThen := a_p0_waysThen) (a_p0_stays := a_p0_stays) (a_p0_fewest := a_p0_fewest) (a_p0_bowls := a_p0_bowls) (a_p0_has := a_p0_has) (a_p0_goesOn := a_p0_goesOn) (a_p0_isThere := a_p0_isThere) (a_p0_isThereThen := a_p0_isThereThen) (a_p0_bestRow := a_p0_bestRow) (a_p0_lanes := a_p0_lanes) (a_p0_sizes := a_p0_sizes) (a_p0_cells := a_p0_cells) (i_p0_seats := i_p0_seats) (i_p0_stirs := i_p0_stirs) (i_p0_dSeats := i_p0_dSeats) (i_p0_dStirs := i_p0_dStirs) (i_p0_told := i_p0_told) (i_p0_highest := i_p0_highest) (i_p0_taped := i_p0_taped) (i_p0_pos := i_p0_pos) (i_p0_from := i_p0_from) (i_p0_sort := i_p0_sort) (i_p0_value := i_p0_value) (i_p0_fault := i_p0_fault) (i_p0_wrongAt := i_p0_wrongAt) (i_p0_torn := i_p0_torn) (x1 := x2) (r := z3) (hf := hcall)) (cwV 1 hts gX12_next_X12_isStir rfl rfl rfl hdV_yX12_isStir_RX12 ⟨Nat.le_of_ble_eq_true rfl, Nat.le_of_ble_eq_true rfl⟩) (preG_V (ci := 12) (q := (RX12, TX12, 37)) (hP.sub [0] rfl) (hD.sub [0] rfl rfl) hK rfl rfl) rfl rfl hl.1 rfl (lv_room (Nat.le_of_ble_eq_true rfl)) dX12_next_10 ⟨Nat.le_of_ble_eq_true rfl, Nat.le_of_ble_eq_true rfl⟩) hP hD hS hA [0] rfl (fun H locs hP hD hS => ?_)
    clear hcall
    have hr3 := ck_c hf
    replace hf := ck_r hf
    refine lv_if_eq (tgt := 32) hx hb dX12_next_13 (by decide) (fun cc => ?_) (fun cc => ?_)
    ·
      replace hf := ite_t ((z_eq0 hr3).mp cc) hf
      clear cc
      refine lv_iconst (v := Int32.ofInt (-1 : Int)) hx hb dX12_next_32 (by decide) ?_
      obtain ⟨rfl, rfl⟩ := ou2 hf
      rw [hQ]
      exact W.iret hx hb hr (fun t ht hW => ⟨⟨_, (), rfl, rfl, by rw [ht]; exact hP, va_K.moved hW.alike hK, hD⟩, hS.F ht⟩) hS.2.2 dX12_next_33
    ·
      replace hf := ite_f (fun h9 => cc ((z_eq0 hr3).mpr h9)) hf
      clear cc
      refine lv_aload_n hx hb dX12_next_16 rfl (lv_at hl 0 rfl) ?_
      refine lv_iload_n hx hb dX12_next_17 rfl (lv_at hl 1 rfl) ?_
      refine lv_iload_n hx hb dX12_next_18 rfl (lv_at hl 2 rfl) ?_
      refine lv_aload_n hx hb dX12_next_19 rfl (lv_at hl 0 rfl) ?_
      refine va_get (D := D) (ci := 12) (v := .ref a_p0_st) (C := RX12) (T := TX12) (N := 37) hx hb hts inX12_next_X12 hown hK hP 0 rfl rfl 0 (by decide) (hts _ mwX12_next_1) (fun _ h9 => h9) rfl dX12_next_20 ?_
      refine lv_bipush (v := Int32.ofInt (7 : Int)) hx hb dX12_next_23 (by decide) ?_
      have hc := ck_c hf
      replace hf := ck_r hf
      refine va_iald hx hb hK hP 1 1 rfl rfl (z_ix_in hc) dX12_next_25 (z_ci (z_ald v_p0_st hc) ?_)
      clear hc
      have hq := bd2_s hf
      clear hf
      obtain ⟨z5, w6, hcall, hf⟩ := hq
      refine gsI (ws' := [(a_p0, .inr (12, [.ref a_p0_st, .ref a_p0_isKept, .int (Int32.ofInt i_p0_seats), .int (Int32.ofInt i_p0_stirs), .ref a_p0_brings, .ref a_p0_need, .ref a_p0_draft, .int (Int32.ofInt i_p0_dSeats), .int (Int32.ofInt i_p0_dStirs), .ref a_p0_dStir, .ref a_p0_dNeed, .int (Int32.ofInt i_p0_told), .int (Int32.ofInt i_p0_highest), .ref a_p0_tape, .int (Int32.ofInt i_p0_taped), .int (Int32.ofInt i_p0_pos), .int (Int32.ofInt i_p0_from), .int (Int32.ofInt i_p0_sort), .int (Int32.ofInt i_p0_value), .int (Int32.ofInt i_p0_fault), .int (Int32.ofInt i_p0_wrongAt), .ref a_p0_places, .ref a_p0_stirred, .ref a_p0_ways, .ref a_p0_waysThen, .ref a_p0_stays, .ref a_p0_fewest, .ref a_p0_bowls, .ref a_p0_has, .ref a_p0_goesOn, .ref a_p0_isThere, .ref a_p0_isThereThen, .ref a_p0_bestRow, .ref a_p0_lanes, .ref a_p0_sizes, .ref a_p0_cells, .int (Int32.ofInt i_p0_torn)])), (a_p0_st, .inl (G 1, 152, .inl (zA v_p0_st))), (a_p0_brings, .inl (G 1, 35, .inl (zA v_p0_brings))), (a_p0_places, .inl (G 1, 7, .inl (zA w6)))]) (va_runV (As := [.int (Int32.ofInt x1), .int (Int32.ofInt x2), .int (Int32.ofInt (v_p0_st (7 : Int)))]) (rest := []) ⟨hx, hb, hml, hown, hts⟩ (c_X12_nextBy (l := l) (D := D) (G := G) (sz := H.size) (a_p0 := a_p0) (a_p0_st := a_p0_st) (a_p0_isKept := a_p0_isKept) (a_p0_brings := a_p0_brings) (a_p0_need := a_p0_need) (a_p0_draft := a_p0_draft) (a_p0_dStir := a_p0_dStir) (a_p0_dNeed := a_p0_dNeed) (a_p0_tape := a_p0_tape) (a_p0_places := a_p0_places) (a_p0_stirred := a_p0_stirred) (a_p0_ways := a_p0_ways) (a_p0_waysThen := a_p0_waysThen) (a_p0_stays := a_p0_stays) (a_p0_fewest := a_p0_fewest) (a_p0_bowls := a_p0_bowls) (a_p0_has := a_p0_has) (a_p0_goesOn := a_p0_goesOn) (a_p0_isThere := a_p0_isThere) (a_p0_isThereThen := a_p0_isThereThen) (a_p0_bestRow := a_p0_bestRow) (a_p0_lanes := a_p0_lanes) (a_p0_sizes := a_p0_sizes) (a_p0_cells := a_p0_cells) (i_p0_seats := i_p0_seats) (i_p0_stirs := i_p0_stirs) (i_p0_dSeats := i_p0_dSeats) (i_p0_dStirs := i_p0_dStirs) (i_p0_told := i_p0_told) (i_p0_highest := i_p0_highest) (i_p0_taped := i_p0_taped) (i_p0_pos := i_p0_pos) (i_p0_from := i_p0_from) (i_p0_sort := i_p0_sort) (i_p0_value := i_p0_value) (i_p0_fault := i_p0_fault) (i_p0_wrongAt := i_p0_wrongAt) (i_p0_torn := i_p0_torn) (v_p0_st := v_p0_st) (v_p0_brings := v_p0_brings) (v_p0_places := v_p0_places) (x1 := x1) (x2 := x2) (x3 := (v_p0_st (7 : Int))) (r := z5) (o_v_p0_places := w6) (hf := hcall)) (cwV 3 hts gX12_next_X12_nextBy rfl rfl rfl hdV_yX12_nextBy_RX12 ⟨Nat.le_of_ble_eq_true rfl, Nat.le_of_ble_eq_true rfl⟩) (preG_V (ci := 12) (q := (RX12, TX12, 37)) (hP.sub [0, 1, 2, 3] rfl) (hD.sub [0, 1, 2, 3] rfl rfl) hK rfl rfl) rfl rfl hl.1 rfl (lv_room (Nat.le_of_ble_eq_true rfl)) dX12_next_26 ⟨Nat.le_of_ble_eq_true rfl, Nat.le_of_ble_eq_true rfl⟩) hP hD hS hA [0, 1, 2, 3] rfl rfl rfl (fun H locs hP hD hS => ?_)
      clear hcall
      refine lv_goto (tgt := 33) hx hb dX12_next_29 (by decide) ?_
      obtain ⟨rfl, rfl⟩ := ou2 hf
      rw [hQ]
      exact W.iret hx hb hr (fun t ht hW => ⟨⟨_, (), rfl, rfl, by rw [ht]; exact hP, va_K.moved hW.alike hK, hD⟩, hS.F ht⟩) hS.2.2 dX12_next_33

noncomputable def B_X12_goesDay_88 (i_p0_seats : Int) (J12 : (Int → Int) → Option ((Int → Int) × (Int → Int) × (Int → Int))) (w2 : (Int → Int)) (again88 : Int → (Int → Int) → Option ((Int → Int) × (Int → Int) × (Int → Int))) (z16 : Int) (w17 : (Int → Int)) : Option ((Int → Int) × (Int → Int) × (Int → Int)) := (ck (z_r32 z16) (ck (z_r32 i_p0_seats) (if i_p0_seats ≤ z16 then (J12 w17) else (ck (z_ix ((23 : Int) + z16) 152) (ck (z_ix z16 7) (ck (z_ix (w2 z16) 152) (ck (z_ix ((23 : Int) + z16) 152) (bnd (z_up w17 ((23 : Int) + z16) ((w17 ((23 : Int) + z16)) + (w17 (w2 z16)))) (fun (w21 : (Int → Int)) => (bnd (z16 + (1 : Int)) (fun (z22 : Int) => (again88 z22 w21))))))))))))
noncomputable def B_X12_goesDay_60 (i_p0_seats : Int) (J9 : (Int → Int) → Option ((Int → Int) × (Int → Int) × (Int → Int))) (w5 : (Int → Int)) (again60 : Int → (Int → Int) → Option ((Int → Int) × (Int → Int) × (Int → Int))) (z23 : Int) (w24 : (Int → Int)) : Option ((Int → Int) × (Int → Int) × (Int → Int)) := (ck (z_r32 z23) (ck (z_r32 i_p0_seats) (if i_p0_seats ≤ z23 then (J9 w24) else (ck (z_ix z23 7) (ck (z_ix z23 152) (bnd (z_up w24 z23 (w5 z23)) (fun (w28 : (Int → Int)) => (bnd (z23 + (1 : Int)) (fun (z29 : Int) => (again60 z29 w28))))))))))
noncomputable def B_X12_goesDay_22 (i_p0_seats : Int) (J6 : (Int → Int) → Option ((Int → Int) × (Int → Int) × (Int → Int))) (x1 : Int) (v_p0_brings : (Int → Int)) (v_p0_st : (Int → Int)) (again22 : Int → (Int → Int) → Option ((Int → Int) × (Int → Int) × (Int → Int))) (z30 : Int) (w31 : (Int → Int)) : Option ((Int → Int) × (Int → Int) × (Int → Int)) := (ck (z_r32 z30) (ck (z_r32 i_p0_seats) (if i_p0_seats ≤ z30 then (J6 w31) else (ck (z_ix (((7 : Int) * x1) + z30) 35) (ck (z_ix z30 152) (ck (z_ix (v_p0_brings (((7 : Int) * x1) + z30)) 7) (bnd (z_up w31 (v_p0_brings (((7 : Int) * x1) + z30)) (v_p0_st z30)) (fun (w35 : (Int → Int)) => (bnd (z30 + (1 : Int)) (fun (z36 : Int) => (again22 z36 w35)))))))))))
noncomputable def f_X12_goesDay (i_p0_seats : Int) (v_p0_st : (Int → Int)) (v_p0_brings : (Int → Int)) (v_p0_places : (Int → Int)) (v_p0_stirred : (Int → Int)) (x1 : Int) : Option ((Int → Int) × (Int → Int) × (Int → Int)) := (ck (z_ix (8 : Int) 152) (ck (z_ix (7 : Int) 152) (bd2 (f_X12_nextBy i_p0_seats v_p0_st v_p0_brings v_p0_places (v_p0_st (8 : Int)) x1 (v_p0_st (7 : Int))) (fun (z1 : Int) (w2 : (Int → Int)) => (bnd z1 (fun (z3 : Int) => (bnd (0 : Int) (fun (z4 : Int) => (jn (fun (w5 : (Int → Int)) => (bnd (0 : Int) (fun (z7 : Int) => (jn (fun (w8 : (Int → Int)) => (bnd (0 : Int) (fun (z10 : Int) => (jn (fun (w11 : (Int → Int)) => (ck (z_ix (7 : Int) 152) (ck (z_ix (((7 : Int) * x1) + (w11 (7 : Int))) 35) (ck (z_ix (7 : Int) 152) (bnd (z_up w11 (7 : Int) (v_p0_brings (((7 : Int) * x1) + (w11 (7 : Int))))) (fun (w13 : (Int → Int)) => (ck (z_ix (8 : Int) 152) (bnd (z_up w13 (8 : Int) z3) (fun (w14 : (Int → Int)) => (ck (z_ix (30 : Int) 152) (ck (z_ix (30 : Int) 152) (bnd (z_up w14 (30 : Int) ((w14 (30 : Int)) + (1 : Int))) (fun (w15 : (Int → Int)) => (some (w15, w2, w5))))))))))))))) (fun (J12 : (Int → Int) → Option ((Int → Int) × (Int → Int) × (Int → Int))) => (lq2 (B_X12_goesDay_88 i_p0_seats J12 w2) 1000 z10 w8)))))) (fun (J9 : (Int → Int) → Option ((Int → Int) × (Int → Int) × (Int → Int))) => (lq2 (B_X12_goesDay_60 i_p0_seats J9 w5) 1000 z7 v_p0_st)))))) (fun (J6 : (Int → Int) → Option ((Int → Int) × (Int → Int) × (Int → Int))) => (lq2 (B_X12_goesDay_22 i_p0_seats J6 x1 v_p0_brings v_p0_st) 1000 z4 v_p0_stirred)))))))))))
abbrev rm_X12_goesDay : Room := { frames := 3, cells := 0, slots := 0, locals := 70 }
theorem inX12_goesDay_X12 : ∀ w ∈ wsX120, w ∈ wsX12_goesDay := by first | exact fun w h => List.mem_cons_of_mem _ (List.mem_append_right _ h) | decide +kernel
theorem mwX12_goesDay_1 : Cond.fieldLink RX12 7 "LadleKingsModel" "st" "[I" ∈ wsX12_goesDay := by first | exact List.mem_of_getElem? (i := 1) rfl | decide +kernel
theorem mwX12_goesDay_2 : Cond.fieldLink RX12 17 "LadleKingsModel" "brings" "[I" ∈ wsX12_goesDay := by first | exact List.mem_of_getElem? (i := 4) rfl | decide +kernel
theorem mwX12_goesDay_3 : Cond.fieldLink RX12 100 "LadleKingsModel" "seats" "I" ∈ wsX12_goesDay := by first | exact List.mem_of_getElem? (i := 2) rfl | decide +kernel
theorem mwX12_goesDay_4 : Cond.fieldLink RX12 35 "LadleKingsModel" "places" "[I" ∈ wsX12_goesDay := by first | exact List.mem_of_getElem? (i := 5) rfl | decide +kernel
theorem mwX12_goesDay_5 : Cond.fieldLink RX12 38 "LadleKingsModel" "stirred" "[I" ∈ wsX12_goesDay := by first | exact List.mem_of_getElem? (i := 3) rfl | decide +kernel
set_option maxHeartbeats 8000000 in
set_option maxRecDepth 100000 in
theorem c_X12_goesDay (l : Launch) (D : va_G) (G : Nat → ClassId) (sz : Nat) (a_p0 : Nat) (a_p0_st : Nat) (a_p0_isKept : Nat) (a_p0_brings : Nat) (a_p0_need : Nat) (a_p0_draft : Nat) (a_p0_dStir : Nat) (a_p0_dNeed : Nat) (a_p0_tape : Nat) (a_p0_places : Nat) (a_p0_stirred : Nat) (a_p0_ways : Nat) (a_p0_waysThen : Nat) (a_p0_stays : Nat) (a_p0_fewest : Nat) (a_p0_bowls : Nat) (a_p0_has : Nat) (a_p0_goesOn : Nat) (a_p0_isThere : Nat) (a_p0_isThereThen : Nat) (a_p0_bestRow : Nat) (a_p0_lanes : Nat) (a_p0_sizes : Nat) (a_p0_cells : Nat) (i_p0_seats : Int) (i_p0_stirs : Int) (i_p0_dSeats : Int) (i_p0_dStirs : Int) (i_p0_told : Int) (i_p0_highest : Int) (i_p0_taped : Int) (i_p0_pos : Int) (i_p0_from : Int) (i_p0_sort : Int) (i_p0_value : Int) (i_p0_fault : Int) (i_p0_wrongAt : Int) (i_p0_torn : Int) (v_p0_st : (Int → Int)) (v_p0_brings : (Int → Int)) (v_p0_places : (Int → Int)) (v_p0_stirred : (Int → Int)) (x1 : Int) (o_v_p0_st : (Int → Int)) (o_v_p0_places : (Int → Int)) (o_v_p0_stirred : (Int → Int)) (hf : f_X12_goesDay i_p0_seats v_p0_st v_p0_brings v_p0_places v_p0_stirred x1 = some (o_v_p0_st, o_v_p0_places, o_v_p0_stirred)) : Met l yX12_goesDay wsX12_goesDay rm_X12_goesDay (pcG D G [.ref a_p0, .int (Int32.ofInt x1)] sz [(a_p0, .inr (12, [.ref a_p0_st, .ref a_p0_isKept, .int (Int32.ofInt i_p0_seats), .int (Int32.ofInt i_p0_stirs), .ref a_p0_brings, .ref a_p0_need, .ref a_p0_draft, .int (Int32.ofInt i_p0_dSeats), .int (Int32.ofInt i_p0_dStirs), .ref a_p0_dStir, .ref a_p0_dNeed, .int (Int32.ofInt i_p0_told), .int (Int32.ofInt i_p0_highest), .ref a_p0_tape, .int (Int32.ofInt i_p0_taped), .int (Int32.ofInt i_p0_pos), .int (Int32.ofInt i_p0_from), .int (Int32.ofInt i_p0_sort), .int (Int32.ofInt i_p0_value), .int (Int32.ofInt i_p0_fault), .int (Int32.ofInt i_p0_wrongAt), .ref a_p0_places, .ref a_p0_stirred, .ref a_p0_ways, .ref a_p0_waysThen, .ref a_p0_stays, .ref a_p0_fewest, .ref a_p0_bowls, .ref a_p0_has, .ref a_p0_goesOn, .ref a_p0_isThere, .ref a_p0_isThereThen, .ref a_p0_bestRow, .ref a_p0_lanes, .ref a_p0_sizes, .ref a_p0_cells, .int (Int32.ofInt i_p0_torn)])), (a_p0_st, .inl (G 1, 152, .inl (zA v_p0_st))), (a_p0_brings, .inl (G 1, 35, .inl (zA v_p0_brings))), (a_p0_places, .inl (G 1, 7, .inl (zA v_p0_places))), (a_p0_stirred, .inl (G 1, 7, .inl (zA v_p0_stirred)))]) (qcV D G [(a_p0, .inr (12, [.ref a_p0_st, .ref a_p0_isKept, .int (Int32.ofInt i_p0_seats), .int (Int32.ofInt i_p0_stirs), .ref a_p0_brings, .ref a_p0_need, .ref a_p0_draft, .int (Int32.ofInt i_p0_dSeats), .int (Int32.ofInt i_p0_dStirs), .ref a_p0_dStir, .ref a_p0_dNeed, .int (Int32.ofInt i_p0_told), .int (Int32.ofInt i_p0_highest), .ref a_p0_tape, .int (Int32.ofInt i_p0_taped), .int (Int32.ofInt i_p0_pos), .int (Int32.ofInt i_p0_from), .int (Int32.ofInt i_p0_sort), .int (Int32.ofInt i_p0_value), .int (Int32.ofInt i_p0_fault), .int (Int32.ofInt i_p0_wrongAt), .ref a_p0_places, .ref a_p0_stirred, .ref a_p0_ways, .ref a_p0_waysThen, .ref a_p0_stays, .ref a_p0_fewest, .ref a_p0_bowls, .ref a_p0_has, .ref a_p0_goesOn, .ref a_p0_isThere, .ref a_p0_isThereThen, .ref a_p0_bestRow, .ref a_p0_lanes, .ref a_p0_sizes, .ref a_p0_cells, .int (Int32.ofInt i_p0_torn)])), (a_p0_st, .inl (G 1, 152, .inl (zA o_v_p0_st))), (a_p0_brings, .inl (G 1, 35, .inl (zA v_p0_brings))), (a_p0_places, .inl (G 1, 7, .inl (zA o_v_p0_places))), (a_p0_stirred, .inl (G 1, 7, .inl (zA o_v_p0_stirred)))] (va_A [(a_p0, .inr (12, [.ref a_p0_st, .ref a_p0_isKept, .int (Int32.ofInt i_p0_seats), .int (Int32.ofInt i_p0_stirs), .ref a_p0_brings, .ref a_p0_need, .ref a_p0_draft, .int (Int32.ofInt i_p0_dSeats), .int (Int32.ofInt i_p0_dStirs), .ref a_p0_dStir, .ref a_p0_dNeed, .int (Int32.ofInt i_p0_told), .int (Int32.ofInt i_p0_highest), .ref a_p0_tape, .int (Int32.ofInt i_p0_taped), .int (Int32.ofInt i_p0_pos), .int (Int32.ofInt i_p0_from), .int (Int32.ofInt i_p0_sort), .int (Int32.ofInt i_p0_value), .int (Int32.ofInt i_p0_fault), .int (Int32.ofInt i_p0_wrongAt), .ref a_p0_places, .ref a_p0_stirred, .ref a_p0_ways, .ref a_p0_waysThen, .ref a_p0_stays, .ref a_p0_fewest, .ref a_p0_bowls, .ref a_p0_has, .ref a_p0_goesOn, .ref a_p0_isThere, .ref a_p0_isThereThen, .ref a_p0_bestRow, .ref a_p0_lanes, .ref a_p0_sizes, .ref a_p0_cells, .int (Int32.ofInt i_p0_torn)])), (a_p0_st, .inl (G 1, 152, .inl (zA v_p0_st))), (a_p0_brings, .inl (G 1, 35, .inl (zA v_p0_brings))), (a_p0_places, .inl (G 1, 7, .inl (zA v_p0_places))), (a_p0_stirred, .inl (G 1, 7, .inl (zA v_p0_stirred)))] sz)) 0 0 (va_A [(a_p0, .inr (12, [.ref a_p0_st, .ref a_p0_isKept, .int (Int32.ofInt i_p0_seats), .int (Int32.ofInt i_p0_stirs), .ref a_p0_brings, .ref a_p0_need, .ref a_p0_draft, .int (Int32.ofInt i_p0_dSeats), .int (Int32.ofInt i_p0_dStirs), .ref a_p0_dStir, .ref a_p0_dNeed, .int (Int32.ofInt i_p0_told), .int (Int32.ofInt i_p0_highest), .ref a_p0_tape, .int (Int32.ofInt i_p0_taped), .int (Int32.ofInt i_p0_pos), .int (Int32.ofInt i_p0_from), .int (Int32.ofInt i_p0_sort), .int (Int32.ofInt i_p0_value), .int (Int32.ofInt i_p0_fault), .int (Int32.ofInt i_p0_wrongAt), .ref a_p0_places, .ref a_p0_stirred, .ref a_p0_ways, .ref a_p0_waysThen, .ref a_p0_stays, .ref a_p0_fewest, .ref a_p0_bowls, .ref a_p0_has, .ref a_p0_goesOn, .ref a_p0_isThere, .ref a_p0_isThereThen, .ref a_p0_bestRow, .ref a_p0_lanes, .ref a_p0_sizes, .ref a_p0_cells, .int (Int32.ofInt i_p0_torn)])), (a_p0_st, .inl (G 1, 152, .inl (zA v_p0_st))), (a_p0_brings, .inl (G 1, 35, .inl (zA v_p0_brings))), (a_p0_places, .inl (G 1, 7, .inl (zA v_p0_places))), (a_p0_stirred, .inl (G 1, 7, .inl (zA v_p0_stirred)))] sz) := by
  refine Met.ofW (cc := cX12_goesDay) (maxL := 4) (ret := none) (by decide) rfl ?_
  intro p e s m args below meth c s₁ B hml hv
  obtain ⟨rfl, hsz, hP, hK, hD0⟩ := hv
  have hx := B.exec
  have hb := B.bytes
  have hr := B.returns
  have hts := atoms_spec (ws := wsX12_goesDay) B.pre
  have hown : s.vm.findClass RX12 = some m.cls := findClass_of_methodNamed B.named
  have hlocks := B.notSynchronized
  subst hsz
  have hD := hD0.self (sz := s.heap.size)
  generalize hAe : va_A [(a_p0, .inr (12, [.ref a_p0_st, .ref a_p0_isKept, .int (Int32.ofInt i_p0_seats), .int (Int32.ofInt i_p0_stirs), .ref a_p0_brings, .ref a_p0_need, .ref a_p0_draft, .int (Int32.ofInt i_p0_dSeats), .int (Int32.ofInt i_p0_dStirs), .ref a_p0_dStir, .ref a_p0_dNeed, .int (Int32.ofInt i_p0_told), .int (Int32.ofInt i_p0_highest), .ref a_p0_tape, .int (Int32.ofInt i_p0_taped), .int (Int32.ofInt i_p0_pos), .int (Int32.ofInt i_p0_from), .int (Int32.ofInt i_p0_sort), .int (Int32.ofInt i_p0_value), .int (Int32.ofInt i_p0_fault), .int (Int32.ofInt i_p0_wrongAt), .ref a_p0_places, .ref a_p0_stirred, .ref a_p0_ways, .ref a_p0_waysThen, .ref a_p0_stays, .ref a_p0_fewest, .ref a_p0_bowls, .ref a_p0_has, .ref a_p0_goesOn, .ref a_p0_isThere, .ref a_p0_isThereThen, .ref a_p0_bestRow, .ref a_p0_lanes, .ref a_p0_sizes, .ref a_p0_cells, .int (Int32.ofInt i_p0_torn)])), (a_p0_st, .inl (G 1, 152, .inl (zA v_p0_st))), (a_p0_brings, .inl (G 1, 35, .inl (zA v_p0_brings))), (a_p0_places, .inl (G 1, 7, .inl (zA v_p0_places))), (a_p0_stirred, .inl (G 1, 7, .inl (zA v_p0_stirred)))] s.heap.size = A at hD ⊢
  have hA : ∀ q : Nat, s.heap.size ≤ q → A q := fun q h => by rw [← hAe]; exact Or.inr h
  clear hAe hD0
  have hS : va_S A s.heap s.heap [] := va_S.rf
  have hl := lv_entry ([.ref a_p0, .int (Int32.ofInt x1)]) (n := 4) (Nat.le_of_ble_eq_true rfl)
  rw [lg_entry_eq]
  generalize (lg_sl ([.ref a_p0, .int (Int32.ofInt x1)]) ++ List.replicate (4 - (lg_sl ([.ref a_p0, .int (Int32.ofInt x1)])).length) Slot.unset).toArray = ls at hl ⊢
  have hl : lv_has ls 4 [(0, .ref a_p0), (1, .int (Int32.ofInt x1))] := hl
  refine W_nameQ (fun Q hQ => ?_)
  obtain ⟨H, hH⟩ : ∃ H, H = s.heap := ⟨_, rfl⟩
  replace hS : va_S A s.heap H [] := by rw [hH]; exact hS
  replace hP : va_P D vwCl [(a_p0, .inr (12, [.ref a_p0_st, .ref a_p0_isKept, .int (Int32.ofInt i_p0_seats), .int (Int32.ofInt i_p0_stirs), .ref a_p0_brings, .ref a_p0_need, .ref a_p0_draft, .int (Int32.ofInt i_p0_dSeats), .int (Int32.ofInt i_p0_dStirs), .ref a_p0_dStir, .ref a_p0_dNeed, .int (Int32.ofInt i_p0_told), .int (Int32.ofInt i_p0_highest), .ref a_p0_tape, .int (Int32.ofInt i_p0_taped), .int (Int32.ofInt i_p0_pos), .int (Int32.ofInt i_p0_from), .int (Int32.ofInt i_p0_sort), .int (Int32.ofInt i_p0_value), .int (Int32.ofInt i_p0_fault), .int (Int32.ofInt i_p0_wrongAt), .ref a_p0_places, .ref a_p0_stirred, .ref a_p0_ways, .ref a_p0_waysThen, .ref a_p0_stays, .ref a_p0_fewest, .ref a_p0_bowls, .ref a_p0_has, .ref a_p0_goesOn, .ref a_p0_isThere, .ref a_p0_isThereThen, .ref a_p0_bestRow, .ref a_p0_lanes, .ref a_p0_sizes, .ref a_p0_cells, .int (Int32.ofInt i_p0_torn)])), (a_p0_st, .inl (G 1, 152, .inl (zA v_p0_st))), (a_p0_brings, .inl (G 1, 35, .inl (zA v_p0_brings))), (a_p0_places, .inl (G 1, 7, .inl (zA v_p0_places))), (a_p0_stirred, .inl (G 1, 7, .inl (zA v_p0_stirred)))] H := by rw [hH]; exact hP
  rw [← hH]
  clear hH
  unfold f_X12_goesDay at hf
  refine lv_aload_n hx hb dX12_goesDay_0 rfl (lv_at hl 0 rfl) ?_
  refine lv_aload_n hx hb dX12_goesDay_1 rfl (lv_at hl 0 rfl) ?_
  refine va_get (D := D) (ci := 12) (v := .ref a_p0_st) (C := RX12) (T := TX12) (N := 37) hx hb hts inX12_goesDay_X12 hown hK hP 0 rfl rfl 0 (by decide) (hts _ mwX12_goesDay_1) (fun _ h9 => h9) rfl dX12_goesDay_2 ?_
  refine lv_bipush (v := Int32.ofInt (8 : Int)) hx hb dX12_goesDay_5 (by decide) ?_
  have hc := ck_c hf
  replace hf := ck_r hf
  refine va_iald hx hb hK hP 1 1 rfl rfl (z_ix_in hc) dX12_goesDay_7 (z_ci (z_ald v_p0_st hc) ?_)
  clear hc
  refine lv_iload_n hx hb dX12_goesDay_8 rfl (lv_at hl 1 rfl) ?_
  refine lv_aload_n hx hb dX12_goesDay_9 rfl (lv_at hl 0 rfl) ?_
  refine va_get (D := D) (ci := 12) (v := .ref a_p0_st) (C := RX12) (T := TX12) (N := 37) hx hb hts inX12_goesDay_X12 hown hK hP 0 rfl rfl 0 (by decide) (hts _ mwX12_goesDay_1) (fun _ h9 => h9) rfl dX12_goesDay_10 ?_
  refine lv_bipush (v := Int32.ofInt (7 : Int)) hx hb dX12_goesDay_13 (by decide) ?_
  have hc := ck_c hf
  replace hf := ck_r hf
  refine va_iald hx hb hK hP 1 1 rfl rfl (z_ix_in hc) dX12_goesDay_15 (z_ci (z_ald v_p0_st hc) ?_)
  clear hc
  have hq := bd2_s hf
  clear hf
  obtain ⟨z1, w2, hcall, hf⟩ := hq
  refine gsI (ws' := [(a_p0, .inr (12, [.ref a_p0_st, .ref a_p0_isKept, .int (Int32.ofInt i_p0_seats), .int (Int32.ofInt i_p0_stirs), .ref a_p0_brings, .ref a_p0_need, .ref a_p0_draft, .int (Int32.ofInt i_p0_dSeats), .int (Int32.ofInt i_p0_dStirs), .ref a_p0_dStir, .ref a_p0_dNeed, .int (Int32.ofInt i_p0_told), .int (Int32.ofInt i_p0_highest), .ref a_p0_tape, .int (Int32.ofInt i_p0_taped), .int (Int32.ofInt i_p0_pos), .int (Int32.ofInt i_p0_from), .int (Int32.ofInt i_p0_sort), .int (Int32.ofInt i_p0_value), .int (Int32.ofInt i_p0_fault), .int (Int32.ofInt i_p0_wrongAt), .ref a_p0_places, .ref a_p0_stirred, .ref a_p0_ways, .ref a_p0_waysThen, .ref a_p0_stays, .ref a_p0_fewest, .ref a_p0_bowls, .ref a_p0_has, .ref a_p0_goesOn, .ref a_p0_isThere, .ref a_p0_isThereThen, .ref a_p0_bestRow, .ref a_p0_lanes, .ref a_p0_sizes, .ref a_p0_cells, .int (Int32.ofInt i_p0_torn)])), (a_p0_st, .inl (G 1, 152, .inl (zA v_p0_st))), (a_p0_brings, .inl (G 1, 35, .inl (zA v_p0_brings))), (a_p0_places, .inl (G 1, 7, .inl (zA w2))), (a_p0_stirred, .inl (G 1, 7, .inl (zA v_p0_stirred)))]) (va_runV (As := [.int (Int32.ofInt (v_p0_st (8 : Int))), .int (Int32.ofInt x1), .int (Int32.ofInt (v_p0_st (7 : Int)))]) (rest := []) ⟨hx, hb, hml, hown, hts⟩ (c_X12_nextBy (l := l) (D := D) (G := G) (sz := H.size) (a_p0 := a_p0) (a_p0_st := a_p0_st) (a_p0_isKept := a_p0_isKept) (a_p0_brings := a_p0_brings) (a_p0_need := a_p0_need) (a_p0_draft := a_p0_draft) (a_p0_dStir := a_p0_dStir) (a_p0_dNeed := a_p0_dNeed) (a_p0_tape := a_p0_tape) (a_p0_places := a_p0_places) (a_p0_stirred := a_p0_stirred) (a_p0_ways := a_p0_ways) (a_p0_waysThen := a_p0_waysThen) (a_p0_stays := a_p0_stays) (a_p0_fewest := a_p0_fewest) (a_p0_bowls := a_p0_bowls) (a_p0_has := a_p0_has) (a_p0_goesOn := a_p0_goesOn) (a_p0_isThere := a_p0_isThere) (a_p0_isThereThen := a_p0_isThereThen) (a_p0_bestRow := a_p0_bestRow) (a_p0_lanes := a_p0_lanes) (a_p0_sizes := a_p0_sizes) (a_p0_cells := a_p0_cells) (i_p0_seats := i_p0_seats) (i_p0_stirs := i_p0_stirs) (i_p0_dSeats := i_p0_dSeats) (i_p0_dStirs := i_p0_dStirs) (i_p0_told := i_p0_told) (i_p0_highest := i_p0_highest) (i_p0_taped := i_p0_taped) (i_p0_pos := i_p0_pos) (i_p0_from := i_p0_from) (i_p0_sort := i_p0_sort) (i_p0_value := i_p0_value) (i_p0_fault := i_p0_fault) (i_p0_wrongAt := i_p0_wrongAt) (i_p0_torn := i_p0_torn) (v_p0_st := v_p0_st) (v_p0_brings := v_p0_brings) (v_p0_places := v_p0_places) (x1 := (v_p0_st (8 : Int))) (x2 := x1) (x3 := (v_p0_st (7 : Int))) (r := z1) (o_v_p0_places := w2) (hf := hcall)) (cwV 3 hts gX12_goesDay_X12_nextBy rfl rfl rfl hdV_yX12_nextBy_RX12 ⟨Nat.le_of_ble_eq_true rfl, Nat.le_of_ble_eq_true rfl⟩) (preG_V (ci := 12) (q := (RX12, TX12, 37)) (hP.sub [0, 1, 2, 3] rfl) (hD.sub [0, 1, 2, 3] rfl rfl) hK rfl rfl) rfl rfl hl.1 rfl (lv_room (Nat.le_of_ble_eq_true rfl)) dX12_goesDay_16 ⟨Nat.le_of_ble_eq_true rfl, Nat.le_of_ble_eq_true rfl⟩) hP hD hS hA [0, 1, 2, 3] rfl rfl rfl (fun H locs hP hD hS => ?_)
  clear hcall
  refine z_topi (fun z3 ez => ?_)
  replace hf := bnd_s hf ez
  clear ez
  refine lv_istore_n (lv' := [(2, .int (Int32.ofInt z3)), (0, .ref a_p0), (1, .int (Int32.ofInt x1))]) hx hb dX12_goesDay_19 rfl hl (by decide) rfl (fun ls hl => ?_)
  refine lv_iconst (v := Int32.ofInt (0 : Int)) hx hb dX12_goesDay_20 (by decide) ?_
  refine z_topi (fun z4 ez => ?_)
  replace hf := bnd_s hf ez
  clear ez
  refine lv_istore_n (lv' := [(3, .int (Int32.ofInt z4)), (2, .int (Int32.ofInt z3)), (0, .ref a_p0), (1, .int (Int32.ofInt x1))]) hx hb dX12_goesDay_21 rfl hl (by decide) rfl (fun ls hl => ?_)
  have hq := jn_i hf
  clear hf
  obtain ⟨J6, eJ6, hf⟩ := hq
  have hJ6 : ∀ (w5 : (Int → Int)) (ls : Array Slot) (H : Heap) (locs : List Loc), lv_has ls 4 [(2, .int (Int32.ofInt z3)), (0, .ref a_p0), (1, .int (Int32.ofInt x1))] → va_P D vwCl [(a_p0, .inr (12, [.ref a_p0_st, .ref a_p0_isKept, .int (Int32.ofInt i_p0_seats), .int (Int32.ofInt i_p0_stirs), .ref a_p0_brings, .ref a_p0_need, .ref a_p0_draft, .int (Int32.ofInt i_p0_dSeats), .int (Int32.ofInt i_p0_dStirs), .ref a_p0_dStir, .ref a_p0_dNeed, .int (Int32.ofInt i_p0_told), .int (Int32.ofInt i_p0_highest), .ref a_p0_tape, .int (Int32.ofInt i_p0_taped), .int (Int32.ofInt i_p0_pos), .int (Int32.ofInt i_p0_from), .int (Int32.ofInt i_p0_sort), .int (Int32.ofInt i_p0_value), .int (Int32.ofInt i_p0_fault), .int (Int32.ofInt i_p0_wrongAt), .ref a_p0_places, .ref a_p0_stirred, .ref a_p0_ways, .ref a_p0_waysThen, .ref a_p0_stays, .ref a_p0_fewest, .ref a_p0_bowls, .ref a_p0_has, .ref a_p0_goesOn, .ref a_p0_isThere, .ref a_p0_isThereThen, .ref a_p0_bestRow, .ref a_p0_lanes, .ref a_p0_sizes, .ref a_p0_cells, .int (Int32.ofInt i_p0_torn)])), (a_p0_st, .inl (G 1, 152, .inl (zA v_p0_st))), (a_p0_brings, .inl (G 1, 35, .inl (zA v_p0_brings))), (a_p0_places, .inl (G 1, 7, .inl (zA w2))), (a_p0_stirred, .inl (G 1, 7, .inl (zA w5)))] H → va_D A [(a_p0, .inr (12, [.ref a_p0_st, .ref a_p0_isKept, .int (Int32.ofInt i_p0_seats), .int (Int32.ofInt i_p0_stirs), .ref a_p0_brings, .ref a_p0_need, .ref a_p0_draft, .int (Int32.ofInt i_p0_dSeats), .int (Int32.ofInt i_p0_dStirs), .ref a_p0_dStir, .ref a_p0_dNeed, .int (Int32.ofInt i_p0_told), .int (Int32.ofInt i_p0_highest), .ref a_p0_tape, .int (Int32.ofInt i_p0_taped), .int (Int32.ofInt i_p0_pos), .int (Int32.ofInt i_p0_from), .int (Int32.ofInt i_p0_sort), .int (Int32.ofInt i_p0_value), .int (Int32.ofInt i_p0_fault), .int (Int32.ofInt i_p0_wrongAt), .ref a_p0_places, .ref a_p0_stirred, .ref a_p0_ways, .ref a_p0_waysThen, .ref a_p0_stays, .ref a_p0_fewest, .ref a_p0_bowls, .ref a_p0_has, .ref a_p0_goesOn, .ref a_p0_isThere, .ref a_p0_isThereThen, .ref a_p0_bestRow, .ref a_p0_lanes, .ref a_p0_sizes, .ref a_p0_cells, .int (Int32.ofInt i_p0_torn)])), (a_p0_st, .inl (G 1, 152, .inl (zA v_p0_st))), (a_p0_brings, .inl (G 1, 35, .inl (zA v_p0_brings))), (a_p0_places, .inl (G 1, 7, .inl (zA w2))), (a_p0_stirred, .inl (G 1, 7, .inl (zA w5)))] → va_S A s.heap H locs → J6 w5 = some (o_v_p0_st, o_v_p0_places, o_v_p0_stirred) → W p l e rm_X12_goesDay s m ([.ref a_p0, .int (Int32.ofInt x1)] : List Value).toArray below meth c H locs 0 0 Q (F0 m 58 ls []) := by
    clear hf hl hP hD hS
    intro w5 ls H locs hl hP hD hS hf
    replace hf := jn1_s eJ6 hf
    refine lv_iconst (v := Int32.ofInt (0 : Int)) hx hb dX12_goesDay_58 (by decide) ?_
    refine z_topi (fun z7 ez => ?_)
    replace hf := bnd_s hf ez
    clear ez
    refine lv_istore_n (lv' := [(3, .int (Int32.ofInt z7)), (2, .int (Int32.ofInt z3)), (0, .ref a_p0), (1, .int (Int32.ofInt x1))]) hx hb dX12_goesDay_59 rfl hl (by decide) rfl (fun ls hl => ?_)
    have hq := jn_i hf
    clear hf
    obtain ⟨J9, eJ9, hf⟩ := hq
    have hJ9 : ∀ (w8 : (Int → Int)) (ls : Array Slot) (H : Heap) (locs : List Loc), lv_has ls 4 [(2, .int (Int32.ofInt z3)), (0, .ref a_p0), (1, .int (Int32.ofInt x1))] → va_P D vwCl [(a_p0, .inr (12, [.ref a_p0_st, .ref a_p0_isKept, .int (Int32.ofInt i_p0_seats), .int (Int32.ofInt i_p0_stirs), .ref a_p0_brings, .ref a_p0_need, .ref a_p0_draft, .int (Int32.ofInt i_p0_dSeats), .int (Int32.ofInt i_p0_dStirs), .ref a_p0_dStir, .ref a_p0_dNeed, .int (Int32.ofInt i_p0_told), .int (Int32.ofInt i_p0_highest), .ref a_p0_tape, .int (Int32.ofInt i_p0_taped), .int (Int32.ofInt i_p0_pos), .int (Int32.ofInt i_p0_from), .int (Int32.ofInt i_p0_sort), .int (Int32.ofInt i_p0_value), .int (Int32.ofInt i_p0_fault), .int (Int32.ofInt i_p0_wrongAt), .ref a_p0_places, .ref a_p0_stirred, .ref a_p0_ways, .ref a_p0_waysThen, .ref a_p0_stays, .ref a_p0_fewest, .ref a_p0_bowls, .ref a_p0_has, .ref a_p0_goesOn, .ref a_p0_isThere, .ref a_p0_isThereThen, .ref a_p0_bestRow, .ref a_p0_lanes, .ref a_p0_sizes, .ref a_p0_cells, .int (Int32.ofInt i_p0_torn)])), (a_p0_st, .inl (G 1, 152, .inl (zA w8))), (a_p0_brings, .inl (G 1, 35, .inl (zA v_p0_brings))), (a_p0_places, .inl (G 1, 7, .inl (zA w2))), (a_p0_stirred, .inl (G 1, 7, .inl (zA w5)))] H → va_D A [(a_p0, .inr (12, [.ref a_p0_st, .ref a_p0_isKept, .int (Int32.ofInt i_p0_seats), .int (Int32.ofInt i_p0_stirs), .ref a_p0_brings, .ref a_p0_need, .ref a_p0_draft, .int (Int32.ofInt i_p0_dSeats), .int (Int32.ofInt i_p0_dStirs), .ref a_p0_dStir, .ref a_p0_dNeed, .int (Int32.ofInt i_p0_told), .int (Int32.ofInt i_p0_highest), .ref a_p0_tape, .int (Int32.ofInt i_p0_taped), .int (Int32.ofInt i_p0_pos), .int (Int32.ofInt i_p0_from), .int (Int32.ofInt i_p0_sort), .int (Int32.ofInt i_p0_value), .int (Int32.ofInt i_p0_fault), .int (Int32.ofInt i_p0_wrongAt), .ref a_p0_places, .ref a_p0_stirred, .ref a_p0_ways, .ref a_p0_waysThen, .ref a_p0_stays, .ref a_p0_fewest, .ref a_p0_bowls, .ref a_p0_has, .ref a_p0_goesOn, .ref a_p0_isThere, .ref a_p0_isThereThen, .ref a_p0_bestRow, .ref a_p0_lanes, .ref a_p0_sizes, .ref a_p0_cells, .int (Int32.ofInt i_p0_torn)])), (a_p0_st, .inl (G 1, 152, .inl (zA w8))), (a_p0_brings, .inl (G 1, 35, .inl (zA v_p0_brings))), (a_p0_places, .inl (G 1, 7, .inl (zA w2))), (a_p0_stirred, .inl (G 1, 7, .inl (zA w5)))] → va_S A s.heap H locs → J9 w8 = some (o_v_p0_st, o_v_p0_places, o_v_p0_stirred) → W p l e rm_X12_goesDay s m ([.ref a_p0, .int (Int32.ofInt x1)] : List Value).toArray below meth c H locs 0 0 Q (F0 m 86 ls []) := by
      clear hf hl hP hD hS
      intro w8 ls H locs hl hP hD hS hf
      replace hf := jn1_s eJ9 hf
      refine lv_iconst (v := Int32.ofInt (0 : Int)) hx hb dX12_goesDay_86 (by decide) ?_
      refine z_topi (fun z10 ez => ?_)
      replace hf := bnd_s hf ez
      clear ez
      refine lv_istore_n (lv' := [(3, .int (Int32.ofInt z10)), (2, .int (Int32.ofInt z3)), (0, .ref a_p0), (1, .int (Int32.ofInt x1))]) hx hb dX12_goesDay_87 rfl hl (by decide) rfl (fun ls hl => ?_)
      have hq := jn_i hf
      clear hf
      obtain ⟨J12, eJ12, hf⟩ := hq
      have hJ12 : ∀ (w11 : (Int → Int)) (ls : Array Slot) (H : Heap) (locs : List Loc), lv_has ls 4 [(2, .int (Int32.ofInt z3)), (0, .ref a_p0), (1, .int (Int32.ofInt x1))] → va_P D vwCl [(a_p0, .inr (12, [.ref a_p0_st, .ref a_p0_isKept, .int (Int32.ofInt i_p0_seats), .int (Int32.ofInt i_p0_stirs), .ref a_p0_brings, .ref a_p0_need, .ref a_p0_draft, .int (Int32.ofInt i_p0_dSeats), .int (Int32.ofInt i_p0_dStirs), .ref a_p0_dStir, .ref a_p0_dNeed, .int (Int32.ofInt i_p0_told), .int (Int32.ofInt i_p0_highest), .ref a_p0_tape, .int (Int32.ofInt i_p0_taped), .int (Int32.ofInt i_p0_pos), .int (Int32.ofInt i_p0_from), .int (Int32.ofInt i_p0_sort), .int (Int32.ofInt i_p0_value), .int (Int32.ofInt i_p0_fault), .int (Int32.ofInt i_p0_wrongAt), .ref a_p0_places, .ref a_p0_stirred, .ref a_p0_ways, .ref a_p0_waysThen, .ref a_p0_stays, .ref a_p0_fewest, .ref a_p0_bowls, .ref a_p0_has, .ref a_p0_goesOn, .ref a_p0_isThere, .ref a_p0_isThereThen, .ref a_p0_bestRow, .ref a_p0_lanes, .ref a_p0_sizes, .ref a_p0_cells, .int (Int32.ofInt i_p0_torn)])), (a_p0_st, .inl (G 1, 152, .inl (zA w11))), (a_p0_brings, .inl (G 1, 35, .inl (zA v_p0_brings))), (a_p0_places, .inl (G 1, 7, .inl (zA w2))), (a_p0_stirred, .inl (G 1, 7, .inl (zA w5)))] H → va_D A [(a_p0, .inr (12, [.ref a_p0_st, .ref a_p0_isKept, .int (Int32.ofInt i_p0_seats), .int (Int32.ofInt i_p0_stirs), .ref a_p0_brings, .ref a_p0_need, .ref a_p0_draft, .int (Int32.ofInt i_p0_dSeats), .int (Int32.ofInt i_p0_dStirs), .ref a_p0_dStir, .ref a_p0_dNeed, .int (Int32.ofInt i_p0_told), .int (Int32.ofInt i_p0_highest), .ref a_p0_tape, .int (Int32.ofInt i_p0_taped), .int (Int32.ofInt i_p0_pos), .int (Int32.ofInt i_p0_from), .int (Int32.ofInt i_p0_sort), .int (Int32.ofInt i_p0_value), .int (Int32.ofInt i_p0_fault), .int (Int32.ofInt i_p0_wrongAt), .ref a_p0_places, .ref a_p0_stirred, .ref a_p0_ways, .ref a_p0_waysThen, .ref a_p0_stays, .ref a_p0_fewest, .ref a_p0_bowls, .ref a_p0_has, .ref a_p0_goesOn, .ref a_p0_isThere, .ref a_p0_isThereThen, .ref a_p0_bestRow, .ref a_p0_lanes, .ref a_p0_sizes, .ref a_p0_cells, .int (Int32.ofInt i_p0_torn)])), (a_p0_st, .inl (G 1, 152, .inl (zA w11))), (a_p0_brings, .inl (G 1, 35, .inl (zA v_p0_brings))), (a_p0_places, .inl (G 1, 7, .inl (zA w2))), (a_p0_stirred, .inl (G 1, 7, .inl (zA w5)))] → va_S A s.heap H locs → J12 w11 = some (o_v_p0_st, o_v_p0_places, o_v_p0_stirred) → W p l e rm_X12_goesDay s m ([.ref a_p0, .int (Int32.ofInt x1)] : List Value).toArray below meth c H locs 0 0 Q (F0 m 125 ls []) := by
        clear hf hl hP hD hS
        intro w11 ls H locs hl hP hD hS hf
        replace hf := jn1_s eJ12 hf
        refine lv_aload_n hx hb dX12_goesDay_125 rfl (lv_at hl 1 rfl) ?_
        refine va_get (D := D) (ci := 12) (v := .ref a_p0_st) (C := RX12) (T := TX12) (N := 37) hx hb hts inX12_goesDay_X12 hown hK hP 0 rfl rfl 0 (by decide) (hts _ mwX12_goesDay_1) (fun _ h9 => h9) rfl dX12_goesDay_126 ?_
        refine lv_bipush (v := Int32.ofInt (7 : Int)) hx hb dX12_goesDay_129 (by decide) ?_
        refine lv_aload_n hx hb dX12_goesDay_131 rfl (lv_at hl 1 rfl) ?_
        refine va_get (D := D) (ci := 12) (v := .ref a_p0_brings) (C := RX12) (T := TX12) (N := 37) hx hb hts inX12_goesDay_X12 hown hK hP 0 rfl rfl 4 (by decide) (hts _ mwX12_goesDay_2) (fun _ h9 => h9) rfl dX12_goesDay_132 ?_
        refine lv_bipush (v := Int32.ofInt (7 : Int)) hx hb dX12_goesDay_135 (by decide) ?_
        refine lv_iload_n hx hb dX12_goesDay_137 rfl (lv_at hl 2 rfl) ?_
        refine lv_imul hx hb dX12_goesDay_138 (z_ci (Int32.ofInt_mul (7 : Int) x1) ?_)
        refine lv_aload_n hx hb dX12_goesDay_139 rfl (lv_at hl 1 rfl) ?_
        refine va_get (D := D) (ci := 12) (v := .ref a_p0_st) (C := RX12) (T := TX12) (N := 37) hx hb hts inX12_goesDay_X12 hown hK hP 0 rfl rfl 0 (by decide) (hts _ mwX12_goesDay_1) (fun _ h9 => h9) rfl dX12_goesDay_140 ?_
        refine lv_bipush (v := Int32.ofInt (7 : Int)) hx hb dX12_goesDay_143 (by decide) ?_
        have hc := ck_c hf
        replace hf := ck_r hf
        refine va_iald hx hb hK hP 1 1 rfl rfl (z_ix_in hc) dX12_goesDay_145 (z_ci (z_ald w11 hc) ?_)
        clear hc
        refine lv_iadd hx hb dX12_goesDay_146 (z_ci (Int32.ofInt_add ((7 : Int) * x1) (w11 (7 : Int))) ?_)
        have hc := ck_c hf
        replace hf := ck_r hf
        refine va_iald hx hb hK hP 2 1 rfl rfl (z_ix_in hc) dX12_goesDay_147 (z_ci (z_ald v_p0_brings hc) ?_)
        clear hc
        have hc := ck_c hf
        replace hf := ck_r hf
        refine zs_iast (wf := fun w13 => [(a_p0, .inr (12, [.ref a_p0_st, .ref a_p0_isKept, .int (Int32.ofInt i_p0_seats), .int (Int32.ofInt i_p0_stirs), .ref a_p0_brings, .ref a_p0_need, .ref a_p0_draft, .int (Int32.ofInt i_p0_dSeats), .int (Int32.ofInt i_p0_dStirs), .ref a_p0_dStir, .ref a_p0_dNeed, .int (Int32.ofInt i_p0_told), .int (Int32.ofInt i_p0_highest), .ref a_p0_tape, .int (Int32.ofInt i_p0_taped), .int (Int32.ofInt i_p0_pos), .int (Int32.ofInt i_p0_from), .int (Int32.ofInt i_p0_sort), .int (Int32.ofInt i_p0_value), .int (Int32.ofInt i_p0_fault), .int (Int32.ofInt i_p0_wrongAt), .ref a_p0_places, .ref a_p0_stirred, .ref a_p0_ways, .ref a_p0_waysThen, .ref a_p0_stays, .ref a_p0_fewest, .ref a_p0_bowls, .ref a_p0_has, .ref a_p0_goesOn, .ref a_p0_isThere, .ref a_p0_isThereThen, .ref a_p0_bestRow, .ref a_p0_lanes, .ref a_p0_sizes, .ref a_p0_cells, .int (Int32.ofInt i_p0_torn)])), (a_p0_st, .inl (G 1, 152, .inl (zA w13))), (a_p0_brings, .inl (G 1, 35, .inl (zA v_p0_brings))), (a_p0_places, .inl (G 1, 7, .inl (zA w2))), (a_p0_stirred, .inl (G 1, 7, .inl (zA w5)))]) hx hb hK hP hD hS 1 1 rfl rfl hc dX12_goesDay_148 (fun _ => rfl) (fun w13 ez H locs hP hD hS => ?_)
        replace hf := bnd_s hf ez
        clear ez hc
        refine lv_aload_n hx hb dX12_goesDay_149 rfl (lv_at hl 1 rfl) ?_
        refine va_get (D := D) (ci := 12) (v := .ref a_p0_st) (C := RX12) (T := TX12) (N := 37) hx hb hts inX12_goesDay_X12 hown hK hP 0 rfl rfl 0 (by decide) (hts _ mwX12_goesDay_1) (fun _ h9 => h9) rfl dX12_goesDay_150 ?_
        refine lv_bipush (v := Int32.ofInt (8 : Int)) hx hb dX12_goesDay_153 (by decide) ?_
        refine lv_iload_n hx hb dX12_goesDay_155 rfl (lv_at hl 0 rfl) ?_
        have hc := ck_c hf
        replace hf := ck_r hf
        refine zs_iast (wf := fun w14 => [(a_p0, .inr (12, [.ref a_p0_st, .ref a_p0_isKept, .int (Int32.ofInt i_p0_seats), .int (Int32.ofInt i_p0_stirs), .ref a_p0_brings, .ref a_p0_need, .ref a_p0_draft, .int (Int32.ofInt i_p0_dSeats), .int (Int32.ofInt i_p0_dStirs), .ref a_p0_dStir, .ref a_p0_dNeed, .int (Int32.ofInt i_p0_told), .int (Int32.ofInt i_p0_highest), .ref a_p0_tape, .int (Int32.ofInt i_p0_taped), .int (Int32.ofInt i_p0_pos), .int (Int32.ofInt i_p0_from), .int (Int32.ofInt i_p0_sort), .int (Int32.ofInt i_p0_value), .int (Int32.ofInt i_p0_fault), .int (Int32.ofInt i_p0_wrongAt), .ref a_p0_places, .ref a_p0_stirred, .ref a_p0_ways, .ref a_p0_waysThen, .ref a_p0_stays, .ref a_p0_fewest, .ref a_p0_bowls, .ref a_p0_has, .ref a_p0_goesOn, .ref a_p0_isThere, .ref a_p0_isThereThen, .ref a_p0_bestRow, .ref a_p0_lanes, .ref a_p0_sizes, .ref a_p0_cells, .int (Int32.ofInt i_p0_torn)])), (a_p0_st, .inl (G 1, 152, .inl (zA w14))), (a_p0_brings, .inl (G 1, 35, .inl (zA v_p0_brings))), (a_p0_places, .inl (G 1, 7, .inl (zA w2))), (a_p0_stirred, .inl (G 1, 7, .inl (zA w5)))]) hx hb hK hP hD hS 1 1 rfl rfl hc dX12_goesDay_156 (fun _ => rfl) (fun w14 ez H locs hP hD hS => ?_)
        replace hf := bnd_s hf ez
        clear ez hc
        refine lv_aload_n hx hb dX12_goesDay_157 rfl (lv_at hl 1 rfl) ?_
        refine va_get (D := D) (ci := 12) (v := .ref a_p0_st) (C := RX12) (T := TX12) (N := 37) hx hb hts inX12_goesDay_X12 hown hK hP 0 rfl rfl 0 (by decide) (hts _ mwX12_goesDay_1) (fun _ h9 => h9) rfl dX12_goesDay_158 ?_
        refine lv_bipush (v := Int32.ofInt (30 : Int)) hx hb dX12_goesDay_161 (by decide) ?_
        refine lv_dup2_11 hx hb dX12_goesDay_163 rfl rfl ?_
        have hc := ck_c hf
        replace hf := ck_r hf
        refine va_iald hx hb hK hP 1 1 rfl rfl (z_ix_in hc) dX12_goesDay_164 (z_ci (z_ald w14 hc) ?_)
        clear hc
        refine lv_iconst (v := Int32.ofInt (1 : Int)) hx hb dX12_goesDay_165 (by decide) ?_
        refine lv_iadd hx hb dX12_goesDay_166 (z_ci (Int32.ofInt_add (w14 (30 : Int)) (1 : Int)) ?_)
        have hc := ck_c hf
        replace hf := ck_r hf
        refine zs_iast (wf := fun w15 => [(a_p0, .inr (12, [.ref a_p0_st, .ref a_p0_isKept, .int (Int32.ofInt i_p0_seats), .int (Int32.ofInt i_p0_stirs), .ref a_p0_brings, .ref a_p0_need, .ref a_p0_draft, .int (Int32.ofInt i_p0_dSeats), .int (Int32.ofInt i_p0_dStirs), .ref a_p0_dStir, .ref a_p0_dNeed, .int (Int32.ofInt i_p0_told), .int (Int32.ofInt i_p0_highest), .ref a_p0_tape, .int (Int32.ofInt i_p0_taped), .int (Int32.ofInt i_p0_pos), .int (Int32.ofInt i_p0_from), .int (Int32.ofInt i_p0_sort), .int (Int32.ofInt i_p0_value), .int (Int32.ofInt i_p0_fault), .int (Int32.ofInt i_p0_wrongAt), .ref a_p0_places, .ref a_p0_stirred, .ref a_p0_ways, .ref a_p0_waysThen, .ref a_p0_stays, .ref a_p0_fewest, .ref a_p0_bowls, .ref a_p0_has, .ref a_p0_goesOn, .ref a_p0_isThere, .ref a_p0_isThereThen, .ref a_p0_bestRow, .ref a_p0_lanes, .ref a_p0_sizes, .ref a_p0_cells, .int (Int32.ofInt i_p0_torn)])), (a_p0_st, .inl (G 1, 152, .inl (zA w15))), (a_p0_brings, .inl (G 1, 35, .inl (zA v_p0_brings))), (a_p0_places, .inl (G 1, 7, .inl (zA w2))), (a_p0_stirred, .inl (G 1, 7, .inl (zA w5)))]) hx hb hK hP hD hS 1 1 rfl rfl hc dX12_goesDay_167 (fun _ => rfl) (fun w15 ez H locs hP hD hS => ?_)
        replace hf := bnd_s hf ez
        clear ez hc
        obtain ⟨rfl, rfl, rfl⟩ := ou3 hf
        rw [hQ]
        exact W.vret hx hb hr (fun t ht hW => ⟨⟨(), rfl, trivial, by rw [ht]; exact hP, va_K.moved hW.alike hK, hD⟩, hS.F ht⟩) hS.2.2 dX12_goesDay_168
      have hq := lq2_i hf
      clear hf
      obtain ⟨B18, eB18, NB18, hf⟩ := hq
      have hB18 : ∀ (n : Nat) (z16 : Int) (w17 : (Int → Int)) (ls : Array Slot) (H : Heap) (locs : List Loc), lv_has ls 4 [(3, .int (Int32.ofInt z16)), (2, .int (Int32.ofInt z3)), (0, .ref a_p0), (1, .int (Int32.ofInt x1))] → va_P D vwCl [(a_p0, .inr (12, [.ref a_p0_st, .ref a_p0_isKept, .int (Int32.ofInt i_p0_seats), .int (Int32.ofInt i_p0_stirs), .ref a_p0_brings, .ref a_p0_need, .ref a_p0_draft, .int (Int32.ofInt i_p0_dSeats), .int (Int32.ofInt i_p0_dStirs), .ref a_p0_dStir, .ref a_p0_dNeed, .int (Int32.ofInt i_p0_told), .int (Int32.ofInt i_p0_highest), .ref a_p0_tape, .int (Int32.ofInt i_p0_taped), .int (Int32.ofInt i_p0_pos), .int (Int32.ofInt i_p0_from), .int (Int32.ofInt i_p0_sort), .int (Int32.ofInt i_p0_value), .int (Int32.ofInt i_p0_fault), .int (Int32.ofInt i_p0_wrongAt), .ref a_p0_places, .ref a_p0_stirred, .ref a_p0_ways, .ref a_p0_waysThen, .ref a_p0_stays, .ref a_p0_fewest, .ref a_p0_bowls, .ref a_p0_has, .ref a_p0_goesOn, .ref a_p0_isThere, .ref a_p0_isThereThen, .ref a_p0_bestRow, .ref a_p0_lanes, .ref a_p0_sizes, .ref a_p0_cells, .int (Int32.ofInt i_p0_torn)])), (a_p0_st, .inl (G 1, 152, .inl (zA w17))), (a_p0_brings, .inl (G 1, 35, .inl (zA v_p0_brings))), (a_p0_places, .inl (G 1, 7, .inl (zA w2))), (a_p0_stirred, .inl (G 1, 7, .inl (zA w5)))] H → va_D A [(a_p0, .inr (12, [.ref a_p0_st, .ref a_p0_isKept, .int (Int32.ofInt i_p0_seats), .int (Int32.ofInt i_p0_stirs), .ref a_p0_brings, .ref a_p0_need, .ref a_p0_draft, .int (Int32.ofInt i_p0_dSeats), .int (Int32.ofInt i_p0_dStirs), .ref a_p0_dStir, .ref a_p0_dNeed, .int (Int32.ofInt i_p0_told), .int (Int32.ofInt i_p0_highest), .ref a_p0_tape, .int (Int32.ofInt i_p0_taped), .int (Int32.ofInt i_p0_pos), .int (Int32.ofInt i_p0_from), .int (Int32.ofInt i_p0_sort), .int (Int32.ofInt i_p0_value), .int (Int32.ofInt i_p0_fault), .int (Int32.ofInt i_p0_wrongAt), .ref a_p0_places, .ref a_p0_stirred, .ref a_p0_ways, .ref a_p0_waysThen, .ref a_p0_stays, .ref a_p0_fewest, .ref a_p0_bowls, .ref a_p0_has, .ref a_p0_goesOn, .ref a_p0_isThere, .ref a_p0_isThereThen, .ref a_p0_bestRow, .ref a_p0_lanes, .ref a_p0_sizes, .ref a_p0_cells, .int (Int32.ofInt i_p0_torn)])), (a_p0_st, .inl (G 1, 152, .inl (zA w17))), (a_p0_brings, .inl (G 1, 35, .inl (zA v_p0_brings))), (a_p0_places, .inl (G 1, 7, .inl (zA w2))), (a_p0_stirred, .inl (G 1, 7, .inl (zA w5)))] → va_S A s.heap H locs → lq2 B18 n z16 w17 = some (o_v_p0_st, o_v_p0_places, o_v_p0_stirred) → W p l e rm_X12_goesDay s m ([.ref a_p0, .int (Int32.ofInt x1)] : List Value).toArray below meth c H locs 0 0 Q (F0 m 88 ls []) := by
        clear hf hl hP hD hS
        intro n
        induction n with
        | zero =>
          intro z16 w17 ls H locs hl hP hD hS hf
          exact (lq2_0 hf).elim
        | succ n ih88 =>
          intro z16 w17 ls H locs hl hP hD hS hf
          replace hf := lq2_s eB18 hf
          unfold B_X12_goesDay_88 at hf
          refine lv_iload_n hx hb dX12_goesDay_88 rfl (lv_at hl 0 rfl) ?_
          refine lv_aload_n hx hb dX12_goesDay_89 rfl (lv_at hl 2 rfl) ?_
          refine va_get (D := D) (ci := 12) (v := .int (Int32.ofInt i_p0_seats)) (C := RX12) (T := TX12) (N := 37) hx hb hts inX12_goesDay_X12 hown hK hP 0 rfl rfl 2 (by decide) (hts _ mwX12_goesDay_3) (fun _ h9 => h9) rfl dX12_goesDay_90 ?_
          have hr18 := ck_c hf
          replace hf := ck_r hf
          have hr19 := ck_c hf
          replace hf := ck_r hf
          refine lv_icmp_ge (tgt := 125) hx hb dX12_goesDay_93 (by decide) (fun cc => ?_) (fun cc => ?_)
          ·
            replace hf := ite_t ((z_le hr19 hr18).mp cc) hf
            clear cc
            exact hJ12 _ _ _ _ (lv_sub hl [1, 2, 3] rfl) hP hD hS hf
          ·
            replace hf := ite_f (fun h9 => cc ((z_le hr19 hr18).mpr h9)) hf
            clear cc
            refine lv_aload_n hx hb dX12_goesDay_96 rfl (lv_at hl 2 rfl) ?_
            refine va_get (D := D) (ci := 12) (v := .ref a_p0_st) (C := RX12) (T := TX12) (N := 37) hx hb hts inX12_goesDay_X12 hown hK hP 0 rfl rfl 0 (by decide) (hts _ mwX12_goesDay_1) (fun _ h9 => h9) rfl dX12_goesDay_97 ?_
            refine lv_bipush (v := Int32.ofInt (23 : Int)) hx hb dX12_goesDay_100 (by decide) ?_
            refine lv_iload_n hx hb dX12_goesDay_102 rfl (lv_at hl 0 rfl) ?_
            refine lv_iadd hx hb dX12_goesDay_103 (z_ci (Int32.ofInt_add (23 : Int) z16) ?_)
            refine lv_dup2_11 hx hb dX12_goesDay_104 rfl rfl ?_
            have hc := ck_c hf
            replace hf := ck_r hf
            refine va_iald hx hb hK hP 1 1 rfl rfl (z_ix_in hc) dX12_goesDay_105 (z_ci (z_ald w17 hc) ?_)
            clear hc
            refine lv_aload_n hx hb dX12_goesDay_106 rfl (lv_at hl 2 rfl) ?_
            refine va_get (D := D) (ci := 12) (v := .ref a_p0_st) (C := RX12) (T := TX12) (N := 37) hx hb hts inX12_goesDay_X12 hown hK hP 0 rfl rfl 0 (by decide) (hts _ mwX12_goesDay_1) (fun _ h9 => h9) rfl dX12_goesDay_107 ?_
            refine lv_aload_n hx hb dX12_goesDay_110 rfl (lv_at hl 2 rfl) ?_
            refine va_get (D := D) (ci := 12) (v := .ref a_p0_places) (C := RX12) (T := TX12) (N := 37) hx hb hts inX12_goesDay_X12 hown hK hP 0 rfl rfl 21 (by decide) (hts _ mwX12_goesDay_4) (fun _ h9 => h9) rfl dX12_goesDay_111 ?_
            refine lv_iload_n hx hb dX12_goesDay_114 rfl (lv_at hl 0 rfl) ?_
            have hc := ck_c hf
            replace hf := ck_r hf
            refine va_iald hx hb hK hP 3 1 rfl rfl (z_ix_in hc) dX12_goesDay_115 (z_ci (z_ald w2 hc) ?_)
            clear hc
            have hc := ck_c hf
            replace hf := ck_r hf
            refine va_iald hx hb hK hP 1 1 rfl rfl (z_ix_in hc) dX12_goesDay_116 (z_ci (z_ald w17 hc) ?_)
            clear hc
            refine lv_iadd hx hb dX12_goesDay_117 (z_ci (Int32.ofInt_add (w17 ((23 : Int) + z16)) (w17 (w2 z16))) ?_)
            have hc := ck_c hf
            replace hf := ck_r hf
            refine zs_iast (wf := fun w21 => [(a_p0, .inr (12, [.ref a_p0_st, .ref a_p0_isKept, .int (Int32.ofInt i_p0_seats), .int (Int32.ofInt i_p0_stirs), .ref a_p0_brings, .ref a_p0_need, .ref a_p0_draft, .int (Int32.ofInt i_p0_dSeats), .int (Int32.ofInt i_p0_dStirs), .ref a_p0_dStir, .ref a_p0_dNeed, .int (Int32.ofInt i_p0_told), .int (Int32.ofInt i_p0_highest), .ref a_p0_tape, .int (Int32.ofInt i_p0_taped), .int (Int32.ofInt i_p0_pos), .int (Int32.ofInt i_p0_from), .int (Int32.ofInt i_p0_sort), .int (Int32.ofInt i_p0_value), .int (Int32.ofInt i_p0_fault), .int (Int32.ofInt i_p0_wrongAt), .ref a_p0_places, .ref a_p0_stirred, .ref a_p0_ways, .ref a_p0_waysThen, .ref a_p0_stays, .ref a_p0_fewest, .ref a_p0_bowls, .ref a_p0_has, .ref a_p0_goesOn, .ref a_p0_isThere, .ref a_p0_isThereThen, .ref a_p0_bestRow, .ref a_p0_lanes, .ref a_p0_sizes, .ref a_p0_cells, .int (Int32.ofInt i_p0_torn)])), (a_p0_st, .inl (G 1, 152, .inl (zA w21))), (a_p0_brings, .inl (G 1, 35, .inl (zA v_p0_brings))), (a_p0_places, .inl (G 1, 7, .inl (zA w2))), (a_p0_stirred, .inl (G 1, 7, .inl (zA w5)))]) hx hb hK hP hD hS 1 1 rfl rfl hc dX12_goesDay_118 (fun _ => rfl) (fun w21 ez H locs hP hD hS => ?_)
            replace hf := bnd_s hf ez
            clear ez hc
            obtain ⟨z22, ez⟩ : ∃ y : Int, y = (z16 + (1 : Int)) := ⟨_, rfl⟩
            replace hf := bnd_s hf ez
            refine lv_iinc (v := Int32.ofInt z22) (lv' := [(3, .int (Int32.ofInt z22)), (2, .int (Int32.ofInt z3)), (0, .ref a_p0), (1, .int (Int32.ofInt x1))]) hx hb dX12_goesDay_119 hl (k := 0) rfl (by rw [ez]; exact (Int32.ofInt_add _ _).symm) (by decide) rfl (fun ls hl => ?_)
            clear ez
            refine lv_goto (tgt := 88) hx hb dX12_goesDay_122 (by decide) ?_
            exact ih88 _ _ _ _ _ (lv_sub hl [0, 1, 2, 3] rfl) hP hD hS hf
      exact hB18 _ _ _ _ _ _ (lv_sub hl [0, 1, 2, 3] rfl) hP hD hS hf
    have hq := lq2_i hf
    clear hf
    obtain ⟨B25, eB25, NB25, hf⟩ := hq
    have hB25 : ∀ (n : Nat) (z23 : Int) (w24 : (Int → Int)) (ls : Array Slot) (H : Heap) (locs : List Loc), lv_has ls 4 [(3, .int (Int32.ofInt z23)), (2, .int (Int32.ofInt z3)), (0, .ref a_p0), (1, .int (Int32.ofInt x1))] → va_P D vwCl [(a_p0, .inr (12, [.ref a_p0_st, .ref a_p0_isKept, .int (Int32.ofInt i_p0_seats), .int (Int32.ofInt i_p0_stirs), .ref a_p0_brings, .ref a_p0_need, .ref a_p0_draft, .int (Int32.ofInt i_p0_dSeats), .int (Int32.ofInt i_p0_dStirs), .ref a_p0_dStir, .ref a_p0_dNeed, .int (Int32.ofInt i_p0_told), .int (Int32.ofInt i_p0_highest), .ref a_p0_tape, .int (Int32.ofInt i_p0_taped), .int (Int32.ofInt i_p0_pos), .int (Int32.ofInt i_p0_from), .int (Int32.ofInt i_p0_sort), .int (Int32.ofInt i_p0_value), .int (Int32.ofInt i_p0_fault), .int (Int32.ofInt i_p0_wrongAt), .ref a_p0_places, .ref a_p0_stirred, .ref a_p0_ways, .ref a_p0_waysThen, .ref a_p0_stays, .ref a_p0_fewest, .ref a_p0_bowls, .ref a_p0_has, .ref a_p0_goesOn, .ref a_p0_isThere, .ref a_p0_isThereThen, .ref a_p0_bestRow, .ref a_p0_lanes, .ref a_p0_sizes, .ref a_p0_cells, .int (Int32.ofInt i_p0_torn)])), (a_p0_st, .inl (G 1, 152, .inl (zA w24))), (a_p0_brings, .inl (G 1, 35, .inl (zA v_p0_brings))), (a_p0_places, .inl (G 1, 7, .inl (zA w2))), (a_p0_stirred, .inl (G 1, 7, .inl (zA w5)))] H → va_D A [(a_p0, .inr (12, [.ref a_p0_st, .ref a_p0_isKept, .int (Int32.ofInt i_p0_seats), .int (Int32.ofInt i_p0_stirs), .ref a_p0_brings, .ref a_p0_need, .ref a_p0_draft, .int (Int32.ofInt i_p0_dSeats), .int (Int32.ofInt i_p0_dStirs), .ref a_p0_dStir, .ref a_p0_dNeed, .int (Int32.ofInt i_p0_told), .int (Int32.ofInt i_p0_highest), .ref a_p0_tape, .int (Int32.ofInt i_p0_taped), .int (Int32.ofInt i_p0_pos), .int (Int32.ofInt i_p0_from), .int (Int32.ofInt i_p0_sort), .int (Int32.ofInt i_p0_value), .int (Int32.ofInt i_p0_fault), .int (Int32.ofInt i_p0_wrongAt), .ref a_p0_places, .ref a_p0_stirred, .ref a_p0_ways, .ref a_p0_waysThen, .ref a_p0_stays, .ref a_p0_fewest, .ref a_p0_bowls, .ref a_p0_has, .ref a_p0_goesOn, .ref a_p0_isThere, .ref a_p0_isThereThen, .ref a_p0_bestRow, .ref a_p0_lanes, .ref a_p0_sizes, .ref a_p0_cells, .int (Int32.ofInt i_p0_torn)])), (a_p0_st, .inl (G 1, 152, .inl (zA w24))), (a_p0_brings, .inl (G 1, 35, .inl (zA v_p0_brings))), (a_p0_places, .inl (G 1, 7, .inl (zA w2))), (a_p0_stirred, .inl (G 1, 7, .inl (zA w5)))] → va_S A s.heap H locs → lq2 B25 n z23 w24 = some (o_v_p0_st, o_v_p0_places, o_v_p0_stirred) → W p l e rm_X12_goesDay s m ([.ref a_p0, .int (Int32.ofInt x1)] : List Value).toArray below meth c H locs 0 0 Q (F0 m 60 ls []) := by
      clear hf hl hP hD hS
      intro n
      induction n with
      | zero =>
        intro z23 w24 ls H locs hl hP hD hS hf
        exact (lq2_0 hf).elim
      | succ n ih60 =>
        intro z23 w24 ls H locs hl hP hD hS hf
        replace hf := lq2_s eB25 hf
        unfold B_X12_goesDay_60 at hf
        refine lv_iload_n hx hb dX12_goesDay_60 rfl (lv_at hl 0 rfl) ?_
        refine lv_aload_n hx hb dX12_goesDay_61 rfl (lv_at hl 2 rfl) ?_
        refine va_get (D := D) (ci := 12) (v := .int (Int32.ofInt i_p0_seats)) (C := RX12) (T := TX12) (N := 37) hx hb hts inX12_goesDay_X12 hown hK hP 0 rfl rfl 2 (by decide) (hts _ mwX12_goesDay_3) (fun _ h9 => h9) rfl dX12_goesDay_62 ?_
        have hr25 := ck_c hf
        replace hf := ck_r hf
        have hr26 := ck_c hf
        replace hf := ck_r hf
        refine lv_icmp_ge (tgt := 86) hx hb dX12_goesDay_65 (by decide) (fun cc => ?_) (fun cc => ?_)
        ·
          replace hf := ite_t ((z_le hr26 hr25).mp cc) hf
          clear cc
          exact hJ9 _ _ _ _ (lv_sub hl [1, 2, 3] rfl) hP hD hS hf
        ·
          replace hf := ite_f (fun h9 => cc ((z_le hr26 hr25).mpr h9)) hf
          clear cc
          refine lv_aload_n hx hb dX12_goesDay_68 rfl (lv_at hl 2 rfl) ?_
          refine va_get (D := D) (ci := 12) (v := .ref a_p0_st) (C := RX12) (T := TX12) (N := 37) hx hb hts inX12_goesDay_X12 hown hK hP 0 rfl rfl 0 (by decide) (hts _ mwX12_goesDay_1) (fun _ h9 => h9) rfl dX12_goesDay_69 ?_
          refine lv_iload_n hx hb dX12_goesDay_72 rfl (lv_at hl 0 rfl) ?_
          refine lv_aload_n hx hb dX12_goesDay_73 rfl (lv_at hl 2 rfl) ?_
          refine va_get (D := D) (ci := 12) (v := .ref a_p0_stirred) (C := RX12) (T := TX12) (N := 37) hx hb hts inX12_goesDay_X12 hown hK hP 0 rfl rfl 22 (by decide) (hts _ mwX12_goesDay_5) (fun _ h9 => h9) rfl dX12_goesDay_74 ?_
          refine lv_iload_n hx hb dX12_goesDay_77 rfl (lv_at hl 0 rfl) ?_
          have hc := ck_c hf
          replace hf := ck_r hf
          refine va_iald hx hb hK hP 4 1 rfl rfl (z_ix_in hc) dX12_goesDay_78 (z_ci (z_ald w5 hc) ?_)
          clear hc
          have hc := ck_c hf
          replace hf := ck_r hf
          refine zs_iast (wf := fun w28 => [(a_p0, .inr (12, [.ref a_p0_st, .ref a_p0_isKept, .int (Int32.ofInt i_p0_seats), .int (Int32.ofInt i_p0_stirs), .ref a_p0_brings, .ref a_p0_need, .ref a_p0_draft, .int (Int32.ofInt i_p0_dSeats), .int (Int32.ofInt i_p0_dStirs), .ref a_p0_dStir, .ref a_p0_dNeed, .int (Int32.ofInt i_p0_told), .int (Int32.ofInt i_p0_highest), .ref a_p0_tape, .int (Int32.ofInt i_p0_taped), .int (Int32.ofInt i_p0_pos), .int (Int32.ofInt i_p0_from), .int (Int32.ofInt i_p0_sort), .int (Int32.ofInt i_p0_value), .int (Int32.ofInt i_p0_fault), .int (Int32.ofInt i_p0_wrongAt), .ref a_p0_places, .ref a_p0_stirred, .ref a_p0_ways, .ref a_p0_waysThen, .ref a_p0_stays, .ref a_p0_fewest, .ref a_p0_bowls, .ref a_p0_has, .ref a_p0_goesOn, .ref a_p0_isThere, .ref a_p0_isThereThen, .ref a_p0_bestRow, .ref a_p0_lanes, .ref a_p0_sizes, .ref a_p0_cells, .int (Int32.ofInt i_p0_torn)])), (a_p0_st, .inl (G 1, 152, .inl (zA w28))), (a_p0_brings, .inl (G 1, 35, .inl (zA v_p0_brings))), (a_p0_places, .inl (G 1, 7, .inl (zA w2))), (a_p0_stirred, .inl (G 1, 7, .inl (zA w5)))]) hx hb hK hP hD hS 1 1 rfl rfl hc dX12_goesDay_79 (fun _ => rfl) (fun w28 ez H locs hP hD hS => ?_)
          replace hf := bnd_s hf ez
          clear ez hc
          obtain ⟨z29, ez⟩ : ∃ y : Int, y = (z23 + (1 : Int)) := ⟨_, rfl⟩
          replace hf := bnd_s hf ez
          refine lv_iinc (v := Int32.ofInt z29) (lv' := [(3, .int (Int32.ofInt z29)), (2, .int (Int32.ofInt z3)), (0, .ref a_p0), (1, .int (Int32.ofInt x1))]) hx hb dX12_goesDay_80 hl (k := 0) rfl (by rw [ez]; exact (Int32.ofInt_add _ _).symm) (by decide) rfl (fun ls hl => ?_)
          clear ez
          refine lv_goto (tgt := 60) hx hb dX12_goesDay_83 (by decide) ?_
          exact ih60 _ _ _ _ _ (lv_sub hl [0, 1, 2, 3] rfl) hP hD hS hf
    exact hB25 _ _ _ _ _ _ (lv_sub hl [0, 1, 2, 3] rfl) hP hD hS hf
  have hq := lq2_i hf
  clear hf
  obtain ⟨B32, eB32, NB32, hf⟩ := hq
  have hB32 : ∀ (n : Nat) (z30 : Int) (w31 : (Int → Int)) (ls : Array Slot) (H : Heap) (locs : List Loc), lv_has ls 4 [(3, .int (Int32.ofInt z30)), (2, .int (Int32.ofInt z3)), (0, .ref a_p0), (1, .int (Int32.ofInt x1))] → va_P D vwCl [(a_p0, .inr (12, [.ref a_p0_st, .ref a_p0_isKept, .int (Int32.ofInt i_p0_seats), .int (Int32.ofInt i_p0_stirs), .ref a_p0_brings, .ref a_p0_need, .ref a_p0_draft, .int (Int32.ofInt i_p0_dSeats), .int (Int32.ofInt i_p0_dStirs), .ref a_p0_dStir, .ref a_p0_dNeed, .int (Int32.ofInt i_p0_told), .int (Int32.ofInt i_p0_highest), .ref a_p0_tape, .int (Int32.ofInt i_p0_taped), .int (Int32.ofInt i_p0_pos), .int (Int32.ofInt i_p0_from), .int (Int32.ofInt i_p0_sort), .int (Int32.ofInt i_p0_value), .int (Int32.ofInt i_p0_fault), .int (Int32.ofInt i_p0_wrongAt), .ref a_p0_places, .ref a_p0_stirred, .ref a_p0_ways, .ref a_p0_waysThen, .ref a_p0_stays, .ref a_p0_fewest, .ref a_p0_bowls, .ref a_p0_has, .ref a_p0_goesOn, .ref a_p0_isThere, .ref a_p0_isThereThen, .ref a_p0_bestRow, .ref a_p0_lanes, .ref a_p0_sizes, .ref a_p0_cells, .int (Int32.ofInt i_p0_torn)])), (a_p0_st, .inl (G 1, 152, .inl (zA v_p0_st))), (a_p0_brings, .inl (G 1, 35, .inl (zA v_p0_brings))), (a_p0_places, .inl (G 1, 7, .inl (zA w2))), (a_p0_stirred, .inl (G 1, 7, .inl (zA w31)))] H → va_D A [(a_p0, .inr (12, [.ref a_p0_st, .ref a_p0_isKept, .int (Int32.ofInt i_p0_seats), .int (Int32.ofInt i_p0_stirs), .ref a_p0_brings, .ref a_p0_need, .ref a_p0_draft, .int (Int32.ofInt i_p0_dSeats), .int (Int32.ofInt i_p0_dStirs), .ref a_p0_dStir, .ref a_p0_dNeed, .int (Int32.ofInt i_p0_told), .int (Int32.ofInt i_p0_highest), .ref a_p0_tape, .int (Int32.ofInt i_p0_taped), .int (Int32.ofInt i_p0_pos), .int (Int32.ofInt i_p0_from), .int (Int32.ofInt i_p0_sort), .int (Int32.ofInt i_p0_value), .int (Int32.ofInt i_p0_fault), .int (Int32.ofInt i_p0_wrongAt), .ref a_p0_places, .ref a_p0_stirred, .ref a_p0_ways, .ref a_p0_waysThen, .ref a_p0_stays, .ref a_p0_fewest, .ref a_p0_bowls, .ref a_p0_has, .ref a_p0_goesOn, .ref a_p0_isThere, .ref a_p0_isThereThen, .ref a_p0_bestRow, .ref a_p0_lanes, .ref a_p0_sizes, .ref a_p0_cells, .int (Int32.ofInt i_p0_torn)])), (a_p0_st, .inl (G 1, 152, .inl (zA v_p0_st))), (a_p0_brings, .inl (G 1, 35, .inl (zA v_p0_brings))), (a_p0_places, .inl (G 1, 7, .inl (zA w2))), (a_p0_stirred, .inl (G 1, 7, .inl (zA w31)))] → va_S A s.heap H locs → lq2 B32 n z30 w31 = some (o_v_p0_st, o_v_p0_places, o_v_p0_stirred) → W p l e rm_X12_goesDay s m ([.ref a_p0, .int (Int32.ofInt x1)] : List Value).toArray below meth c H locs 0 0 Q (F0 m 22 ls []) := by
    clear hf hl hP hD hS
    intro n
    induction n with
    | zero =>
      intro z30 w31 ls H locs hl hP hD hS hf
      exact (lq2_0 hf).elim
    | succ n ih22 =>
      intro z30 w31 ls H locs hl hP hD hS hf
      replace hf := lq2_s eB32 hf
      unfold B_X12_goesDay_22 at hf
      refine lv_iload_n hx hb dX12_goesDay_22 rfl (lv_at hl 0 rfl) ?_
      refine lv_aload_n hx hb dX12_goesDay_23 rfl (lv_at hl 2 rfl) ?_
      refine va_get (D := D) (ci := 12) (v := .int (Int32.ofInt i_p0_seats)) (C := RX12) (T := TX12) (N := 37) hx hb hts inX12_goesDay_X12 hown hK hP 0 rfl rfl 2 (by decide) (hts _ mwX12_goesDay_3) (fun _ h9 => h9) rfl dX12_goesDay_24 ?_
      have hr32 := ck_c hf
      replace hf := ck_r hf
      have hr33 := ck_c hf
      replace hf := ck_r hf
      refine lv_icmp_ge (tgt := 58) hx hb dX12_goesDay_27 (by decide) (fun cc => ?_) (fun cc => ?_)
      ·
        replace hf := ite_t ((z_le hr33 hr32).mp cc) hf
        clear cc
        exact hJ6 _ _ _ _ (lv_sub hl [1, 2, 3] rfl) hP hD hS hf
      ·
        replace hf := ite_f (fun h9 => cc ((z_le hr33 hr32).mpr h9)) hf
        clear cc
        refine lv_aload_n hx hb dX12_goesDay_30 rfl (lv_at hl 2 rfl) ?_
        refine va_get (D := D) (ci := 12) (v := .ref a_p0_stirred) (C := RX12) (T := TX12) (N := 37) hx hb hts inX12_goesDay_X12 hown hK hP 0 rfl rfl 22 (by decide) (hts _ mwX12_goesDay_5) (fun _ h9 => h9) rfl dX12_goesDay_31 ?_
        refine lv_aload_n hx hb dX12_goesDay_34 rfl (lv_at hl 2 rfl) ?_
        refine va_get (D := D) (ci := 12) (v := .ref a_p0_brings) (C := RX12) (T := TX12) (N := 37) hx hb hts inX12_goesDay_X12 hown hK hP 0 rfl rfl 4 (by decide) (hts _ mwX12_goesDay_2) (fun _ h9 => h9) rfl dX12_goesDay_35 ?_
        refine lv_bipush (v := Int32.ofInt (7 : Int)) hx hb dX12_goesDay_38 (by decide) ?_
        refine lv_iload_n hx hb dX12_goesDay_40 rfl (lv_at hl 3 rfl) ?_
        refine lv_imul hx hb dX12_goesDay_41 (z_ci (Int32.ofInt_mul (7 : Int) x1) ?_)
        refine lv_iload_n hx hb dX12_goesDay_42 rfl (lv_at hl 0 rfl) ?_
        refine lv_iadd hx hb dX12_goesDay_43 (z_ci (Int32.ofInt_add ((7 : Int) * x1) z30) ?_)
        have hc := ck_c hf
        replace hf := ck_r hf
        refine va_iald hx hb hK hP 2 1 rfl rfl (z_ix_in hc) dX12_goesDay_44 (z_ci (z_ald v_p0_brings hc) ?_)
        clear hc
        refine lv_aload_n hx hb dX12_goesDay_45 rfl (lv_at hl 2 rfl) ?_
        refine va_get (D := D) (ci := 12) (v := .ref a_p0_st) (C := RX12) (T := TX12) (N := 37) hx hb hts inX12_goesDay_X12 hown hK hP 0 rfl rfl 0 (by decide) (hts _ mwX12_goesDay_1) (fun _ h9 => h9) rfl dX12_goesDay_46 ?_
        refine lv_iload_n hx hb dX12_goesDay_49 rfl (lv_at hl 0 rfl) ?_
        have hc := ck_c hf
        replace hf := ck_r hf
        refine va_iald hx hb hK hP 1 1 rfl rfl (z_ix_in hc) dX12_goesDay_50 (z_ci (z_ald v_p0_st hc) ?_)
        clear hc
        have hc := ck_c hf
        replace hf := ck_r hf
        refine zs_iast (wf := fun w35 => [(a_p0, .inr (12, [.ref a_p0_st, .ref a_p0_isKept, .int (Int32.ofInt i_p0_seats), .int (Int32.ofInt i_p0_stirs), .ref a_p0_brings, .ref a_p0_need, .ref a_p0_draft, .int (Int32.ofInt i_p0_dSeats), .int (Int32.ofInt i_p0_dStirs), .ref a_p0_dStir, .ref a_p0_dNeed, .int (Int32.ofInt i_p0_told), .int (Int32.ofInt i_p0_highest), .ref a_p0_tape, .int (Int32.ofInt i_p0_taped), .int (Int32.ofInt i_p0_pos), .int (Int32.ofInt i_p0_from), .int (Int32.ofInt i_p0_sort), .int (Int32.ofInt i_p0_value), .int (Int32.ofInt i_p0_fault), .int (Int32.ofInt i_p0_wrongAt), .ref a_p0_places, .ref a_p0_stirred, .ref a_p0_ways, .ref a_p0_waysThen, .ref a_p0_stays, .ref a_p0_fewest, .ref a_p0_bowls, .ref a_p0_has, .ref a_p0_goesOn, .ref a_p0_isThere, .ref a_p0_isThereThen, .ref a_p0_bestRow, .ref a_p0_lanes, .ref a_p0_sizes, .ref a_p0_cells, .int (Int32.ofInt i_p0_torn)])), (a_p0_st, .inl (G 1, 152, .inl (zA v_p0_st))), (a_p0_brings, .inl (G 1, 35, .inl (zA v_p0_brings))), (a_p0_places, .inl (G 1, 7, .inl (zA w2))), (a_p0_stirred, .inl (G 1, 7, .inl (zA w35)))]) hx hb hK hP hD hS 4 1 rfl rfl hc dX12_goesDay_51 (fun _ => rfl) (fun w35 ez H locs hP hD hS => ?_)
        replace hf := bnd_s hf ez
        clear ez hc
        obtain ⟨z36, ez⟩ : ∃ y : Int, y = (z30 + (1 : Int)) := ⟨_, rfl⟩
        replace hf := bnd_s hf ez
        refine lv_iinc (v := Int32.ofInt z36) (lv' := [(3, .int (Int32.ofInt z36)), (2, .int (Int32.ofInt z3)), (0, .ref a_p0), (1, .int (Int32.ofInt x1))]) hx hb dX12_goesDay_52 hl (k := 0) rfl (by rw [ez]; exact (Int32.ofInt_add _ _).symm) (by decide) rfl (fun ls hl => ?_)
        clear ez
        refine lv_goto (tgt := 22) hx hb dX12_goesDay_55 (by decide) ?_
        exact ih22 _ _ _ _ _ (lv_sub hl [0, 1, 2, 3] rfl) hP hD hS hf
  exact hB32 _ _ _ _ _ _ (lv_sub hl [0, 1, 2, 3] rfl) hP hD hS hf

noncomputable def f_X12_day (i_p0_seats : Int) (i_p0_stirs : Int) (v_p0_st : (Int → Int)) (v_p0_brings : (Int → Int)) (v_p0_places : (Int → Int)) (v_p0_stirred : (Int → Int)) (x1 : Int) : Option (Int × (Int → Int) × (Int → Int) × (Int → Int)) := (bd1 (f_X12_isStir i_p0_stirs x1) (fun (z1 : Int) => (ck (z_r32 z1) (if z1 = (0 : Int) then (some ((-1 : Int), v_p0_st, v_p0_places, v_p0_stirred)) else (ck (z_ix (30 : Int) 152) (ck (z_r32 (v_p0_st (30 : Int))) (if (v_p0_st (30 : Int)) = (999 : Int) then (some ((-3 : Int), v_p0_st, v_p0_places, v_p0_stirred)) else (bd3 (f_X12_goesDay i_p0_seats v_p0_st v_p0_brings v_p0_places v_p0_stirred x1) (fun (w4 : (Int → Int)) (w5 : (Int → Int)) (w6 : (Int → Int)) => (ck (z_ix (8 : Int) 152) (some ((w4 (8 : Int)), w4, w5, w6))))))))))))
abbrev rm_X12_day : Room := { frames := 4, cells := 0, slots := 0, locals := 93 }
theorem inX12_day_X12 : ∀ w ∈ wsX120, w ∈ wsX12_day := by first | exact fun w h => List.mem_cons_of_mem _ (List.mem_append_right _ h) | decide +kernel
theorem mwX12_day_1 : Cond.fieldLink RX12 7 "LadleKingsModel" "st" "[I" ∈ wsX12_day := by first | exact List.mem_of_getElem? (i := 1) rfl | decide +kernel
theorem hdV_yX12_goesDay_RX12 : yX12_goesDay.cls = RX12 ∧ yX12_goesDay.cls ≠ "java/lang/invoke/MethodHandle" ∧ yX12_goesDay.cls ≠ "java/lang/invoke/VarHandle" ∧ (parseMethodDescriptor yX12_goesDay.desc).map (fun d => d.parameters.length) = some 1 := by decide +kernel
set_option maxHeartbeats 8000000 in
set_option maxRecDepth 100000 in
theorem c_X12_day (l : Launch) (D : va_G) (G : Nat → ClassId) (sz : Nat) (a_p0 : Nat) (a_p0_st : Nat) (a_p0_isKept : Nat) (a_p0_brings : Nat) (a_p0_need : Nat) (a_p0_draft : Nat) (a_p0_dStir : Nat) (a_p0_dNeed : Nat) (a_p0_tape : Nat) (a_p0_places : Nat) (a_p0_stirred : Nat) (a_p0_ways : Nat) (a_p0_waysThen : Nat) (a_p0_stays : Nat) (a_p0_fewest : Nat) (a_p0_bowls : Nat) (a_p0_has : Nat) (a_p0_goesOn : Nat) (a_p0_isThere : Nat) (a_p0_isThereThen : Nat) (a_p0_bestRow : Nat) (a_p0_lanes : Nat) (a_p0_sizes : Nat) (a_p0_cells : Nat) (i_p0_seats : Int) (i_p0_stirs : Int) (i_p0_dSeats : Int) (i_p0_dStirs : Int) (i_p0_told : Int) (i_p0_highest : Int) (i_p0_taped : Int) (i_p0_pos : Int) (i_p0_from : Int) (i_p0_sort : Int) (i_p0_value : Int) (i_p0_fault : Int) (i_p0_wrongAt : Int) (i_p0_torn : Int) (v_p0_st : (Int → Int)) (v_p0_brings : (Int → Int)) (v_p0_places : (Int → Int)) (v_p0_stirred : (Int → Int)) (x1 : Int) (r : Int) (o_v_p0_st : (Int → Int)) (o_v_p0_places : (Int → Int)) (o_v_p0_stirred : (Int → Int)) (hf : f_X12_day i_p0_seats i_p0_stirs v_p0_st v_p0_brings v_p0_places v_p0_stirred x1 = some (r, o_v_p0_st, o_v_p0_places, o_v_p0_stirred)) : Met l yX12_day wsX12_day rm_X12_day (pcG D G [.ref a_p0, .int (Int32.ofInt x1)] sz [(a_p0, .inr (12, [.ref a_p0_st, .ref a_p0_isKept, .int (Int32.ofInt i_p0_seats), .int (Int32.ofInt i_p0_stirs), .ref a_p0_brings, .ref a_p0_need, .ref a_p0_draft, .int (Int32.ofInt i_p0_dSeats), .int (Int32.ofInt i_p0_dStirs), .ref a_p0_dStir, .ref a_p0_dNeed, .int (Int32.ofInt i_p0_told), .int (Int32.ofInt i_p0_highest), .ref a_p0_tape, .int (Int32.ofInt i_p0_taped), .int (Int32.ofInt i_p0_pos), .int (Int32.ofInt i_p0_from), .int (Int32.ofInt i_p0_sort), .int (Int32.ofInt i_p0_value), .int (Int32.ofInt i_p0_fault), .int (Int32.ofInt i_p0_wrongAt), .ref a_p0_places, .ref a_p0_stirred, .ref a_p0_ways, .ref a_p0_waysThen, .ref a_p0_stays, .ref a_p0_fewest, .ref a_p0_bowls, .ref a_p0_has, .ref a_p0_goesOn, .ref a_p0_isThere, .ref a_p0_isThereThen, .ref a_p0_bestRow, .ref a_p0_lanes, .ref a_p0_sizes, .ref a_p0_cells, .int (Int32.ofInt i_p0_torn)])), (a_p0_st, .inl (G 1, 152, .inl (zA v_p0_st))), (a_p0_brings, .inl (G 1, 35, .inl (zA v_p0_brings))), (a_p0_places, .inl (G 1, 7, .inl (zA v_p0_places))), (a_p0_stirred, .inl (G 1, 7, .inl (zA v_p0_stirred)))]) (qcI D G (Int32.ofInt r) [(a_p0, .inr (12, [.ref a_p0_st, .ref a_p0_isKept, .int (Int32.ofInt i_p0_seats), .int (Int32.ofInt i_p0_stirs), .ref a_p0_brings, .ref a_p0_need, .ref a_p0_draft, .int (Int32.ofInt i_p0_dSeats), .int (Int32.ofInt i_p0_dStirs), .ref a_p0_dStir, .ref a_p0_dNeed, .int (Int32.ofInt i_p0_told), .int (Int32.ofInt i_p0_highest), .ref a_p0_tape, .int (Int32.ofInt i_p0_taped), .int (Int32.ofInt i_p0_pos), .int (Int32.ofInt i_p0_from), .int (Int32.ofInt i_p0_sort), .int (Int32.ofInt i_p0_value), .int (Int32.ofInt i_p0_fault), .int (Int32.ofInt i_p0_wrongAt), .ref a_p0_places, .ref a_p0_stirred, .ref a_p0_ways, .ref a_p0_waysThen, .ref a_p0_stays, .ref a_p0_fewest, .ref a_p0_bowls, .ref a_p0_has, .ref a_p0_goesOn, .ref a_p0_isThere, .ref a_p0_isThereThen, .ref a_p0_bestRow, .ref a_p0_lanes, .ref a_p0_sizes, .ref a_p0_cells, .int (Int32.ofInt i_p0_torn)])), (a_p0_st, .inl (G 1, 152, .inl (zA o_v_p0_st))), (a_p0_brings, .inl (G 1, 35, .inl (zA v_p0_brings))), (a_p0_places, .inl (G 1, 7, .inl (zA o_v_p0_places))), (a_p0_stirred, .inl (G 1, 7, .inl (zA o_v_p0_stirred)))] (va_A [(a_p0, .inr (12, [.ref a_p0_st, .ref a_p0_isKept, .int (Int32.ofInt i_p0_seats), .int (Int32.ofInt i_p0_stirs), .ref a_p0_brings, .ref a_p0_need, .ref a_p0_draft, .int (Int32.ofInt i_p0_dSeats), .int (Int32.ofInt i_p0_dStirs), .ref a_p0_dStir, .ref a_p0_dNeed, .int (Int32.ofInt i_p0_told), .int (Int32.ofInt i_p0_highest), .ref a_p0_tape, .int (Int32.ofInt i_p0_taped), .int (Int32.ofInt i_p0_pos), .int (Int32.ofInt i_p0_from), .int (Int32.ofInt i_p0_sort), .int (Int32.ofInt i_p0_value), .int (Int32.ofInt i_p0_fault), .int (Int32.ofInt i_p0_wrongAt), .ref a_p0_places, .ref a_p0_stirred, .ref a_p0_ways, .ref a_p0_waysThen, .ref a_p0_stays, .ref a_p0_fewest, .ref a_p0_bowls, .ref a_p0_has, .ref a_p0_goesOn, .ref a_p0_isThere, .ref a_p0_isThereThen, .ref a_p0_bestRow, .ref a_p0_lanes, .ref a_p0_sizes, .ref a_p0_cells, .int (Int32.ofInt i_p0_torn)])), (a_p0_st, .inl (G 1, 152, .inl (zA v_p0_st))), (a_p0_brings, .inl (G 1, 35, .inl (zA v_p0_brings))), (a_p0_places, .inl (G 1, 7, .inl (zA v_p0_places))), (a_p0_stirred, .inl (G 1, 7, .inl (zA v_p0_stirred)))] sz)) 0 0 (va_A [(a_p0, .inr (12, [.ref a_p0_st, .ref a_p0_isKept, .int (Int32.ofInt i_p0_seats), .int (Int32.ofInt i_p0_stirs), .ref a_p0_brings, .ref a_p0_need, .ref a_p0_draft, .int (Int32.ofInt i_p0_dSeats), .int (Int32.ofInt i_p0_dStirs), .ref a_p0_dStir, .ref a_p0_dNeed, .int (Int32.ofInt i_p0_told), .int (Int32.ofInt i_p0_highest), .ref a_p0_tape, .int (Int32.ofInt i_p0_taped), .int (Int32.ofInt i_p0_pos), .int (Int32.ofInt i_p0_from), .int (Int32.ofInt i_p0_sort), .int (Int32.ofInt i_p0_value), .int (Int32.ofInt i_p0_fault), .int (Int32.ofInt i_p0_wrongAt), .ref a_p0_places, .ref a_p0_stirred, .ref a_p0_ways, .ref a_p0_waysThen, .ref a_p0_stays, .ref a_p0_fewest, .ref a_p0_bowls, .ref a_p0_has, .ref a_p0_goesOn, .ref a_p0_isThere, .ref a_p0_isThereThen, .ref a_p0_bestRow, .ref a_p0_lanes, .ref a_p0_sizes, .ref a_p0_cells, .int (Int32.ofInt i_p0_torn)])), (a_p0_st, .inl (G 1, 152, .inl (zA v_p0_st))), (a_p0_brings, .inl (G 1, 35, .inl (zA v_p0_brings))), (a_p0_places, .inl (G 1, 7, .inl (zA v_p0_places))), (a_p0_stirred, .inl (G 1, 7, .inl (zA v_p0_stirred)))] sz) := by
  refine Met.ofW (cc := cX12_day) (maxL := 2) (ret := (some .int)) (by decide) rfl ?_
  intro p e s m args below meth c s₁ B hml hv
  obtain ⟨rfl, hsz, hP, hK, hD0⟩ := hv
  have hx := B.exec
  have hb := B.bytes
  have hr := B.returns
  have hts := atoms_spec (ws := wsX12_day) B.pre
  have hown : s.vm.findClass RX12 = some m.cls := findClass_of_methodNamed B.named
  have hlocks := B.notSynchronized
  subst hsz
  have hD := hD0.self (sz := s.heap.size)
  generalize hAe : va_A [(a_p0, .inr (12, [.ref a_p0_st, .ref a_p0_isKept, .int (Int32.ofInt i_p0_seats), .int (Int32.ofInt i_p0_stirs), .ref a_p0_brings, .ref a_p0_need, .ref a_p0_draft, .int (Int32.ofInt i_p0_dSeats), .int (Int32.ofInt i_p0_dStirs), .ref a_p0_dStir, .ref a_p0_dNeed, .int (Int32.ofInt i_p0_told), .int (Int32.ofInt i_p0_highest), .ref a_p0_tape, .int (Int32.ofInt i_p0_taped), .int (Int32.ofInt i_p0_pos), .int (Int32.ofInt i_p0_from), .int (Int32.ofInt i_p0_sort), .int (Int32.ofInt i_p0_value), .int (Int32.ofInt i_p0_fault), .int (Int32.ofInt i_p0_wrongAt), .ref a_p0_places, .ref a_p0_stirred, .ref a_p0_ways, .ref a_p0_waysThen, .ref a_p0_stays, .ref a_p0_fewest, .ref a_p0_bowls, .ref a_p0_has, .ref a_p0_goesOn, .ref a_p0_isThere, .ref a_p0_isThereThen, .ref a_p0_bestRow, .ref a_p0_lanes, .ref a_p0_sizes, .ref a_p0_cells, .int (Int32.ofInt i_p0_torn)])), (a_p0_st, .inl (G 1, 152, .inl (zA v_p0_st))), (a_p0_brings, .inl (G 1, 35, .inl (zA v_p0_brings))), (a_p0_places, .inl (G 1, 7, .inl (zA v_p0_places))), (a_p0_stirred, .inl (G 1, 7, .inl (zA v_p0_stirred)))] s.heap.size = A at hD ⊢
  have hA : ∀ q : Nat, s.heap.size ≤ q → A q := fun q h => by rw [← hAe]; exact Or.inr h
  clear hAe hD0
  have hS : va_S A s.heap s.heap [] := va_S.rf
  have hl := lv_entry ([.ref a_p0, .int (Int32.ofInt x1)]) (n := 2) (Nat.le_of_ble_eq_true rfl)
  rw [lg_entry_eq]
  generalize (lg_sl ([.ref a_p0, .int (Int32.ofInt x1)]) ++ List.replicate (2 - (lg_sl ([.ref a_p0, .int (Int32.ofInt x1)])).length) Slot.unset).toArray = ls at hl ⊢
  have hl : lv_has ls 2 [(0, .ref a_p0), (1, .int (Int32.ofInt x1))] := hl
  refine W_nameQ (fun Q hQ => ?_)
  obtain ⟨H, hH⟩ : ∃ H, H = s.heap := ⟨_, rfl⟩
  replace hS : va_S A s.heap H [] := by rw [hH]; exact hS
  replace hP : va_P D vwCl [(a_p0, .inr (12, [.ref a_p0_st, .ref a_p0_isKept, .int (Int32.ofInt i_p0_seats), .int (Int32.ofInt i_p0_stirs), .ref a_p0_brings, .ref a_p0_need, .ref a_p0_draft, .int (Int32.ofInt i_p0_dSeats), .int (Int32.ofInt i_p0_dStirs), .ref a_p0_dStir, .ref a_p0_dNeed, .int (Int32.ofInt i_p0_told), .int (Int32.ofInt i_p0_highest), .ref a_p0_tape, .int (Int32.ofInt i_p0_taped), .int (Int32.ofInt i_p0_pos), .int (Int32.ofInt i_p0_from), .int (Int32.ofInt i_p0_sort), .int (Int32.ofInt i_p0_value), .int (Int32.ofInt i_p0_fault), .int (Int32.ofInt i_p0_wrongAt), .ref a_p0_places, .ref a_p0_stirred, .ref a_p0_ways, .ref a_p0_waysThen, .ref a_p0_stays, .ref a_p0_fewest, .ref a_p0_bowls, .ref a_p0_has, .ref a_p0_goesOn, .ref a_p0_isThere, .ref a_p0_isThereThen, .ref a_p0_bestRow, .ref a_p0_lanes, .ref a_p0_sizes, .ref a_p0_cells, .int (Int32.ofInt i_p0_torn)])), (a_p0_st, .inl (G 1, 152, .inl (zA v_p0_st))), (a_p0_brings, .inl (G 1, 35, .inl (zA v_p0_brings))), (a_p0_places, .inl (G 1, 7, .inl (zA v_p0_places))), (a_p0_stirred, .inl (G 1, 7, .inl (zA v_p0_stirred)))] H := by rw [hH]; exact hP
  rw [← hH]
  clear hH
  unfold f_X12_day at hf
  refine lv_aload_n hx hb dX12_day_0 rfl (lv_at hl 0 rfl) ?_
  refine lv_iload_n hx hb dX12_day_1 rfl (lv_at hl 1 rfl) ?_
  have hq := bd1_s hf
  clear hf
  obtain ⟨z1, hcall, hf⟩ := hq
  refine gnI (va_runV (As := [.int (Int32.ofInt x1)]) (rest := []) ⟨hx, hb, hml, hown, hts⟩ (c_X12_isStir (l := l) (D := D) (G := G) (sz := H.size) (a_p0 := a_p0) (a_p0_st := a_p0_st) (a_p0_isKept := a_p0_isKept) (a_p0_brings := a_p0_brings) (a_p0_need := a_p0_need) (a_p0_draft := a_p0_draft) (a_p0_dStir := a_p0_dStir) (a_p0_dNeed := a_p0_dNeed) (a_p0_tape := a_p0_tape) (a_p0_places := a_p0_places) (a_p0_stirred := a_p0_stirred) (a_p0_ways := a_p0_ways) (a_p0_waysThen := a_p0_waysThen) (a_p0_stays := a_p0_stays) (a_p0_fewest := a_p0_fewest) (a_p0_bowls := a_p0_bowls) (a_p0_has := a_p0_has) (a_p0_goesOn := a_p0_goesOn) (a_p0_isThere := a_p0_isThere) (a_p0_isThereThen := a_p0_isThereThen) (a_p0_bestRow := a_p0_bestRow) (a_p0_lanes := a_p0_lanes) (a_p0_sizes := a_p0_sizes) (a_p0_cells := a_p0_cells) (i_p0_seats := i_p0_seats) (i_p0_stirs := i_p0_stirs) (i_p0_dSeats := i_p0_dSeats) (i_p0_dStirs := i_p0_dStirs) (i_p0_told := i_p0_told) (i_p0_highest := i_p0_highest) (i_p0_taped := i_p0_taped) (i_p0_pos := i_p0_pos) (i_p0_from := i_p0_from) (i_p0_sort := i_p0_sort) (i_p0_value := i_p0_value) (i_p0_fault := i_p0_fault) (i_p0_wrongAt := i_p0_wrongAt) (i_p0_torn := i_p0_torn) (x1 := x1) (r := z1) (hf := hcall)) (cwV 1 hts gX12_day_X12_isStir rfl rfl rfl hdV_yX12_isStir_RX12 ⟨Nat.le_of_ble_eq_true rfl, Nat.le_of_ble_eq_true rfl⟩) (preG_V (ci := 12) (q := (RX12, TX12, 37)) (hP.sub [0] rfl) (hD.sub [0] rfl rfl) hK rfl rfl) rfl rfl hl.1 rfl (lv_room (Nat.le_of_ble_eq_true rfl)) dX12_day_2 ⟨Nat.le_of_ble_eq_true rfl, Nat.le_of_ble_eq_true rfl⟩) hP hD hS hA [0] rfl (fun H locs hP hD hS => ?_)
  clear hcall
  have hr1 := ck_c hf
  replace hf := ck_r hf
  refine lv_if_ne (tgt := 10) hx hb dX12_day_5 (by decide) (fun cc => ?_) (fun cc => ?_)
  ·
    replace hf := ite_f (fun h9 => cc ((z_eq0 hr1).mpr h9)) hf
    clear cc
    refine lv_aload_n hx hb dX12_day_10 rfl (lv_at hl 0 rfl) ?_
    refine va_get (D := D) (ci := 12) (v := .ref a_p0_st) (C := RX12) (T := TX12) (N := 37) hx hb hts inX12_day_X12 hown hK hP 0 rfl rfl 0 (by decide) (hts _ mwX12_day_1) (fun _ h9 => h9) rfl dX12_day_11 ?_
    refine lv_bipush (v := Int32.ofInt (30 : Int)) hx hb dX12_day_14 (by decide) ?_
    have hc := ck_c hf
    replace hf := ck_r hf
    refine va_iald hx hb hK hP 1 1 rfl rfl (z_ix_in hc) dX12_day_16 (z_ci (z_ald v_p0_st hc) ?_)
    clear hc
    refine lv_sipush (v := Int32.ofInt (999 : Int)) hx hb dX12_day_17 (by decide) ?_
    have hr2 := ck_c hf
    replace hf := ck_r hf
    refine lv_icmp_ne (tgt := 26) hx hb dX12_day_20 (by decide) (fun cc => ?_) (fun cc => ?_)
    ·
      replace hf := ite_f (fun h9 => cc ((z_eq hr2 (by decide)).mpr h9)) hf
      clear cc
      refine lv_aload_n hx hb dX12_day_26 rfl (lv_at hl 0 rfl) ?_
      refine lv_iload_n hx hb dX12_day_27 rfl (lv_at hl 1 rfl) ?_
      have hq := bd3_s hf
      clear hf
      obtain ⟨w4, w5, w6, hcall, hf⟩ := hq
      refine gsV (ws' := [(a_p0, .inr (12, [.ref a_p0_st, .ref a_p0_isKept, .int (Int32.ofInt i_p0_seats), .int (Int32.ofInt i_p0_stirs), .ref a_p0_brings, .ref a_p0_need, .ref a_p0_draft, .int (Int32.ofInt i_p0_dSeats), .int (Int32.ofInt i_p0_dStirs), .ref a_p0_dStir, .ref a_p0_dNeed, .int (Int32.ofInt i_p0_told), .int (Int32.ofInt i_p0_highest), .ref a_p0_tape, .int (Int32.ofInt i_p0_taped), .int (Int32.ofInt i_p0_pos), .int (Int32.ofInt i_p0_from), .int (Int32.ofInt i_p0_sort), .int (Int32.ofInt i_p0_value), .int (Int32.ofInt i_p0_fault), .int (Int32.ofInt i_p0_wrongAt), .ref a_p0_places, .ref a_p0_stirred, .ref a_p0_ways, .ref a_p0_waysThen, .ref a_p0_stays, .ref a_p0_fewest, .ref a_p0_bowls, .ref a_p0_has, .ref a_p0_goesOn, .ref a_p0_isThere, .ref a_p0_isThereThen, .ref a_p0_bestRow, .ref a_p0_lanes, .ref a_p0_sizes, .ref a_p0_cells, .int (Int32.ofInt i_p0_torn)])), (a_p0_st, .inl (G 1, 152, .inl (zA w4))), (a_p0_brings, .inl (G 1, 35, .inl (zA v_p0_brings))), (a_p0_places, .inl (G 1, 7, .inl (zA w5))), (a_p0_stirred, .inl (G 1, 7, .inl (zA w6)))]) (va_runV (As := [.int (Int32.ofInt x1)]) (rest := []) ⟨hx, hb, hml, hown, hts⟩ (c_X12_goesDay (l := l) (D := D) (G := G) (sz := H.size) (a_p0 := a_p0) (a_p0_st := a_p0_st) (a_p0_isKept := a_p0_isKept) (a_p0_brings := a_p0_brings) (a_p0_need := a_p0_need) (a_p0_draft := a_p0_draft) (a_p0_dStir := a_p0_dStir) (a_p0_dNeed := a_p0_dNeed) (a_p0_tape := a_p0_tape) (a_p0_places := a_p0_places) (a_p0_stirred := a_p0_stirred) (a_p0_ways := a_p0_ways) (a_p0_waysThen := a_p0_waysThen) (a_p0_stays := a_p0_stays) (a_p0_fewest := a_p0_fewest) (a_p0_bowls := a_p0_bowls) (a_p0_has := a_p0_has) (a_p0_goesOn := a_p0_goesOn) (a_p0_isThere := a_p0_isThere) (a_p0_isThereThen := a_p0_isThereThen) (a_p0_bestRow := a_p0_bestRow) (a_p0_lanes := a_p0_lanes) (a_p0_sizes := a_p0_sizes) (a_p0_cells := a_p0_cells) (i_p0_seats := i_p0_seats) (i_p0_stirs := i_p0_stirs) (i_p0_dSeats := i_p0_dSeats) (i_p0_dStirs := i_p0_dStirs) (i_p0_told := i_p0_told) (i_p0_highest := i_p0_highest) (i_p0_taped := i_p0_taped) (i_p0_pos := i_p0_pos) (i_p0_from := i_p0_from) (i_p0_sort := i_p0_sort) (i_p0_value := i_p0_value) (i_p0_fault := i_p0_fault) (i_p0_wrongAt := i_p0_wrongAt) (i_p0_torn := i_p0_torn) (v_p0_st := v_p0_st) (v_p0_brings := v_p0_brings) (v_p0_places := v_p0_places) (v_p0_stirred := v_p0_stirred) (x1 := x1) (o_v_p0_st := w4) (o_v_p0_places := w5) (o_v_p0_stirred := w6) (hf := hcall)) (cwV 1 hts gX12_day_X12_goesDay rfl rfl rfl hdV_yX12_goesDay_RX12 ⟨Nat.le_of_ble_eq_true rfl, Nat.le_of_ble_eq_true rfl⟩) (preG_V (ci := 12) (q := (RX12, TX12, 37)) (hP.sub [0, 1, 2, 3, 4] rfl) (hD.sub [0, 1, 2, 3, 4] rfl rfl) hK rfl rfl) rfl rfl hl.1 rfl (lv_room (Nat.le_of_ble_eq_true rfl)) dX12_day_28 ⟨Nat.le_of_ble_eq_true rfl, Nat.le_of_ble_eq_true rfl⟩) hP hD hS hA [0, 1, 2, 3, 4] rfl rfl rfl (fun H locs hP hD hS => ?_)
      clear hcall
      refine lv_aload_n hx hb dX12_day_31 rfl (lv_at hl 0 rfl) ?_
      refine va_get (D := D) (ci := 12) (v := .ref a_p0_st) (C := RX12) (T := TX12) (N := 37) hx hb hts inX12_day_X12 hown hK hP 0 rfl rfl 0 (by decide) (hts _ mwX12_day_1) (fun _ h9 => h9) rfl dX12_day_32 ?_
      refine lv_bipush (v := Int32.ofInt (8 : Int)) hx hb dX12_day_35 (by decide) ?_
      have hc := ck_c hf
      replace hf := ck_r hf
      refine va_iald hx hb hK hP 1 1 rfl rfl (z_ix_in hc) dX12_day_37 (z_ci (z_ald w4 hc) ?_)
      clear hc
      obtain ⟨rfl, rfl, rfl, rfl⟩ := ou4 hf
      rw [hQ]
      exact W.iret hx hb hr (fun t ht hW => ⟨⟨_, (), rfl, rfl, by rw [ht]; exact hP, va_K.moved hW.alike hK, hD⟩, hS.F ht⟩) hS.2.2 dX12_day_38
    ·
      replace hf := ite_t ((z_eq hr2 (by decide)).mp cc) hf
      clear cc
      refine lv_bipush (v := Int32.ofInt (-3 : Int)) hx hb dX12_day_23 (by decide) ?_
      obtain ⟨rfl, rfl, rfl, rfl⟩ := ou4 hf
      rw [hQ]
      exact W.iret hx hb hr (fun t ht hW => ⟨⟨_, (), rfl, rfl, by rw [ht]; exact hP, va_K.moved hW.alike hK, hD⟩, hS.F ht⟩) hS.2.2 dX12_day_25
  ·
    replace hf := ite_t ((z_eq0 hr1).mp cc) hf
    clear cc
    refine lv_iconst (v := Int32.ofInt (-1 : Int)) hx hb dX12_day_8 (by decide) ?_
    obtain ⟨rfl, rfl, rfl, rfl⟩ := ou4 hf
    rw [hQ]
    exact W.iret hx hb hr (fun t ht hW => ⟨⟨_, (), rfl, rfl, by rw [ht]; exact hP, va_K.moved hW.alike hK, hD⟩, hS.F ht⟩) hS.2.2 dX12_day_9

noncomputable def B_X12_hungry_4 (i_p0_seats : Int) (v_p0_st : (Int → Int)) (v_p0_need : (Int → Int)) (again4 : Int → Int → Option (Int)) (z3 : Int) (z4 : Int) : Option (Int) := (ck (z_r32 z3) (ck (z_r32 i_p0_seats) (if i_p0_seats ≤ z3 then (some z4) else (ck (z_ix ((23 : Int) + z3) 152) (ck (z_ix z3 7) (ck (z_ix (30 : Int) 152) (ck (z_r32 (v_p0_st ((23 : Int) + z3))) (ck (z_r32 ((v_p0_need z3) * (v_p0_st (30 : Int)))) (jn (fun (z10 : Int) (z11 : Int) => (bd1 (f_X12_flag z11) (fun (z13 : Int) => (bnd (z_or z10 (z_shl z13 z3)) (fun (z14 : Int) => (bnd (z3 + (1 : Int)) (fun (z15 : Int) => (again4 z15 z14)))))))) (fun (J12 : Int → Int → Option (Int)) => (if ((v_p0_need z3) * (v_p0_st (30 : Int))) ≤ (v_p0_st ((23 : Int) + z3)) then (J12 z4 (0 : Int)) else (J12 z4 (1 : Int)))))))))))))
noncomputable def f_X12_hungry (i_p0_seats : Int) (v_p0_st : (Int → Int)) (v_p0_need : (Int → Int)) : Option (Int) := (bnd (0 : Int) (fun (z1 : Int) => (bnd (0 : Int) (fun (z2 : Int) => (lq2 (B_X12_hungry_4 i_p0_seats v_p0_st v_p0_need) 1000 z2 z1)))))
abbrev rm_X12_hungry : Room := { frames := 1, cells := 0, slots := 0, locals := 20 }
theorem inX12_hungry_X12 : ∀ w ∈ wsX120, w ∈ wsX12_hungry := by first | exact fun w h => List.mem_cons_of_mem _ (List.mem_append_right _ h) | decide +kernel
theorem mwX12_hungry_1 : Cond.fieldLink RX12 100 "LadleKingsModel" "seats" "I" ∈ wsX12_hungry := by first | exact List.mem_of_getElem? (i := 1) rfl | decide +kernel
theorem mwX12_hungry_2 : Cond.fieldLink RX12 7 "LadleKingsModel" "st" "[I" ∈ wsX12_hungry := by first | exact List.mem_of_getElem? (i := 2) rfl | decide +kernel
theorem mwX12_hungry_3 : Cond.fieldLink RX12 20 "LadleKingsModel" "need" "[I" ∈ wsX12_hungry := by first | exact List.mem_of_getElem? (i := 3) rfl | decide +kernel
set_option maxHeartbeats 8000000 in
set_option maxRecDepth 100000 in
theorem c_X12_hungry (l : Launch) (D : va_G) (G : Nat → ClassId) (sz : Nat) (a_p0 : Nat) (a_p0_st : Nat) (a_p0_isKept : Nat) (a_p0_brings : Nat) (a_p0_need : Nat) (a_p0_draft : Nat) (a_p0_dStir : Nat) (a_p0_dNeed : Nat) (a_p0_tape : Nat) (a_p0_places : Nat) (a_p0_stirred : Nat) (a_p0_ways : Nat) (a_p0_waysThen : Nat) (a_p0_stays : Nat) (a_p0_fewest : Nat) (a_p0_bowls : Nat) (a_p0_has : Nat) (a_p0_goesOn : Nat) (a_p0_isThere : Nat) (a_p0_isThereThen : Nat) (a_p0_bestRow : Nat) (a_p0_lanes : Nat) (a_p0_sizes : Nat) (a_p0_cells : Nat) (i_p0_seats : Int) (i_p0_stirs : Int) (i_p0_dSeats : Int) (i_p0_dStirs : Int) (i_p0_told : Int) (i_p0_highest : Int) (i_p0_taped : Int) (i_p0_pos : Int) (i_p0_from : Int) (i_p0_sort : Int) (i_p0_value : Int) (i_p0_fault : Int) (i_p0_wrongAt : Int) (i_p0_torn : Int) (v_p0_st : (Int → Int)) (v_p0_need : (Int → Int)) (r : Int) (hf : f_X12_hungry i_p0_seats v_p0_st v_p0_need = some r) : Met l yX12_hungry wsX12_hungry rm_X12_hungry (pcG D G [.ref a_p0] sz [(a_p0, .inr (12, [.ref a_p0_st, .ref a_p0_isKept, .int (Int32.ofInt i_p0_seats), .int (Int32.ofInt i_p0_stirs), .ref a_p0_brings, .ref a_p0_need, .ref a_p0_draft, .int (Int32.ofInt i_p0_dSeats), .int (Int32.ofInt i_p0_dStirs), .ref a_p0_dStir, .ref a_p0_dNeed, .int (Int32.ofInt i_p0_told), .int (Int32.ofInt i_p0_highest), .ref a_p0_tape, .int (Int32.ofInt i_p0_taped), .int (Int32.ofInt i_p0_pos), .int (Int32.ofInt i_p0_from), .int (Int32.ofInt i_p0_sort), .int (Int32.ofInt i_p0_value), .int (Int32.ofInt i_p0_fault), .int (Int32.ofInt i_p0_wrongAt), .ref a_p0_places, .ref a_p0_stirred, .ref a_p0_ways, .ref a_p0_waysThen, .ref a_p0_stays, .ref a_p0_fewest, .ref a_p0_bowls, .ref a_p0_has, .ref a_p0_goesOn, .ref a_p0_isThere, .ref a_p0_isThereThen, .ref a_p0_bestRow, .ref a_p0_lanes, .ref a_p0_sizes, .ref a_p0_cells, .int (Int32.ofInt i_p0_torn)])), (a_p0_st, .inl (G 1, 152, .inl (zA v_p0_st))), (a_p0_need, .inl (G 1, 7, .inl (zA v_p0_need)))]) (qcI D G (Int32.ofInt r) [(a_p0, .inr (12, [.ref a_p0_st, .ref a_p0_isKept, .int (Int32.ofInt i_p0_seats), .int (Int32.ofInt i_p0_stirs), .ref a_p0_brings, .ref a_p0_need, .ref a_p0_draft, .int (Int32.ofInt i_p0_dSeats), .int (Int32.ofInt i_p0_dStirs), .ref a_p0_dStir, .ref a_p0_dNeed, .int (Int32.ofInt i_p0_told), .int (Int32.ofInt i_p0_highest), .ref a_p0_tape, .int (Int32.ofInt i_p0_taped), .int (Int32.ofInt i_p0_pos), .int (Int32.ofInt i_p0_from), .int (Int32.ofInt i_p0_sort), .int (Int32.ofInt i_p0_value), .int (Int32.ofInt i_p0_fault), .int (Int32.ofInt i_p0_wrongAt), .ref a_p0_places, .ref a_p0_stirred, .ref a_p0_ways, .ref a_p0_waysThen, .ref a_p0_stays, .ref a_p0_fewest, .ref a_p0_bowls, .ref a_p0_has, .ref a_p0_goesOn, .ref a_p0_isThere, .ref a_p0_isThereThen, .ref a_p0_bestRow, .ref a_p0_lanes, .ref a_p0_sizes, .ref a_p0_cells, .int (Int32.ofInt i_p0_torn)])), (a_p0_st, .inl (G 1, 152, .inl (zA v_p0_st))), (a_p0_need, .inl (G 1, 7, .inl (zA v_p0_need)))] (va_A [(a_p0, .inr (12, [.ref a_p0_st, .ref a_p0_isKept, .int (Int32.ofInt i_p0_seats), .int (Int32.ofInt i_p0_stirs), .ref a_p0_brings, .ref a_p0_need, .ref a_p0_draft, .int (Int32.ofInt i_p0_dSeats), .int (Int32.ofInt i_p0_dStirs), .ref a_p0_dStir, .ref a_p0_dNeed, .int (Int32.ofInt i_p0_told), .int (Int32.ofInt i_p0_highest), .ref a_p0_tape, .int (Int32.ofInt i_p0_taped), .int (Int32.ofInt i_p0_pos), .int (Int32.ofInt i_p0_from), .int (Int32.ofInt i_p0_sort), .int (Int32.ofInt i_p0_value), .int (Int32.ofInt i_p0_fault), .int (Int32.ofInt i_p0_wrongAt), .ref a_p0_places, .ref a_p0_stirred, .ref a_p0_ways, .ref a_p0_waysThen, .ref a_p0_stays, .ref a_p0_fewest, .ref a_p0_bowls, .ref a_p0_has, .ref a_p0_goesOn, .ref a_p0_isThere, .ref a_p0_isThereThen, .ref a_p0_bestRow, .ref a_p0_lanes, .ref a_p0_sizes, .ref a_p0_cells, .int (Int32.ofInt i_p0_torn)])), (a_p0_st, .inl (G 1, 152, .inl (zA v_p0_st))), (a_p0_need, .inl (G 1, 7, .inl (zA v_p0_need)))] sz)) 0 0 (va_A [(a_p0, .inr (12, [.ref a_p0_st, .ref a_p0_isKept, .int (Int32.ofInt i_p0_seats), .int (Int32.ofInt i_p0_stirs), .ref a_p0_brings, .ref a_p0_need, .ref a_p0_draft, .int (Int32.ofInt i_p0_dSeats), .int (Int32.ofInt i_p0_dStirs), .ref a_p0_dStir, .ref a_p0_dNeed, .int (Int32.ofInt i_p0_told), .int (Int32.ofInt i_p0_highest), .ref a_p0_tape, .int (Int32.ofInt i_p0_taped), .int (Int32.ofInt i_p0_pos), .int (Int32.ofInt i_p0_from), .int (Int32.ofInt i_p0_sort), .int (Int32.ofInt i_p0_value), .int (Int32.ofInt i_p0_fault), .int (Int32.ofInt i_p0_wrongAt), .ref a_p0_places, .ref a_p0_stirred, .ref a_p0_ways, .ref a_p0_waysThen, .ref a_p0_stays, .ref a_p0_fewest, .ref a_p0_bowls, .ref a_p0_has, .ref a_p0_goesOn, .ref a_p0_isThere, .ref a_p0_isThereThen, .ref a_p0_bestRow, .ref a_p0_lanes, .ref a_p0_sizes, .ref a_p0_cells, .int (Int32.ofInt i_p0_torn)])), (a_p0_st, .inl (G 1, 152, .inl (zA v_p0_st))), (a_p0_need, .inl (G 1, 7, .inl (zA v_p0_need)))] sz) := by
  refine Met.ofW (cc := cX12_hungry) (maxL := 3) (ret := (some .int)) (by decide) rfl ?_
  intro p e s m args below meth c s₁ B hml hv
  obtain ⟨rfl, hsz, hP, hK, hD0⟩ := hv
  have hx := B.exec
  have hb := B.bytes
  have hr := B.returns
  have hts := atoms_spec (ws := wsX12_hungry) B.pre
  have hown : s.vm.findClass RX12 = some m.cls := findClass_of_methodNamed B.named
  have hlocks := B.notSynchronized
  subst hsz
  have hD := hD0.self (sz := s.heap.size)
  generalize hAe : va_A [(a_p0, .inr (12, [.ref a_p0_st, .ref a_p0_isKept, .int (Int32.ofInt i_p0_seats), .int (Int32.ofInt i_p0_stirs), .ref a_p0_brings, .ref a_p0_need, .ref a_p0_draft, .int (Int32.ofInt i_p0_dSeats), .int (Int32.ofInt i_p0_dStirs), .ref a_p0_dStir, .ref a_p0_dNeed, .int (Int32.ofInt i_p0_told), .int (Int32.ofInt i_p0_highest), .ref a_p0_tape, .int (Int32.ofInt i_p0_taped), .int (Int32.ofInt i_p0_pos), .int (Int32.ofInt i_p0_from), .int (Int32.ofInt i_p0_sort), .int (Int32.ofInt i_p0_value), .int (Int32.ofInt i_p0_fault), .int (Int32.ofInt i_p0_wrongAt), .ref a_p0_places, .ref a_p0_stirred, .ref a_p0_ways, .ref a_p0_waysThen, .ref a_p0_stays, .ref a_p0_fewest, .ref a_p0_bowls, .ref a_p0_has, .ref a_p0_goesOn, .ref a_p0_isThere, .ref a_p0_isThereThen, .ref a_p0_bestRow, .ref a_p0_lanes, .ref a_p0_sizes, .ref a_p0_cells, .int (Int32.ofInt i_p0_torn)])), (a_p0_st, .inl (G 1, 152, .inl (zA v_p0_st))), (a_p0_need, .inl (G 1, 7, .inl (zA v_p0_need)))] s.heap.size = A at hD ⊢
  have hA : ∀ q : Nat, s.heap.size ≤ q → A q := fun q h => by rw [← hAe]; exact Or.inr h
  clear hAe hD0
  have hS : va_S A s.heap s.heap [] := va_S.rf
  have hl := lv_entry ([.ref a_p0]) (n := 3) (Nat.le_of_ble_eq_true rfl)
  rw [lg_entry_eq]
  generalize (lg_sl ([.ref a_p0]) ++ List.replicate (3 - (lg_sl ([.ref a_p0])).length) Slot.unset).toArray = ls at hl ⊢
  have hl : lv_has ls 3 [(0, .ref a_p0)] := hl
  refine W_nameQ (fun Q hQ => ?_)
  obtain ⟨H, hH⟩ : ∃ H, H = s.heap := ⟨_, rfl⟩
  replace hS : va_S A s.heap H [] := by rw [hH]; exact hS
  replace hP : va_P D vwCl [(a_p0, .inr (12, [.ref a_p0_st, .ref a_p0_isKept, .int (Int32.ofInt i_p0_seats), .int (Int32.ofInt i_p0_stirs), .ref a_p0_brings, .ref a_p0_need, .ref a_p0_draft, .int (Int32.ofInt i_p0_dSeats), .int (Int32.ofInt i_p0_dStirs), .ref a_p0_dStir, .ref a_p0_dNeed, .int (Int32.ofInt i_p0_told), .int (Int32.ofInt i_p0_highest), .ref a_p0_tape, .int (Int32.ofInt i_p0_taped), .int (Int32.ofInt i_p0_pos), .int (Int32.ofInt i_p0_from), .int (Int32.ofInt i_p0_sort), .int (Int32.ofInt i_p0_value), .int (Int32.ofInt i_p0_fault), .int (Int32.ofInt i_p0_wrongAt), .ref a_p0_places, .ref a_p0_stirred, .ref a_p0_ways, .ref a_p0_waysThen, .ref a_p0_stays, .ref a_p0_fewest, .ref a_p0_bowls, .ref a_p0_has, .ref a_p0_goesOn, .ref a_p0_isThere, .ref a_p0_isThereThen, .ref a_p0_bestRow, .ref a_p0_lanes, .ref a_p0_sizes, .ref a_p0_cells, .int (Int32.ofInt i_p0_torn)])), (a_p0_st, .inl (G 1, 152, .inl (zA v_p0_st))), (a_p0_need, .inl (G 1, 7, .inl (zA v_p0_need)))] H := by rw [hH]; exact hP
  rw [← hH]
  clear hH
  unfold f_X12_hungry at hf
  refine lv_iconst (v := Int32.ofInt (0 : Int)) hx hb dX12_hungry_0 (by decide) ?_
  refine z_topi (fun z1 ez => ?_)
  replace hf := bnd_s hf ez
  clear ez
  refine lv_istore_n (lv' := [(1, .int (Int32.ofInt z1)), (0, .ref a_p0)]) hx hb dX12_hungry_1 rfl hl (by decide) rfl (fun ls hl => ?_)
  refine lv_iconst (v := Int32.ofInt (0 : Int)) hx hb dX12_hungry_2 (by decide) ?_
  refine z_topi (fun z2 ez => ?_)
  replace hf := bnd_s hf ez
  clear ez
  refine lv_istore_n (lv' := [(2, .int (Int32.ofInt z2)), (1, .int (Int32.ofInt z1)), (0, .ref a_p0)]) hx hb dX12_hungry_3 rfl hl (by decide) rfl (fun ls hl => ?_)
  have hq := lq2_i hf
  clear hf
  obtain ⟨B5, eB5, NB5, hf⟩ := hq
  have hB5 : ∀ (n : Nat) (z3 : Int) (z4 : Int) (ls : Array Slot) (H : Heap) (locs : List Loc), lv_has ls 3 [(2, .int (Int32.ofInt z3)), (1, .int (Int32.ofInt z4)), (0, .ref a_p0)] → va_P D vwCl [(a_p0, .inr (12, [.ref a_p0_st, .ref a_p0_isKept, .int (Int32.ofInt i_p0_seats), .int (Int32.ofInt i_p0_stirs), .ref a_p0_brings, .ref a_p0_need, .ref a_p0_draft, .int (Int32.ofInt i_p0_dSeats), .int (Int32.ofInt i_p0_dStirs), .ref a_p0_dStir, .ref a_p0_dNeed, .int (Int32.ofInt i_p0_told), .int (Int32.ofInt i_p0_highest), .ref a_p0_tape, .int (Int32.ofInt i_p0_taped), .int (Int32.ofInt i_p0_pos), .int (Int32.ofInt i_p0_from), .int (Int32.ofInt i_p0_sort), .int (Int32.ofInt i_p0_value), .int (Int32.ofInt i_p0_fault), .int (Int32.ofInt i_p0_wrongAt), .ref a_p0_places, .ref a_p0_stirred, .ref a_p0_ways, .ref a_p0_waysThen, .ref a_p0_stays, .ref a_p0_fewest, .ref a_p0_bowls, .ref a_p0_has, .ref a_p0_goesOn, .ref a_p0_isThere, .ref a_p0_isThereThen, .ref a_p0_bestRow, .ref a_p0_lanes, .ref a_p0_sizes, .ref a_p0_cells, .int (Int32.ofInt i_p0_torn)])), (a_p0_st, .inl (G 1, 152, .inl (zA v_p0_st))), (a_p0_need, .inl (G 1, 7, .inl (zA v_p0_need)))] H → va_D A [(a_p0, .inr (12, [.ref a_p0_st, .ref a_p0_isKept, .int (Int32.ofInt i_p0_seats), .int (Int32.ofInt i_p0_stirs), .ref a_p0_brings, .ref a_p0_need, .ref a_p0_draft, .int (Int32.ofInt i_p0_dSeats), .int (Int32.ofInt i_p0_dStirs), .ref a_p0_dStir, .ref a_p0_dNeed, .int (Int32.ofInt i_p0_told), .int (Int32.ofInt i_p0_highest), .ref a_p0_tape, .int (Int32.ofInt i_p0_taped), .int (Int32.ofInt i_p0_pos), .int (Int32.ofInt i_p0_from), .int (Int32.ofInt i_p0_sort), .int (Int32.ofInt i_p0_value), .int (Int32.ofInt i_p0_fault), .int (Int32.ofInt i_p0_wrongAt), .ref a_p0_places, .ref a_p0_stirred, .ref a_p0_ways, .ref a_p0_waysThen, .ref a_p0_stays, .ref a_p0_fewest, .ref a_p0_bowls, .ref a_p0_has, .ref a_p0_goesOn, .ref a_p0_isThere, .ref a_p0_isThereThen, .ref a_p0_bestRow, .ref a_p0_lanes, .ref a_p0_sizes, .ref a_p0_cells, .int (Int32.ofInt i_p0_torn)])), (a_p0_st, .inl (G 1, 152, .inl (zA v_p0_st))), (a_p0_need, .inl (G 1, 7, .inl (zA v_p0_need)))] → va_S A s.heap H locs → lq2 B5 n z3 z4 = some r → W p l e rm_X12_hungry s m ([.ref a_p0] : List Value).toArray below meth c H locs 0 0 Q (F0 m 4 ls []) := by
    clear hf hl hP hD hS
    intro n
    induction n with
    | zero =>
      intro z3 z4 ls H locs hl hP hD hS hf
      exact (lq2_0 hf).elim
    | succ n ih4 =>
      intro z3 z4 ls H locs hl hP hD hS hf
      replace hf := lq2_s eB5 hf
      unfold B_X12_hungry_4 at hf
      refine lv_iload_n hx hb dX12_hungry_4 rfl (lv_at hl 0 rfl) ?_
      refine lv_aload_n hx hb dX12_hungry_5 rfl (lv_at hl 2 rfl) ?_
      refine va_get (D := D) (ci := 12) (v := .int (Int32.ofInt i_p0_seats)) (C := RX12) (T := TX12) (N := 37) hx hb hts inX12_hungry_X12 hown hK hP 0 rfl rfl 2 (by decide) (hts _ mwX12_hungry_1) (fun _ h9 => h9) rfl dX12_hungry_6 ?_
      have hr5 := ck_c hf
      replace hf := ck_r hf
      have hr6 := ck_c hf
      replace hf := ck_r hf
      refine lv_icmp_ge (tgt := 57) hx hb dX12_hungry_9 (by decide) (fun cc => ?_) (fun cc => ?_)
      ·
        replace hf := ite_t ((z_le hr6 hr5).mp cc) hf
        clear cc
        refine lv_iload_n hx hb dX12_hungry_57 rfl (lv_at hl 1 rfl) ?_
        obtain rfl := ou1 hf
        rw [hQ]
        exact W.iret hx hb hr (fun t ht hW => ⟨⟨_, (), rfl, rfl, by rw [ht]; exact hP, va_K.moved hW.alike hK, hD⟩, hS.F ht⟩) hS.2.2 dX12_hungry_58
      ·
        replace hf := ite_f (fun h9 => cc ((z_le hr6 hr5).mpr h9)) hf
        clear cc
        refine lv_iload_n hx hb dX12_hungry_12 rfl (lv_at hl 1 rfl) ?_
        refine lv_aload_n hx hb dX12_hungry_13 rfl (lv_at hl 2 rfl) ?_
        refine va_get (D := D) (ci := 12) (v := .ref a_p0_st) (C := RX12) (T := TX12) (N := 37) hx hb hts inX12_hungry_X12 hown hK hP 0 rfl rfl 0 (by decide) (hts _ mwX12_hungry_2) (fun _ h9 => h9) rfl dX12_hungry_14 ?_
        refine lv_bipush (v := Int32.ofInt (23 : Int)) hx hb dX12_hungry_17 (by decide) ?_
        refine lv_iload_n hx hb dX12_hungry_19 rfl (lv_at hl 0 rfl) ?_
        refine lv_iadd hx hb dX12_hungry_20 (z_ci (Int32.ofInt_add (23 : Int) z3) ?_)
        have hc := ck_c hf
        replace hf := ck_r hf
        refine va_iald hx hb hK hP 1 1 rfl rfl (z_ix_in hc) dX12_hungry_21 (z_ci (z_ald v_p0_st hc) ?_)
        clear hc
        refine lv_aload_n hx hb dX12_hungry_22 rfl (lv_at hl 2 rfl) ?_
        refine va_get (D := D) (ci := 12) (v := .ref a_p0_need) (C := RX12) (T := TX12) (N := 37) hx hb hts inX12_hungry_X12 hown hK hP 0 rfl rfl 5 (by decide) (hts _ mwX12_hungry_3) (fun _ h9 => h9) rfl dX12_hungry_23 ?_
        refine lv_iload_n hx hb dX12_hungry_26 rfl (lv_at hl 0 rfl) ?_
        have hc := ck_c hf
        replace hf := ck_r hf
        refine va_iald hx hb hK hP 2 1 rfl rfl (z_ix_in hc) dX12_hungry_27 (z_ci (z_ald v_p0_need hc) ?_)
        clear hc
        refine lv_aload_n hx hb dX12_hungry_28 rfl (lv_at hl 2 rfl) ?_
        refine va_get (D := D) (ci := 12) (v := .ref a_p0_st) (C := RX12) (T := TX12) (N := 37) hx hb hts inX12_hungry_X12 hown hK hP 0 rfl rfl 0 (by decide) (hts _ mwX12_hungry_2) (fun _ h9 => h9) rfl dX12_hungry_29 ?_
        refine lv_bipush (v := Int32.ofInt (30 : Int)) hx hb dX12_hungry_32 (by decide) ?_
        have hc := ck_c hf
        replace hf := ck_r hf
        refine va_iald hx hb hK hP 1 1 rfl rfl (z_ix_in hc) dX12_hungry_34 (z_ci (z_ald v_p0_st hc) ?_)
        clear hc
        refine lv_imul hx hb dX12_hungry_35 (z_ci (Int32.ofInt_mul (v_p0_need z3) (v_p0_st (30 : Int))) ?_)
        have hr7 := ck_c hf
        replace hf := ck_r hf
        have hr8 := ck_c hf
        replace hf := ck_r hf
        have hq := jn_i hf
        clear hf
        obtain ⟨J12, eJ12, hf⟩ := hq
        have hJ12 : ∀ (z10 : Int) (z11 : Int) (ls : Array Slot) (H : Heap) (locs : List Loc), lv_has ls 3 [(2, .int (Int32.ofInt z3)), (0, .ref a_p0)] → va_P D vwCl [(a_p0, .inr (12, [.ref a_p0_st, .ref a_p0_isKept, .int (Int32.ofInt i_p0_seats), .int (Int32.ofInt i_p0_stirs), .ref a_p0_brings, .ref a_p0_need, .ref a_p0_draft, .int (Int32.ofInt i_p0_dSeats), .int (Int32.ofInt i_p0_dStirs), .ref a_p0_dStir, .ref a_p0_dNeed, .int (Int32.ofInt i_p0_told), .int (Int32.ofInt i_p0_highest), .ref a_p0_tape, .int (Int32.ofInt i_p0_taped), .int (Int32.ofInt i_p0_pos), .int (Int32.ofInt i_p0_from), .int (Int32.ofInt i_p0_sort), .int (Int32.ofInt i_p0_value), .int (Int32.ofInt i_p0_fault), .int (Int32.ofInt i_p0_wrongAt), .ref a_p0_places, .ref a_p0_stirred, .ref a_p0_ways, .ref a_p0_waysThen, .ref a_p0_stays, .ref a_p0_fewest, .ref a_p0_bowls, .ref a_p0_has, .ref a_p0_goesOn, .ref a_p0_isThere, .ref a_p0_isThereThen, .ref a_p0_bestRow, .ref a_p0_lanes, .ref a_p0_sizes, .ref a_p0_cells, .int (Int32.ofInt i_p0_torn)])), (a_p0_st, .inl (G 1, 152, .inl (zA v_p0_st))), (a_p0_need, .inl (G 1, 7, .inl (zA v_p0_need)))] H → va_D A [(a_p0, .inr (12, [.ref a_p0_st, .ref a_p0_isKept, .int (Int32.ofInt i_p0_seats), .int (Int32.ofInt i_p0_stirs), .ref a_p0_brings, .ref a_p0_need, .ref a_p0_draft, .int (Int32.ofInt i_p0_dSeats), .int (Int32.ofInt i_p0_dStirs), .ref a_p0_dStir, .ref a_p0_dNeed, .int (Int32.ofInt i_p0_told), .int (Int32.ofInt i_p0_highest), .ref a_p0_tape, .int (Int32.ofInt i_p0_taped), .int (Int32.ofInt i_p0_pos), .int (Int32.ofInt i_p0_from), .int (Int32.ofInt i_p0_sort), .int (Int32.ofInt i_p0_value), .int (Int32.ofInt i_p0_fault), .int (Int32.ofInt i_p0_wrongAt), .ref a_p0_places, .ref a_p0_stirred, .ref a_p0_ways, .ref a_p0_waysThen, .ref a_p0_stays, .ref a_p0_fewest, .ref a_p0_bowls, .ref a_p0_has, .ref a_p0_goesOn, .ref a_p0_isThere, .ref a_p0_isThereThen, .ref a_p0_bestRow, .ref a_p0_lanes, .ref a_p0_sizes, .ref a_p0_cells, .int (Int32.ofInt i_p0_torn)])), (a_p0_st, .inl (G 1, 152, .inl (zA v_p0_st))), (a_p0_need, .inl (G 1, 7, .inl (zA v_p0_need)))] → va_S A s.heap H locs → J12 z10 z11 = some r → W p l e rm_X12_hungry s m ([.ref a_p0] : List Value).toArray below meth c H locs 0 0 Q (F0 m 44 ls [.int (Int32.ofInt z11), .int (Int32.ofInt z10)]) := by
          clear hf hl hP hD hS
          intro z10 z11 ls H locs hl hP hD hS hf
          replace hf := jn2_s eJ12 hf
          have hq := bd1_s hf
          clear hf
          obtain ⟨z13, hcall, hf⟩ := hq
          refine gnI (va_runS (As := [.int (Int32.ofInt z11)]) (rest := [.int (Int32.ofInt z10)]) ⟨hx, hb, hml, hown, hts⟩ (c_X12_flag (l := l) (D := D) (G := G) (sz := H.size) (x0 := z11) (r := z13) (hf := hcall)) (va_cwS 1 hts gX12_hungry_X12_flag rfl rfl rfl (by decide +kernel) ⟨Nat.le_of_ble_eq_true rfl, Nat.le_of_ble_eq_true rfl⟩) (preG_S (hP.sub [] rfl) (hD.sub [] rfl rfl) hK) rfl rfl hl.1 rfl (lv_room (Nat.le_of_ble_eq_true rfl)) dX12_hungry_44 ⟨Nat.le_of_ble_eq_true rfl, Nat.le_of_ble_eq_true rfl⟩) hP hD hS hA [] rfl (fun H locs hP hD hS => ?_)
          clear hcall
          refine lv_iload_n hx hb dX12_hungry_47 rfl (lv_at hl 0 rfl) ?_
          refine lv_ishl hx hb dX12_hungry_48 (z_ci (z_shl_e z13 z3) ?_)
          refine lv_ior hx hb dX12_hungry_49 (z_ci (z_or_e z10 (z_shl z13 z3)) ?_)
          refine z_topi (fun z14 ez => ?_)
          replace hf := bnd_s hf ez
          clear ez
          refine lv_istore_n (lv' := [(1, .int (Int32.ofInt z14)), (2, .int (Int32.ofInt z3)), (0, .ref a_p0)]) hx hb dX12_hungry_50 rfl hl (by decide) rfl (fun ls hl => ?_)
          obtain ⟨z15, ez⟩ : ∃ y : Int, y = (z3 + (1 : Int)) := ⟨_, rfl⟩
          replace hf := bnd_s hf ez
          refine lv_iinc (v := Int32.ofInt z15) (lv' := [(2, .int (Int32.ofInt z15)), (1, .int (Int32.ofInt z14)), (0, .ref a_p0)]) hx hb dX12_hungry_51 hl (k := 1) rfl (by rw [ez]; exact (Int32.ofInt_add _ _).symm) (by decide) rfl (fun ls hl => ?_)
          clear ez
          refine lv_goto (tgt := 4) hx hb dX12_hungry_54 (by decide) ?_
          exact ih4 _ _ _ _ _ (lv_sub hl [0, 1, 2] rfl) hP hD hS hf
        refine lv_icmp_ge (tgt := 43) hx hb dX12_hungry_36 (by decide) (fun cc => ?_) (fun cc => ?_)
        ·
          replace hf := ite_t ((z_le hr8 hr7).mp cc) hf
          clear cc
          refine lv_iconst (v := Int32.ofInt (0 : Int)) hx hb dX12_hungry_43 (by decide) ?_
          exact hJ12 _ _ _ _ _ (lv_sub hl [0, 2] rfl) hP hD hS hf
        ·
          replace hf := ite_f (fun h9 => cc ((z_le hr8 hr7).mpr h9)) hf
          clear cc
          refine lv_iconst (v := Int32.ofInt (1 : Int)) hx hb dX12_hungry_39 (by decide) ?_
          refine lv_goto (tgt := 44) hx hb dX12_hungry_40 (by decide) ?_
          exact hJ12 _ _ _ _ _ (lv_sub hl [0, 2] rfl) hP hD hS hf
  exact hB5 _ _ _ _ _ _ (lv_sub hl [0, 1, 2] rfl) hP hD hS hf

noncomputable def B_X12_common_6 (again6 : Int → Int → Option (Int)) (z3 : Int) (z4 : Int) : Option (Int) := (ck (z_r64 z3) (ck (z_r32 (z_cmp z3 (0 : Int))) (if (z_cmp z3 (0 : Int)) = (0 : Int) then (some z4) else (ck (w_dv z4 z3) (bnd (z4 % z3) (fun (z8 : Int) => (bnd z3 (fun (z9 : Int) => (bnd z8 (fun (z10 : Int) => (again6 z10 z9)))))))))))
noncomputable def f_X12_common (x0 : Int) (x2 : Int) : Option (Int) := (bnd x0 (fun (z1 : Int) => (bnd x2 (fun (z2 : Int) => (lq2 (B_X12_common_6) 1000 z2 z1)))))
abbrev rm_X12_common : Room := { frames := 0, cells := 0, slots := 0, locals := 0 }
set_option maxHeartbeats 8000000 in
set_option maxRecDepth 100000 in
theorem c_X12_common (l : Launch) (D : va_G) (G : Nat → ClassId) (sz : Nat) (x0 : Int) (x2 : Int) (r : Int) (hf : f_X12_common x0 x2 = some r) : Met l yX12_common wsX12_common rm_X12_common (pcG D G [.long (Int64.ofInt x0), .long (Int64.ofInt x2)] sz []) (qcL D G (Int64.ofInt r) [] (va_A [] sz)) 0 0 (va_A [] sz) := by
  refine Met.ofW (cc := cX12_common) (maxL := 10) (ret := (some .long)) (by decide) rfl ?_
  intro p e s m args below meth c s₁ B hml hv
  obtain ⟨rfl, hsz, hP, hK, hD0⟩ := hv
  have hx := B.exec
  have hb := B.bytes
  have hr := B.returns
  have hts := atoms_spec (ws := wsX12_common) B.pre
  have hown : s.vm.findClass RX12 = some m.cls := findClass_of_methodNamed B.named
  have hlocks := B.notSynchronized
  subst hsz
  have hD := hD0.self (sz := s.heap.size)
  generalize hAe : va_A [] s.heap.size = A at hD ⊢
  have hA : ∀ q : Nat, s.heap.size ≤ q → A q := fun q h => by rw [← hAe]; exact Or.inr h
  clear hAe hD0
  have hS : va_S A s.heap s.heap [] := va_S.rf
  have hl := lv_entry ([.long (Int64.ofInt x0), .long (Int64.ofInt x2)]) (n := 10) (Nat.le_of_ble_eq_true rfl)
  rw [lg_entry_eq]
  generalize (lg_sl ([.long (Int64.ofInt x0), .long (Int64.ofInt x2)]) ++ List.replicate (10 - (lg_sl ([.long (Int64.ofInt x0), .long (Int64.ofInt x2)])).length) Slot.unset).toArray = ls at hl ⊢
  have hl : lv_has ls 10 [(0, .long (Int64.ofInt x0)), (2, .long (Int64.ofInt x2))] := hl
  refine W_nameQ (fun Q hQ => ?_)
  obtain ⟨H, hH⟩ : ∃ H, H = s.heap := ⟨_, rfl⟩
  replace hS : va_S A s.heap H [] := by rw [hH]; exact hS
  replace hP : va_P D vwCl [] H := by rw [hH]; exact hP
  rw [← hH]
  clear hH
  unfold f_X12_common at hf
  refine lv_lload_n hx hb dX12_common_0 rfl (lv_at hl 0 rfl) ?_
  refine z_topl (fun z1 ez => ?_)
  replace hf := bnd_s hf ez
  clear ez
  refine lv_lstore (lv' := [(4, .long (Int64.ofInt z1)), (0, .long (Int64.ofInt x0)), (2, .long (Int64.ofInt x2))]) hx hb dX12_common_1 hl (by decide) rfl (fun ls hl => ?_)
  refine lv_lload_n hx hb dX12_common_3 rfl (lv_at hl 2 rfl) ?_
  refine z_topl (fun z2 ez => ?_)
  replace hf := bnd_s hf ez
  clear ez
  refine lv_lstore (lv' := [(6, .long (Int64.ofInt z2)), (4, .long (Int64.ofInt z1)), (0, .long (Int64.ofInt x0)), (2, .long (Int64.ofInt x2))]) hx hb dX12_common_4 hl (by decide) rfl (fun ls hl => ?_)
  have hq := lq2_i hf
  clear hf
  obtain ⟨B5, eB5, NB5, hf⟩ := hq
  have hB5 : ∀ (n : Nat) (z3 : Int) (z4 : Int) (ls : Array Slot) (H : Heap) (locs : List Loc), lv_has ls 10 [(6, .long (Int64.ofInt z3)), (4, .long (Int64.ofInt z4))] → va_P D vwCl [] H → va_D A [] → va_S A s.heap H locs → lq2 B5 n z3 z4 = some r → W p l e rm_X12_common s m ([.long (Int64.ofInt x0), .long (Int64.ofInt x2)] : List Value).toArray below meth c H locs 0 0 Q (F0 m 6 ls []) := by
    clear hf hl hP hD hS
    intro n
    induction n with
    | zero =>
      intro z3 z4 ls H locs hl hP hD hS hf
      exact (lq2_0 hf).elim
    | succ n ih6 =>
      intro z3 z4 ls H locs hl hP hD hS hf
      replace hf := lq2_s eB5 hf
      unfold B_X12_common_6 at hf
      refine lv_lload hx hb dX12_common_6 (lv_at hl 0 rfl) ?_
      refine lv_lconst (v := Int64.ofInt (0 : Int)) hx hb dX12_common_8 (by decide) ?_
      have hr5 := ck_c hf
      replace hf := ck_r hf
      refine W.lcmp hx hb dX12_common_9 (z_ci (z_cmp_e hr5 (by decide)) ?_)
      have hr6 := ck_c hf
      replace hf := ck_r hf
      refine lv_if_eq (tgt := 31) hx hb dX12_common_10 (by decide) (fun cc => ?_) (fun cc => ?_)
      ·
        replace hf := ite_t ((z_eq0 hr6).mp cc) hf
        clear cc
        refine lv_lload hx hb dX12_common_31 (lv_at hl 1 rfl) ?_
        obtain rfl := ou1 hf
        rw [hQ]
        exact W.lret hx hb hr (fun t ht hW => ⟨⟨_, (), rfl, rfl, by rw [ht]; exact hP, va_K.moved hW.alike hK, hD⟩, hS.F ht⟩) hS.2.2 dX12_common_33
      ·
        replace hf := ite_f (fun h9 => cc ((z_eq0 hr6).mpr h9)) hf
        clear cc
        refine lv_lload hx hb dX12_common_13 (lv_at hl 1 rfl) ?_
        refine lv_lload hx hb dX12_common_15 (lv_at hl 0 rfl) ?_
        have hc := ck_c hf
        replace hf := ck_r hf
        refine lv_lrem hx hb dX12_common_17 (w_nz hc) (z_cl (w_rem hc) ?_)
        clear hc
        refine z_topl (fun z8 ez => ?_)
        replace hf := bnd_s hf ez
        clear ez
        refine lv_lstore (lv' := [(8, .long (Int64.ofInt z8)), (6, .long (Int64.ofInt z3)), (4, .long (Int64.ofInt z4))]) hx hb dX12_common_18 hl (by decide) rfl (fun ls hl => ?_)
        refine lv_lload hx hb dX12_common_20 (lv_at hl 1 rfl) ?_
        refine z_topl (fun z9 ez => ?_)
        replace hf := bnd_s hf ez
        clear ez
        refine lv_lstore (lv' := [(4, .long (Int64.ofInt z9)), (8, .long (Int64.ofInt z8)), (6, .long (Int64.ofInt z3))]) hx hb dX12_common_22 hl (by decide) rfl (fun ls hl => ?_)
        refine lv_lload hx hb dX12_common_24 (lv_at hl 1 rfl) ?_
        refine z_topl (fun z10 ez => ?_)
        replace hf := bnd_s hf ez
        clear ez
        refine lv_lstore (lv' := [(6, .long (Int64.ofInt z10)), (4, .long (Int64.ofInt z9)), (8, .long (Int64.ofInt z8))]) hx hb dX12_common_26 hl (by decide) rfl (fun ls hl => ?_)
        refine lv_goto (tgt := 6) hx hb dX12_common_28 (by decide) ?_
        exact ih6 _ _ _ _ _ (lv_sub hl [0, 1] rfl) hP hD hS hf
  exact hB5 _ _ _ _ _ _ (lv_sub hl [0, 1] rfl) hP hD hS hf

noncomputable def f_X12_lowest (x0 : Int) (x2 : Int) (x4 : Int) : Option (Int) := (bd1 (f_X12_common x2 x0) (fun (z1 : Int) => (bnd z1 (fun (z2 : Int) => (ck (z_r32 x4) (if x4 = (0 : Int) then (ck (w_dv x0 z2) (some (x0 / z2))) else (ck (w_dv x2 z2) (some (x2 / z2)))))))))
abbrev rm_X12_lowest : Room := { frames := 1, cells := 0, slots := 0, locals := 29 }
set_option maxHeartbeats 8000000 in
set_option maxRecDepth 100000 in
theorem c_X12_lowest (l : Launch) (D : va_G) (G : Nat → ClassId) (sz : Nat) (x0 : Int) (x2 : Int) (x4 : Int) (r : Int) (hf : f_X12_lowest x0 x2 x4 = some r) : Met l yX12_lowest wsX12_lowest rm_X12_lowest (pcG D G [.long (Int64.ofInt x0), .long (Int64.ofInt x2), .int (Int32.ofInt x4)] sz []) (qcL D G (Int64.ofInt r) [] (va_A [] sz)) 0 0 (va_A [] sz) := by
  refine Met.ofW (cc := cX12_lowest) (maxL := 7) (ret := (some .long)) (by decide) rfl ?_
  intro p e s m args below meth c s₁ B hml hv
  obtain ⟨rfl, hsz, hP, hK, hD0⟩ := hv
  have hx := B.exec
  have hb := B.bytes
  have hr := B.returns
  have hts := atoms_spec (ws := wsX12_lowest) B.pre
  have hown : s.vm.findClass RX12 = some m.cls := findClass_of_methodNamed B.named
  have hlocks := B.notSynchronized
  subst hsz
  have hD := hD0.self (sz := s.heap.size)
  generalize hAe : va_A [] s.heap.size = A at hD ⊢
  have hA : ∀ q : Nat, s.heap.size ≤ q → A q := fun q h => by rw [← hAe]; exact Or.inr h
  clear hAe hD0
  have hS : va_S A s.heap s.heap [] := va_S.rf
  have hl := lv_entry ([.long (Int64.ofInt x0), .long (Int64.ofInt x2), .int (Int32.ofInt x4)]) (n := 7) (Nat.le_of_ble_eq_true rfl)
  rw [lg_entry_eq]
  generalize (lg_sl ([.long (Int64.ofInt x0), .long (Int64.ofInt x2), .int (Int32.ofInt x4)]) ++ List.replicate (7 - (lg_sl ([.long (Int64.ofInt x0), .long (Int64.ofInt x2), .int (Int32.ofInt x4)])).length) Slot.unset).toArray = ls at hl ⊢
  have hl : lv_has ls 7 [(0, .long (Int64.ofInt x0)), (2, .long (Int64.ofInt x2)), (4, .int (Int32.ofInt x4))] := hl
  refine W_nameQ (fun Q hQ => ?_)
  obtain ⟨H, hH⟩ : ∃ H, H = s.heap := ⟨_, rfl⟩
  replace hS : va_S A s.heap H [] := by rw [hH]; exact hS
  replace hP : va_P D vwCl [] H := by rw [hH]; exact hP
  rw [← hH]
  clear hH
  unfold f_X12_lowest at hf
  refine lv_lload_n hx hb dX12_lowest_0 rfl (lv_at hl 1 rfl) ?_
  refine lv_lload_n hx hb dX12_lowest_1 rfl (lv_at hl 0 rfl) ?_
  have hq := bd1_s hf
  clear hf
  obtain ⟨z1, hcall, hf⟩ := hq
  refine gnL (va_runS (As := [.long (Int64.ofInt x2), .long (Int64.ofInt x0)]) (rest := []) ⟨hx, hb, hml, hown, hts⟩ (c_X12_common (l := l) (D := D) (G := G) (sz := H.size) (x0 := x2) (x2 := x0) (r := z1) (hf := hcall)) (va_cwS 2 hts gX12_lowest_X12_common rfl rfl rfl (by decide +kernel) ⟨Nat.le_of_ble_eq_true rfl, Nat.le_of_ble_eq_true rfl⟩) (preG_S (hP.sub [] rfl) (hD.sub [] rfl rfl) hK) rfl rfl hl.1 rfl (lv_room (Nat.le_of_ble_eq_true rfl)) dX12_lowest_2 ⟨Nat.le_of_ble_eq_true rfl, Nat.le_of_ble_eq_true rfl⟩) hP hD hS hA [] rfl (fun H locs hP hD hS => ?_)
  clear hcall
  refine z_topl (fun z2 ez => ?_)
  replace hf := bnd_s hf ez
  clear ez
  refine lv_lstore (lv' := [(5, .long (Int64.ofInt z2)), (0, .long (Int64.ofInt x0)), (2, .long (Int64.ofInt x2)), (4, .int (Int32.ofInt x4))]) hx hb dX12_lowest_5 hl (by decide) rfl (fun ls hl => ?_)
  refine lv_iload hx hb dX12_lowest_7 (lv_at hl 3 rfl) ?_
  have hr2 := ck_c hf
  replace hf := ck_r hf
  refine lv_if_ne (tgt := 19) hx hb dX12_lowest_9 (by decide) (fun cc => ?_) (fun cc => ?_)
  ·
    replace hf := ite_f (fun h9 => cc ((z_eq0 hr2).mpr h9)) hf
    clear cc
    refine lv_lload_n hx hb dX12_lowest_19 rfl (lv_at hl 2 rfl) ?_
    refine lv_lload hx hb dX12_lowest_20 (lv_at hl 0 rfl) ?_
    have hc := ck_c hf
    replace hf := ck_r hf
    refine lv_ldiv hx hb dX12_lowest_22 (w_nz hc) (z_cl (w_div hc) ?_)
    clear hc
    obtain rfl := ou1 hf
    rw [hQ]
    exact W.lret hx hb hr (fun t ht hW => ⟨⟨_, (), rfl, rfl, by rw [ht]; exact hP, va_K.moved hW.alike hK, hD⟩, hS.F ht⟩) hS.2.2 dX12_lowest_23
  ·
    replace hf := ite_t ((z_eq0 hr2).mp cc) hf
    clear cc
    refine lv_lload_n hx hb dX12_lowest_12 rfl (lv_at hl 1 rfl) ?_
    refine lv_lload hx hb dX12_lowest_13 (lv_at hl 0 rfl) ?_
    have hc := ck_c hf
    replace hf := ck_r hf
    refine lv_ldiv hx hb dX12_lowest_15 (w_nz hc) (z_cl (w_div hc) ?_)
    clear hc
    refine lv_goto (tgt := 23) hx hb dX12_lowest_16 (by decide) ?_
    obtain rfl := ou1 hf
    rw [hQ]
    exact W.lret hx hb hr (fun t ht hW => ⟨⟨_, (), rfl, rfl, by rw [ht]; exact hP, va_K.moved hW.alike hK, hD⟩, hS.F ht⟩) hS.2.2 dX12_lowest_23

noncomputable def B_X12_power_6 (x3 : Int) (x1 : Int) (again6 : Int → Int → Option (Int)) (z3 : Int) (z4 : Int) : Option (Int) := (ck (z_r32 z3) (ck (z_r32 x3) (if x3 ≤ z3 then (some z4) else (bnd (z4 * x1) (fun (z8 : Int) => (bnd (z3 + (1 : Int)) (fun (z9 : Int) => (again6 z9 z8))))))))
noncomputable def f_X12_power (x1 : Int) (x3 : Int) : Option (Int) := (bnd (1 : Int) (fun (z1 : Int) => (bnd (0 : Int) (fun (z2 : Int) => (lq2 (B_X12_power_6 x3 x1) 1000 z2 z1)))))
abbrev rm_X12_power : Room := { frames := 0, cells := 0, slots := 0, locals := 0 }
set_option maxHeartbeats 8000000 in
set_option maxRecDepth 100000 in
theorem c_X12_power (l : Launch) (D : va_G) (G : Nat → ClassId) (sz : Nat) (a_p0 : Nat) (a_p0_st : Nat) (a_p0_isKept : Nat) (a_p0_brings : Nat) (a_p0_need : Nat) (a_p0_draft : Nat) (a_p0_dStir : Nat) (a_p0_dNeed : Nat) (a_p0_tape : Nat) (a_p0_places : Nat) (a_p0_stirred : Nat) (a_p0_ways : Nat) (a_p0_waysThen : Nat) (a_p0_stays : Nat) (a_p0_fewest : Nat) (a_p0_bowls : Nat) (a_p0_has : Nat) (a_p0_goesOn : Nat) (a_p0_isThere : Nat) (a_p0_isThereThen : Nat) (a_p0_bestRow : Nat) (a_p0_lanes : Nat) (a_p0_sizes : Nat) (a_p0_cells : Nat) (i_p0_seats : Int) (i_p0_stirs : Int) (i_p0_dSeats : Int) (i_p0_dStirs : Int) (i_p0_told : Int) (i_p0_highest : Int) (i_p0_taped : Int) (i_p0_pos : Int) (i_p0_from : Int) (i_p0_sort : Int) (i_p0_value : Int) (i_p0_fault : Int) (i_p0_wrongAt : Int) (i_p0_torn : Int) (x1 : Int) (x3 : Int) (r : Int) (hf : f_X12_power x1 x3 = some r) : Met l yX12_power wsX12_power rm_X12_power (pcG D G [.ref a_p0, .long (Int64.ofInt x1), .int (Int32.ofInt x3)] sz [(a_p0, .inr (12, [.ref a_p0_st, .ref a_p0_isKept, .int (Int32.ofInt i_p0_seats), .int (Int32.ofInt i_p0_stirs), .ref a_p0_brings, .ref a_p0_need, .ref a_p0_draft, .int (Int32.ofInt i_p0_dSeats), .int (Int32.ofInt i_p0_dStirs), .ref a_p0_dStir, .ref a_p0_dNeed, .int (Int32.ofInt i_p0_told), .int (Int32.ofInt i_p0_highest), .ref a_p0_tape, .int (Int32.ofInt i_p0_taped), .int (Int32.ofInt i_p0_pos), .int (Int32.ofInt i_p0_from), .int (Int32.ofInt i_p0_sort), .int (Int32.ofInt i_p0_value), .int (Int32.ofInt i_p0_fault), .int (Int32.ofInt i_p0_wrongAt), .ref a_p0_places, .ref a_p0_stirred, .ref a_p0_ways, .ref a_p0_waysThen, .ref a_p0_stays, .ref a_p0_fewest, .ref a_p0_bowls, .ref a_p0_has, .ref a_p0_goesOn, .ref a_p0_isThere, .ref a_p0_isThereThen, .ref a_p0_bestRow, .ref a_p0_lanes, .ref a_p0_sizes, .ref a_p0_cells, .int (Int32.ofInt i_p0_torn)]))]) (qcL D G (Int64.ofInt r) [(a_p0, .inr (12, [.ref a_p0_st, .ref a_p0_isKept, .int (Int32.ofInt i_p0_seats), .int (Int32.ofInt i_p0_stirs), .ref a_p0_brings, .ref a_p0_need, .ref a_p0_draft, .int (Int32.ofInt i_p0_dSeats), .int (Int32.ofInt i_p0_dStirs), .ref a_p0_dStir, .ref a_p0_dNeed, .int (Int32.ofInt i_p0_told), .int (Int32.ofInt i_p0_highest), .ref a_p0_tape, .int (Int32.ofInt i_p0_taped), .int (Int32.ofInt i_p0_pos), .int (Int32.ofInt i_p0_from), .int (Int32.ofInt i_p0_sort), .int (Int32.ofInt i_p0_value), .int (Int32.ofInt i_p0_fault), .int (Int32.ofInt i_p0_wrongAt), .ref a_p0_places, .ref a_p0_stirred, .ref a_p0_ways, .ref a_p0_waysThen, .ref a_p0_stays, .ref a_p0_fewest, .ref a_p0_bowls, .ref a_p0_has, .ref a_p0_goesOn, .ref a_p0_isThere, .ref a_p0_isThereThen, .ref a_p0_bestRow, .ref a_p0_lanes, .ref a_p0_sizes, .ref a_p0_cells, .int (Int32.ofInt i_p0_torn)]))] (va_A [(a_p0, .inr (12, [.ref a_p0_st, .ref a_p0_isKept, .int (Int32.ofInt i_p0_seats), .int (Int32.ofInt i_p0_stirs), .ref a_p0_brings, .ref a_p0_need, .ref a_p0_draft, .int (Int32.ofInt i_p0_dSeats), .int (Int32.ofInt i_p0_dStirs), .ref a_p0_dStir, .ref a_p0_dNeed, .int (Int32.ofInt i_p0_told), .int (Int32.ofInt i_p0_highest), .ref a_p0_tape, .int (Int32.ofInt i_p0_taped), .int (Int32.ofInt i_p0_pos), .int (Int32.ofInt i_p0_from), .int (Int32.ofInt i_p0_sort), .int (Int32.ofInt i_p0_value), .int (Int32.ofInt i_p0_fault), .int (Int32.ofInt i_p0_wrongAt), .ref a_p0_places, .ref a_p0_stirred, .ref a_p0_ways, .ref a_p0_waysThen, .ref a_p0_stays, .ref a_p0_fewest, .ref a_p0_bowls, .ref a_p0_has, .ref a_p0_goesOn, .ref a_p0_isThere, .ref a_p0_isThereThen, .ref a_p0_bestRow, .ref a_p0_lanes, .ref a_p0_sizes, .ref a_p0_cells, .int (Int32.ofInt i_p0_torn)]))] sz)) 0 0 (va_A [(a_p0, .inr (12, [.ref a_p0_st, .ref a_p0_isKept, .int (Int32.ofInt i_p0_seats), .int (Int32.ofInt i_p0_stirs), .ref a_p0_brings, .ref a_p0_need, .ref a_p0_draft, .int (Int32.ofInt i_p0_dSeats), .int (Int32.ofInt i_p0_dStirs), .ref a_p0_dStir, .ref a_p0_dNeed, .int (Int32.ofInt i_p0_told), .int (Int32.ofInt i_p0_highest), .ref a_p0_tape, .int (Int32.ofInt i_p0_taped), .int (Int32.ofInt i_p0_pos), .int (Int32.ofInt i_p0_from), .int (Int32.ofInt i_p0_sort), .int (Int32.ofInt i_p0_value), .int (Int32.ofInt i_p0_fault), .int (Int32.ofInt i_p0_wrongAt), .ref a_p0_places, .ref a_p0_stirred, .ref a_p0_ways, .ref a_p0_waysThen, .ref a_p0_stays, .ref a_p0_fewest, .ref a_p0_bowls, .ref a_p0_has, .ref a_p0_goesOn, .ref a_p0_isThere, .ref a_p0_isThereThen, .ref a_p0_bestRow, .ref a_p0_lanes, .ref a_p0_sizes, .ref a_p0_cells, .int (Int32.ofInt i_p0_torn)]))] sz) := by
  refine Met.ofW (cc := cX12_power) (maxL := 7) (ret := (some .long)) (by decide) rfl ?_
  intro p e s m args below meth c s₁ B hml hv
  obtain ⟨rfl, hsz, hP, hK, hD0⟩ := hv
  have hx := B.exec
  have hb := B.bytes
  have hr := B.returns
  have hts := atoms_spec (ws := wsX12_power) B.pre
  have hown : s.vm.findClass RX12 = some m.cls := findClass_of_methodNamed B.named
  have hlocks := B.notSynchronized
  subst hsz
  have hD := hD0.self (sz := s.heap.size)
  generalize hAe : va_A [(a_p0, .inr (12, [.ref a_p0_st, .ref a_p0_isKept, .int (Int32.ofInt i_p0_seats), .int (Int32.ofInt i_p0_stirs), .ref a_p0_brings, .ref a_p0_need, .ref a_p0_draft, .int (Int32.ofInt i_p0_dSeats), .int (Int32.ofInt i_p0_dStirs), .ref a_p0_dStir, .ref a_p0_dNeed, .int (Int32.ofInt i_p0_told), .int (Int32.ofInt i_p0_highest), .ref a_p0_tape, .int (Int32.ofInt i_p0_taped), .int (Int32.ofInt i_p0_pos), .int (Int32.ofInt i_p0_from), .int (Int32.ofInt i_p0_sort), .int (Int32.ofInt i_p0_value), .int (Int32.ofInt i_p0_fault), .int (Int32.ofInt i_p0_wrongAt), .ref a_p0_places, .ref a_p0_stirred, .ref a_p0_ways, .ref a_p0_waysThen, .ref a_p0_stays, .ref a_p0_fewest, .ref a_p0_bowls, .ref a_p0_has, .ref a_p0_goesOn, .ref a_p0_isThere, .ref a_p0_isThereThen, .ref a_p0_bestRow, .ref a_p0_lanes, .ref a_p0_sizes, .ref a_p0_cells, .int (Int32.ofInt i_p0_torn)]))] s.heap.size = A at hD ⊢
  have hA : ∀ q : Nat, s.heap.size ≤ q → A q := fun q h => by rw [← hAe]; exact Or.inr h
  clear hAe hD0
  have hS : va_S A s.heap s.heap [] := va_S.rf
  have hl := lv_entry ([.ref a_p0, .long (Int64.ofInt x1), .int (Int32.ofInt x3)]) (n := 7) (Nat.le_of_ble_eq_true rfl)
  rw [lg_entry_eq]
  generalize (lg_sl ([.ref a_p0, .long (Int64.ofInt x1), .int (Int32.ofInt x3)]) ++ List.replicate (7 - (lg_sl ([.ref a_p0, .long (Int64.ofInt x1), .int (Int32.ofInt x3)])).length) Slot.unset).toArray = ls at hl ⊢
  have hl : lv_has ls 7 [(0, .ref a_p0), (1, .long (Int64.ofInt x1)), (3, .int (Int32.ofInt x3))] := hl
  refine W_nameQ (fun Q hQ => ?_)
  obtain ⟨H, hH⟩ : ∃ H, H = s.heap := ⟨_, rfl⟩
  replace hS : va_S A s.heap H [] := by rw [hH]; exact hS
  replace hP : va_P D vwCl [(a_p0, .inr (12, [.ref a_p0_st, .ref a_p0_isKept, .int (Int32.ofInt i_p0_seats), .int (Int32.ofInt i_p0_stirs), .ref a_p0_brings, .ref a_p0_need, .ref a_p0_draft, .int (Int32.ofInt i_p0_dSeats), .int (Int32.ofInt i_p0_dStirs), .ref a_p0_dStir, .ref a_p0_dNeed, .int (Int32.ofInt i_p0_told), .int (Int32.ofInt i_p0_highest), .ref a_p0_tape, .int (Int32.ofInt i_p0_taped), .int (Int32.ofInt i_p0_pos), .int (Int32.ofInt i_p0_from), .int (Int32.ofInt i_p0_sort), .int (Int32.ofInt i_p0_value), .int (Int32.ofInt i_p0_fault), .int (Int32.ofInt i_p0_wrongAt), .ref a_p0_places, .ref a_p0_stirred, .ref a_p0_ways, .ref a_p0_waysThen, .ref a_p0_stays, .ref a_p0_fewest, .ref a_p0_bowls, .ref a_p0_has, .ref a_p0_goesOn, .ref a_p0_isThere, .ref a_p0_isThereThen, .ref a_p0_bestRow, .ref a_p0_lanes, .ref a_p0_sizes, .ref a_p0_cells, .int (Int32.ofInt i_p0_torn)]))] H := by rw [hH]; exact hP
  rw [← hH]
  clear hH
  unfold f_X12_power at hf
  refine lv_lconst (v := Int64.ofInt (1 : Int)) hx hb dX12_power_0 (by decide) ?_
  refine z_topl (fun z1 ez => ?_)
  replace hf := bnd_s hf ez
  clear ez
  refine lv_lstore (lv' := [(4, .long (Int64.ofInt z1)), (0, .ref a_p0), (1, .long (Int64.ofInt x1)), (3, .int (Int32.ofInt x3))]) hx hb dX12_power_1 hl (by decide) rfl (fun ls hl => ?_)
  refine lv_iconst (v := Int32.ofInt (0 : Int)) hx hb dX12_power_3 (by decide) ?_
  refine z_topi (fun z2 ez => ?_)
  replace hf := bnd_s hf ez
  clear ez
  refine lv_istore (lv' := [(6, .int (Int32.ofInt z2)), (4, .long (Int64.ofInt z1)), (0, .ref a_p0), (1, .long (Int64.ofInt x1)), (3, .int (Int32.ofInt x3))]) hx hb dX12_power_4 hl (by decide) rfl (fun ls hl => ?_)
  have hq := lq2_i hf
  clear hf
  obtain ⟨B5, eB5, NB5, hf⟩ := hq
  have hB5 : ∀ (n : Nat) (z3 : Int) (z4 : Int) (ls : Array Slot) (H : Heap) (locs : List Loc), lv_has ls 7 [(6, .int (Int32.ofInt z3)), (4, .long (Int64.ofInt z4)), (1, .long (Int64.ofInt x1)), (3, .int (Int32.ofInt x3))] → va_P D vwCl [(a_p0, .inr (12, [.ref a_p0_st, .ref a_p0_isKept, .int (Int32.ofInt i_p0_seats), .int (Int32.ofInt i_p0_stirs), .ref a_p0_brings, .ref a_p0_need, .ref a_p0_draft, .int (Int32.ofInt i_p0_dSeats), .int (Int32.ofInt i_p0_dStirs), .ref a_p0_dStir, .ref a_p0_dNeed, .int (Int32.ofInt i_p0_told), .int (Int32.ofInt i_p0_highest), .ref a_p0_tape, .int (Int32.ofInt i_p0_taped), .int (Int32.ofInt i_p0_pos), .int (Int32.ofInt i_p0_from), .int (Int32.ofInt i_p0_sort), .int (Int32.ofInt i_p0_value), .int (Int32.ofInt i_p0_fault), .int (Int32.ofInt i_p0_wrongAt), .ref a_p0_places, .ref a_p0_stirred, .ref a_p0_ways, .ref a_p0_waysThen, .ref a_p0_stays, .ref a_p0_fewest, .ref a_p0_bowls, .ref a_p0_has, .ref a_p0_goesOn, .ref a_p0_isThere, .ref a_p0_isThereThen, .ref a_p0_bestRow, .ref a_p0_lanes, .ref a_p0_sizes, .ref a_p0_cells, .int (Int32.ofInt i_p0_torn)]))] H → va_D A [(a_p0, .inr (12, [.ref a_p0_st, .ref a_p0_isKept, .int (Int32.ofInt i_p0_seats), .int (Int32.ofInt i_p0_stirs), .ref a_p0_brings, .ref a_p0_need, .ref a_p0_draft, .int (Int32.ofInt i_p0_dSeats), .int (Int32.ofInt i_p0_dStirs), .ref a_p0_dStir, .ref a_p0_dNeed, .int (Int32.ofInt i_p0_told), .int (Int32.ofInt i_p0_highest), .ref a_p0_tape, .int (Int32.ofInt i_p0_taped), .int (Int32.ofInt i_p0_pos), .int (Int32.ofInt i_p0_from), .int (Int32.ofInt i_p0_sort), .int (Int32.ofInt i_p0_value), .int (Int32.ofInt i_p0_fault), .int (Int32.ofInt i_p0_wrongAt), .ref a_p0_places, .ref a_p0_stirred, .ref a_p0_ways, .ref a_p0_waysThen, .ref a_p0_stays, .ref a_p0_fewest, .ref a_p0_bowls, .ref a_p0_has, .ref a_p0_goesOn, .ref a_p0_isThere, .ref a_p0_isThereThen, .ref a_p0_bestRow, .ref a_p0_lanes, .ref a_p0_sizes, .ref a_p0_cells, .int (Int32.ofInt i_p0_torn)]))] → va_S A s.heap H locs → lq2 B5 n z3 z4 = some r → W p l e rm_X12_power s m ([.ref a_p0, .long (Int64.ofInt x1), .int (Int32.ofInt x3)] : List Value).toArray below meth c H locs 0 0 Q (F0 m 6 ls []) := by
    clear hf hl hP hD hS
    intro n
    induction n with
    | zero =>
      intro z3 z4 ls H locs hl hP hD hS hf
      exact (lq2_0 hf).elim
    | succ n ih6 =>
      intro z3 z4 ls H locs hl hP hD hS hf
      replace hf := lq2_s eB5 hf
      unfold B_X12_power_6 at hf
      refine lv_iload hx hb dX12_power_6 (lv_at hl 0 rfl) ?_
      refine lv_iload_n hx hb dX12_power_8 rfl (lv_at hl 3 rfl) ?_
      have hr5 := ck_c hf
      replace hf := ck_r hf
      have hr6 := ck_c hf
      replace hf := ck_r hf
      refine lv_icmp_ge (tgt := 24) hx hb dX12_power_9 (by decide) (fun cc => ?_) (fun cc => ?_)
      ·
        replace hf := ite_t ((z_le hr6 hr5).mp cc) hf
        clear cc
        refine lv_lload hx hb dX12_power_24 (lv_at hl 1 rfl) ?_
        obtain rfl := ou1 hf
        rw [hQ]
        exact W.lret hx hb hr (fun t ht hW => ⟨⟨_, (), rfl, rfl, by rw [ht]; exact hP, va_K.moved hW.alike hK, hD⟩, hS.F ht⟩) hS.2.2 dX12_power_26
      ·
        replace hf := ite_f (fun h9 => cc ((z_le hr6 hr5).mpr h9)) hf
        clear cc
        refine lv_lload hx hb dX12_power_12 (lv_at hl 1 rfl) ?_
        refine lv_lload_n hx hb dX12_power_14 rfl (lv_at hl 2 rfl) ?_
        refine lv_lmul hx hb dX12_power_15 (z_cl (Int64.ofInt_mul z4 x1) ?_)
        refine z_topl (fun z8 ez => ?_)
        replace hf := bnd_s hf ez
        clear ez
        refine lv_lstore (lv' := [(4, .long (Int64.ofInt z8)), (6, .int (Int32.ofInt z3)), (1, .long (Int64.ofInt x1)), (3, .int (Int32.ofInt x3))]) hx hb dX12_power_16 hl (by decide) rfl (fun ls hl => ?_)
        obtain ⟨z9, ez⟩ : ∃ y : Int, y = (z3 + (1 : Int)) := ⟨_, rfl⟩
        replace hf := bnd_s hf ez
        refine lv_iinc (v := Int32.ofInt z9) (lv' := [(6, .int (Int32.ofInt z9)), (4, .long (Int64.ofInt z8)), (1, .long (Int64.ofInt x1)), (3, .int (Int32.ofInt x3))]) hx hb dX12_power_18 hl (k := 1) rfl (by rw [ez]; exact (Int32.ofInt_add _ _).symm) (by decide) rfl (fun ls hl => ?_)
        clear ez
        refine lv_goto (tgt := 6) hx hb dX12_power_21 (by decide) ?_
        exact ih6 _ _ _ _ _ (lv_sub hl [0, 1, 2, 3] rfl) hP hD hS hf
  exact hB5 _ _ _ _ _ _ (lv_sub hl [0, 1, 3, 4] rfl) hP hD hS hf

noncomputable def B_X12_firstWays_2 (J3 : (Int → Int) → Option ((Int → Int))) (again2 : Int → (Int → Int) → Option ((Int → Int))) (z5 : Int) (w6 : (Int → Int)) : Option ((Int → Int)) := (ck (z_r32 z5) (if (49 : Int) ≤ z5 then (J3 w6) else (ck (z_ix z5 49) (bnd (z_up w6 z5 (0 : Int)) (fun (w9 : (Int → Int)) => (bnd (z5 + (1 : Int)) (fun (z10 : Int) => (again2 z10 w9))))))))
noncomputable def f_X12_firstWays (v_p0_st : (Int → Int)) (v_p0_ways : (Int → Int)) : Option ((Int → Int)) := (bnd (0 : Int) (fun (z1 : Int) => (jn (fun (w2 : (Int → Int)) => (ck (z_ix (7 : Int) 152) (ck (z_ix (8 : Int) 152) (ck (z_ix (((7 : Int) * (v_p0_st (7 : Int))) + (v_p0_st (8 : Int))) 49) (bnd (z_up w2 (((7 : Int) * (v_p0_st (7 : Int))) + (v_p0_st (8 : Int))) (1 : Int)) (fun (w4 : (Int → Int)) => (some w4))))))) (fun (J3 : (Int → Int) → Option ((Int → Int))) => (lq2 (B_X12_firstWays_2 J3) 1000 z1 v_p0_ways)))))
abbrev rm_X12_firstWays : Room := { frames := 0, cells := 0, slots := 0, locals := 0 }
theorem inX12_firstWays_X12 : ∀ w ∈ wsX120, w ∈ wsX12_firstWays := by first | exact fun w h => List.mem_cons_of_mem _ (List.mem_append_right _ h) | decide +kernel
theorem mwX12_firstWays_1 : Cond.fieldLink RX12 41 "LadleKingsModel" "ways" "[J" ∈ wsX12_firstWays := by first | exact List.mem_of_getElem? (i := 1) rfl | decide +kernel
theorem mwX12_firstWays_2 : Cond.fieldLink RX12 7 "LadleKingsModel" "st" "[I" ∈ wsX12_firstWays := by first | exact List.mem_of_getElem? (i := 2) rfl | decide +kernel
set_option maxHeartbeats 8000000 in
set_option maxRecDepth 100000 in
theorem c_X12_firstWays (l : Launch) (D : va_G) (G : Nat → ClassId) (sz : Nat) (a_p0 : Nat) (a_p0_st : Nat) (a_p0_isKept : Nat) (a_p0_brings : Nat) (a_p0_need : Nat) (a_p0_draft : Nat) (a_p0_dStir : Nat) (a_p0_dNeed : Nat) (a_p0_tape : Nat) (a_p0_places : Nat) (a_p0_stirred : Nat) (a_p0_ways : Nat) (a_p0_waysThen : Nat) (a_p0_stays : Nat) (a_p0_fewest : Nat) (a_p0_bowls : Nat) (a_p0_has : Nat) (a_p0_goesOn : Nat) (a_p0_isThere : Nat) (a_p0_isThereThen : Nat) (a_p0_bestRow : Nat) (a_p0_lanes : Nat) (a_p0_sizes : Nat) (a_p0_cells : Nat) (i_p0_seats : Int) (i_p0_stirs : Int) (i_p0_dSeats : Int) (i_p0_dStirs : Int) (i_p0_told : Int) (i_p0_highest : Int) (i_p0_taped : Int) (i_p0_pos : Int) (i_p0_from : Int) (i_p0_sort : Int) (i_p0_value : Int) (i_p0_fault : Int) (i_p0_wrongAt : Int) (i_p0_torn : Int) (v_p0_st : (Int → Int)) (v_p0_ways : (Int → Int)) (o_v_p0_ways : (Int → Int)) (hf : f_X12_firstWays v_p0_st v_p0_ways = some o_v_p0_ways) : Met l yX12_firstWays wsX12_firstWays rm_X12_firstWays (pcG D G [.ref a_p0] sz [(a_p0, .inr (12, [.ref a_p0_st, .ref a_p0_isKept, .int (Int32.ofInt i_p0_seats), .int (Int32.ofInt i_p0_stirs), .ref a_p0_brings, .ref a_p0_need, .ref a_p0_draft, .int (Int32.ofInt i_p0_dSeats), .int (Int32.ofInt i_p0_dStirs), .ref a_p0_dStir, .ref a_p0_dNeed, .int (Int32.ofInt i_p0_told), .int (Int32.ofInt i_p0_highest), .ref a_p0_tape, .int (Int32.ofInt i_p0_taped), .int (Int32.ofInt i_p0_pos), .int (Int32.ofInt i_p0_from), .int (Int32.ofInt i_p0_sort), .int (Int32.ofInt i_p0_value), .int (Int32.ofInt i_p0_fault), .int (Int32.ofInt i_p0_wrongAt), .ref a_p0_places, .ref a_p0_stirred, .ref a_p0_ways, .ref a_p0_waysThen, .ref a_p0_stays, .ref a_p0_fewest, .ref a_p0_bowls, .ref a_p0_has, .ref a_p0_goesOn, .ref a_p0_isThere, .ref a_p0_isThereThen, .ref a_p0_bestRow, .ref a_p0_lanes, .ref a_p0_sizes, .ref a_p0_cells, .int (Int32.ofInt i_p0_torn)])), (a_p0_st, .inl (G 1, 152, .inl (zA v_p0_st))), (a_p0_ways, .inl (G 2, 49, .inr (.inl (zL v_p0_ways))))]) (qcV D G [(a_p0, .inr (12, [.ref a_p0_st, .ref a_p0_isKept, .int (Int32.ofInt i_p0_seats), .int (Int32.ofInt i_p0_stirs), .ref a_p0_brings, .ref a_p0_need, .ref a_p0_draft, .int (Int32.ofInt i_p0_dSeats), .int (Int32.ofInt i_p0_dStirs), .ref a_p0_dStir, .ref a_p0_dNeed, .int (Int32.ofInt i_p0_told), .int (Int32.ofInt i_p0_highest), .ref a_p0_tape, .int (Int32.ofInt i_p0_taped), .int (Int32.ofInt i_p0_pos), .int (Int32.ofInt i_p0_from), .int (Int32.ofInt i_p0_sort), .int (Int32.ofInt i_p0_value), .int (Int32.ofInt i_p0_fault), .int (Int32.ofInt i_p0_wrongAt), .ref a_p0_places, .ref a_p0_stirred, .ref a_p0_ways, .ref a_p0_waysThen, .ref a_p0_stays, .ref a_p0_fewest, .ref a_p0_bowls, .ref a_p0_has, .ref a_p0_goesOn, .ref a_p0_isThere, .ref a_p0_isThereThen, .ref a_p0_bestRow, .ref a_p0_lanes, .ref a_p0_sizes, .ref a_p0_cells, .int (Int32.ofInt i_p0_torn)])), (a_p0_st, .inl (G 1, 152, .inl (zA v_p0_st))), (a_p0_ways, .inl (G 2, 49, .inr (.inl (zL o_v_p0_ways))))] (va_A [(a_p0, .inr (12, [.ref a_p0_st, .ref a_p0_isKept, .int (Int32.ofInt i_p0_seats), .int (Int32.ofInt i_p0_stirs), .ref a_p0_brings, .ref a_p0_need, .ref a_p0_draft, .int (Int32.ofInt i_p0_dSeats), .int (Int32.ofInt i_p0_dStirs), .ref a_p0_dStir, .ref a_p0_dNeed, .int (Int32.ofInt i_p0_told), .int (Int32.ofInt i_p0_highest), .ref a_p0_tape, .int (Int32.ofInt i_p0_taped), .int (Int32.ofInt i_p0_pos), .int (Int32.ofInt i_p0_from), .int (Int32.ofInt i_p0_sort), .int (Int32.ofInt i_p0_value), .int (Int32.ofInt i_p0_fault), .int (Int32.ofInt i_p0_wrongAt), .ref a_p0_places, .ref a_p0_stirred, .ref a_p0_ways, .ref a_p0_waysThen, .ref a_p0_stays, .ref a_p0_fewest, .ref a_p0_bowls, .ref a_p0_has, .ref a_p0_goesOn, .ref a_p0_isThere, .ref a_p0_isThereThen, .ref a_p0_bestRow, .ref a_p0_lanes, .ref a_p0_sizes, .ref a_p0_cells, .int (Int32.ofInt i_p0_torn)])), (a_p0_st, .inl (G 1, 152, .inl (zA v_p0_st))), (a_p0_ways, .inl (G 2, 49, .inr (.inl (zL v_p0_ways))))] sz)) 0 0 (va_A [(a_p0, .inr (12, [.ref a_p0_st, .ref a_p0_isKept, .int (Int32.ofInt i_p0_seats), .int (Int32.ofInt i_p0_stirs), .ref a_p0_brings, .ref a_p0_need, .ref a_p0_draft, .int (Int32.ofInt i_p0_dSeats), .int (Int32.ofInt i_p0_dStirs), .ref a_p0_dStir, .ref a_p0_dNeed, .int (Int32.ofInt i_p0_told), .int (Int32.ofInt i_p0_highest), .ref a_p0_tape, .int (Int32.ofInt i_p0_taped), .int (Int32.ofInt i_p0_pos), .int (Int32.ofInt i_p0_from), .int (Int32.ofInt i_p0_sort), .int (Int32.ofInt i_p0_value), .int (Int32.ofInt i_p0_fault), .int (Int32.ofInt i_p0_wrongAt), .ref a_p0_places, .ref a_p0_stirred, .ref a_p0_ways, .ref a_p0_waysThen, .ref a_p0_stays, .ref a_p0_fewest, .ref a_p0_bowls, .ref a_p0_has, .ref a_p0_goesOn, .ref a_p0_isThere, .ref a_p0_isThereThen, .ref a_p0_bestRow, .ref a_p0_lanes, .ref a_p0_sizes, .ref a_p0_cells, .int (Int32.ofInt i_p0_torn)])), (a_p0_st, .inl (G 1, 152, .inl (zA v_p0_st))), (a_p0_ways, .inl (G 2, 49, .inr (.inl (zL v_p0_ways))))] sz) := by
  refine Met.ofW (cc := cX12_firstWays) (maxL := 2) (ret := none) (by decide) rfl ?_
  intro p e s m args below meth c s₁ B hml hv
  obtain ⟨rfl, hsz, hP, hK, hD0⟩ := hv
  have hx := B.exec
  have hb := B.bytes
  have hr := B.returns
  have hts := atoms_spec (ws := wsX12_firstWays) B.pre
  have hown : s.vm.findClass RX12 = some m.cls := findClass_of_methodNamed B.named
  have hlocks := B.notSynchronized
  subst hsz
  have hD := hD0.self (sz := s.heap.size)
  generalize hAe : va_A [(a_p0, .inr (12, [.ref a_p0_st, .ref a_p0_isKept, .int (Int32.ofInt i_p0_seats), .int (Int32.ofInt i_p0_stirs), .ref a_p0_brings, .ref a_p0_need, .ref a_p0_draft, .int (Int32.ofInt i_p0_dSeats), .int (Int32.ofInt i_p0_dStirs), .ref a_p0_dStir, .ref a_p0_dNeed, .int (Int32.ofInt i_p0_told), .int (Int32.ofInt i_p0_highest), .ref a_p0_tape, .int (Int32.ofInt i_p0_taped), .int (Int32.ofInt i_p0_pos), .int (Int32.ofInt i_p0_from), .int (Int32.ofInt i_p0_sort), .int (Int32.ofInt i_p0_value), .int (Int32.ofInt i_p0_fault), .int (Int32.ofInt i_p0_wrongAt), .ref a_p0_places, .ref a_p0_stirred, .ref a_p0_ways, .ref a_p0_waysThen, .ref a_p0_stays, .ref a_p0_fewest, .ref a_p0_bowls, .ref a_p0_has, .ref a_p0_goesOn, .ref a_p0_isThere, .ref a_p0_isThereThen, .ref a_p0_bestRow, .ref a_p0_lanes, .ref a_p0_sizes, .ref a_p0_cells, .int (Int32.ofInt i_p0_torn)])), (a_p0_st, .inl (G 1, 152, .inl (zA v_p0_st))), (a_p0_ways, .inl (G 2, 49, .inr (.inl (zL v_p0_ways))))] s.heap.size = A at hD ⊢
  have hA : ∀ q : Nat, s.heap.size ≤ q → A q := fun q h => by rw [← hAe]; exact Or.inr h
  clear hAe hD0
  have hS : va_S A s.heap s.heap [] := va_S.rf
  have hl := lv_entry ([.ref a_p0]) (n := 2) (Nat.le_of_ble_eq_true rfl)
  rw [lg_entry_eq]
  generalize (lg_sl ([.ref a_p0]) ++ List.replicate (2 - (lg_sl ([.ref a_p0])).length) Slot.unset).toArray = ls at hl ⊢
  have hl : lv_has ls 2 [(0, .ref a_p0)] := hl
  refine W_nameQ (fun Q hQ => ?_)
  obtain ⟨H, hH⟩ : ∃ H, H = s.heap := ⟨_, rfl⟩
  replace hS : va_S A s.heap H [] := by rw [hH]; exact hS
  replace hP : va_P D vwCl [(a_p0, .inr (12, [.ref a_p0_st, .ref a_p0_isKept, .int (Int32.ofInt i_p0_seats), .int (Int32.ofInt i_p0_stirs), .ref a_p0_brings, .ref a_p0_need, .ref a_p0_draft, .int (Int32.ofInt i_p0_dSeats), .int (Int32.ofInt i_p0_dStirs), .ref a_p0_dStir, .ref a_p0_dNeed, .int (Int32.ofInt i_p0_told), .int (Int32.ofInt i_p0_highest), .ref a_p0_tape, .int (Int32.ofInt i_p0_taped), .int (Int32.ofInt i_p0_pos), .int (Int32.ofInt i_p0_from), .int (Int32.ofInt i_p0_sort), .int (Int32.ofInt i_p0_value), .int (Int32.ofInt i_p0_fault), .int (Int32.ofInt i_p0_wrongAt), .ref a_p0_places, .ref a_p0_stirred, .ref a_p0_ways, .ref a_p0_waysThen, .ref a_p0_stays, .ref a_p0_fewest, .ref a_p0_bowls, .ref a_p0_has, .ref a_p0_goesOn, .ref a_p0_isThere, .ref a_p0_isThereThen, .ref a_p0_bestRow, .ref a_p0_lanes, .ref a_p0_sizes, .ref a_p0_cells, .int (Int32.ofInt i_p0_torn)])), (a_p0_st, .inl (G 1, 152, .inl (zA v_p0_st))), (a_p0_ways, .inl (G 2, 49, .inr (.inl (zL v_p0_ways))))] H := by rw [hH]; exact hP
  rw [← hH]
  clear hH
  unfold f_X12_firstWays at hf
  refine lv_iconst (v := Int32.ofInt (0 : Int)) hx hb dX12_firstWays_0 (by decide) ?_
  refine z_topi (fun z1 ez => ?_)
  replace hf := bnd_s hf ez
  clear ez
  refine lv_istore_n (lv' := [(1, .int (Int32.ofInt z1)), (0, .ref a_p0)]) hx hb dX12_firstWays_1 rfl hl (by decide) rfl (fun ls hl => ?_)
  have hq := jn_i hf
  clear hf
  obtain ⟨J3, eJ3, hf⟩ := hq
  have hJ3 : ∀ (w2 : (Int → Int)) (ls : Array Slot) (H : Heap) (locs : List Loc), lv_has ls 2 [(0, .ref a_p0)] → va_P D vwCl [(a_p0, .inr (12, [.ref a_p0_st, .ref a_p0_isKept, .int (Int32.ofInt i_p0_seats), .int (Int32.ofInt i_p0_stirs), .ref a_p0_brings, .ref a_p0_need, .ref a_p0_draft, .int (Int32.ofInt i_p0_dSeats), .int (Int32.ofInt i_p0_dStirs), .ref a_p0_dStir, .ref a_p0_dNeed, .int (Int32.ofInt i_p0_told), .int (Int32.ofInt i_p0_highest), .ref a_p0_tape, .int (Int32.ofInt i_p0_taped), .int (Int32.ofInt i_p0_pos), .int (Int32.ofInt i_p0_from), .int (Int32.ofInt i_p0_sort), .int (Int32.ofInt i_p0_value), .int (Int32.ofInt i_p0_fault), .int (Int32.ofInt i_p0_wrongAt), .ref a_p0_places, .ref a_p0_stirred, .ref a_p0_ways, .ref a_p0_waysThen, .ref a_p0_stays, .ref a_p0_fewest, .ref a_p0_bowls, .ref a_p0_has, .ref a_p0_goesOn, .ref a_p0_isThere, .ref a_p0_isThereThen, .ref a_p0_bestRow, .ref a_p0_lanes, .ref a_p0_sizes, .ref a_p0_cells, .int (Int32.ofInt i_p0_torn)])), (a_p0_st, .inl (G 1, 152, .inl (zA v_p0_st))), (a_p0_ways, .inl (G 2, 49, .inr (.inl (zL w2))))] H → va_D A [(a_p0, .inr (12, [.ref a_p0_st, .ref a_p0_isKept, .int (Int32.ofInt i_p0_seats), .int (Int32.ofInt i_p0_stirs), .ref a_p0_brings, .ref a_p0_need, .ref a_p0_draft, .int (Int32.ofInt i_p0_dSeats), .int (Int32.ofInt i_p0_dStirs), .ref a_p0_dStir, .ref a_p0_dNeed, .int (Int32.ofInt i_p0_told), .int (Int32.ofInt i_p0_highest), .ref a_p0_tape, .int (Int32.ofInt i_p0_taped), .int (Int32.ofInt i_p0_pos), .int (Int32.ofInt i_p0_from), .int (Int32.ofInt i_p0_sort), .int (Int32.ofInt i_p0_value), .int (Int32.ofInt i_p0_fault), .int (Int32.ofInt i_p0_wrongAt), .ref a_p0_places, .ref a_p0_stirred, .ref a_p0_ways, .ref a_p0_waysThen, .ref a_p0_stays, .ref a_p0_fewest, .ref a_p0_bowls, .ref a_p0_has, .ref a_p0_goesOn, .ref a_p0_isThere, .ref a_p0_isThereThen, .ref a_p0_bestRow, .ref a_p0_lanes, .ref a_p0_sizes, .ref a_p0_cells, .int (Int32.ofInt i_p0_torn)])), (a_p0_st, .inl (G 1, 152, .inl (zA v_p0_st))), (a_p0_ways, .inl (G 2, 49, .inr (.inl (zL w2))))] → va_S A s.heap H locs → J3 w2 = some o_v_p0_ways → W p l e rm_X12_firstWays s m ([.ref a_p0] : List Value).toArray below meth c H locs 0 0 Q (F0 m 21 ls []) := by
    clear hf hl hP hD hS
    intro w2 ls H locs hl hP hD hS hf
    replace hf := jn1_s eJ3 hf
    refine lv_aload_n hx hb dX12_firstWays_21 rfl (lv_at hl 0 rfl) ?_
    refine va_get (D := D) (ci := 12) (v := .ref a_p0_ways) (C := RX12) (T := TX12) (N := 37) hx hb hts inX12_firstWays_X12 hown hK hP 0 rfl rfl 23 (by decide) (hts _ mwX12_firstWays_1) (fun _ h9 => h9) rfl dX12_firstWays_22 ?_
    refine lv_bipush (v := Int32.ofInt (7 : Int)) hx hb dX12_firstWays_25 (by decide) ?_
    refine lv_aload_n hx hb dX12_firstWays_27 rfl (lv_at hl 0 rfl) ?_
    refine va_get (D := D) (ci := 12) (v := .ref a_p0_st) (C := RX12) (T := TX12) (N := 37) hx hb hts inX12_firstWays_X12 hown hK hP 0 rfl rfl 0 (by decide) (hts _ mwX12_firstWays_2) (fun _ h9 => h9) rfl dX12_firstWays_28 ?_
    refine lv_bipush (v := Int32.ofInt (7 : Int)) hx hb dX12_firstWays_31 (by decide) ?_
    have hc := ck_c hf
    replace hf := ck_r hf
    refine va_iald hx hb hK hP 1 1 rfl rfl (z_ix_in hc) dX12_firstWays_33 (z_ci (z_ald v_p0_st hc) ?_)
    clear hc
    refine lv_imul hx hb dX12_firstWays_34 (z_ci (Int32.ofInt_mul (7 : Int) (v_p0_st (7 : Int))) ?_)
    refine lv_aload_n hx hb dX12_firstWays_35 rfl (lv_at hl 0 rfl) ?_
    refine va_get (D := D) (ci := 12) (v := .ref a_p0_st) (C := RX12) (T := TX12) (N := 37) hx hb hts inX12_firstWays_X12 hown hK hP 0 rfl rfl 0 (by decide) (hts _ mwX12_firstWays_2) (fun _ h9 => h9) rfl dX12_firstWays_36 ?_
    refine lv_bipush (v := Int32.ofInt (8 : Int)) hx hb dX12_firstWays_39 (by decide) ?_
    have hc := ck_c hf
    replace hf := ck_r hf
    refine va_iald hx hb hK hP 1 1 rfl rfl (z_ix_in hc) dX12_firstWays_41 (z_ci (z_ald v_p0_st hc) ?_)
    clear hc
    refine lv_iadd hx hb dX12_firstWays_42 (z_ci (Int32.ofInt_add ((7 : Int) * (v_p0_st (7 : Int))) (v_p0_st (8 : Int))) ?_)
    refine lv_lconst (v := Int64.ofInt (1 : Int)) hx hb dX12_firstWays_43 (by decide) ?_
    have hc := ck_c hf
    replace hf := ck_r hf
    refine zs_last (wf := fun w4 => [(a_p0, .inr (12, [.ref a_p0_st, .ref a_p0_isKept, .int (Int32.ofInt i_p0_seats), .int (Int32.ofInt i_p0_stirs), .ref a_p0_brings, .ref a_p0_need, .ref a_p0_draft, .int (Int32.ofInt i_p0_dSeats), .int (Int32.ofInt i_p0_dStirs), .ref a_p0_dStir, .ref a_p0_dNeed, .int (Int32.ofInt i_p0_told), .int (Int32.ofInt i_p0_highest), .ref a_p0_tape, .int (Int32.ofInt i_p0_taped), .int (Int32.ofInt i_p0_pos), .int (Int32.ofInt i_p0_from), .int (Int32.ofInt i_p0_sort), .int (Int32.ofInt i_p0_value), .int (Int32.ofInt i_p0_fault), .int (Int32.ofInt i_p0_wrongAt), .ref a_p0_places, .ref a_p0_stirred, .ref a_p0_ways, .ref a_p0_waysThen, .ref a_p0_stays, .ref a_p0_fewest, .ref a_p0_bowls, .ref a_p0_has, .ref a_p0_goesOn, .ref a_p0_isThere, .ref a_p0_isThereThen, .ref a_p0_bestRow, .ref a_p0_lanes, .ref a_p0_sizes, .ref a_p0_cells, .int (Int32.ofInt i_p0_torn)])), (a_p0_st, .inl (G 1, 152, .inl (zA v_p0_st))), (a_p0_ways, .inl (G 2, 49, .inr (.inl (zL w4))))]) hx hb hK hP hD hS 2 2 rfl rfl hc dX12_firstWays_44 (fun _ => rfl) (fun w4 ez H locs hP hD hS => ?_)
    replace hf := bnd_s hf ez
    clear ez hc
    obtain rfl := ou1 hf
    rw [hQ]
    exact W.vret hx hb hr (fun t ht hW => ⟨⟨(), rfl, trivial, by rw [ht]; exact hP, va_K.moved hW.alike hK, hD⟩, hS.F ht⟩) hS.2.2 dX12_firstWays_45
  have hq := lq2_i hf
  clear hf
  obtain ⟨B7, eB7, NB7, hf⟩ := hq
  have hB7 : ∀ (n : Nat) (z5 : Int) (w6 : (Int → Int)) (ls : Array Slot) (H : Heap) (locs : List Loc), lv_has ls 2 [(1, .int (Int32.ofInt z5)), (0, .ref a_p0)] → va_P D vwCl [(a_p0, .inr (12, [.ref a_p0_st, .ref a_p0_isKept, .int (Int32.ofInt i_p0_seats), .int (Int32.ofInt i_p0_stirs), .ref a_p0_brings, .ref a_p0_need, .ref a_p0_draft, .int (Int32.ofInt i_p0_dSeats), .int (Int32.ofInt i_p0_dStirs), .ref a_p0_dStir, .ref a_p0_dNeed, .int (Int32.ofInt i_p0_told), .int (Int32.ofInt i_p0_highest), .ref a_p0_tape, .int (Int32.ofInt i_p0_taped), .int (Int32.ofInt i_p0_pos), .int (Int32.ofInt i_p0_from), .int (Int32.ofInt i_p0_sort), .int (Int32.ofInt i_p0_value), .int (Int32.ofInt i_p0_fault), .int (Int32.ofInt i_p0_wrongAt), .ref a_p0_places, .ref a_p0_stirred, .ref a_p0_ways, .ref a_p0_waysThen, .ref a_p0_stays, .ref a_p0_fewest, .ref a_p0_bowls, .ref a_p0_has, .ref a_p0_goesOn, .ref a_p0_isThere, .ref a_p0_isThereThen, .ref a_p0_bestRow, .ref a_p0_lanes, .ref a_p0_sizes, .ref a_p0_cells, .int (Int32.ofInt i_p0_torn)])), (a_p0_st, .inl (G 1, 152, .inl (zA v_p0_st))), (a_p0_ways, .inl (G 2, 49, .inr (.inl (zL w6))))] H → va_D A [(a_p0, .inr (12, [.ref a_p0_st, .ref a_p0_isKept, .int (Int32.ofInt i_p0_seats), .int (Int32.ofInt i_p0_stirs), .ref a_p0_brings, .ref a_p0_need, .ref a_p0_draft, .int (Int32.ofInt i_p0_dSeats), .int (Int32.ofInt i_p0_dStirs), .ref a_p0_dStir, .ref a_p0_dNeed, .int (Int32.ofInt i_p0_told), .int (Int32.ofInt i_p0_highest), .ref a_p0_tape, .int (Int32.ofInt i_p0_taped), .int (Int32.ofInt i_p0_pos), .int (Int32.ofInt i_p0_from), .int (Int32.ofInt i_p0_sort), .int (Int32.ofInt i_p0_value), .int (Int32.ofInt i_p0_fault), .int (Int32.ofInt i_p0_wrongAt), .ref a_p0_places, .ref a_p0_stirred, .ref a_p0_ways, .ref a_p0_waysThen, .ref a_p0_stays, .ref a_p0_fewest, .ref a_p0_bowls, .ref a_p0_has, .ref a_p0_goesOn, .ref a_p0_isThere, .ref a_p0_isThereThen, .ref a_p0_bestRow, .ref a_p0_lanes, .ref a_p0_sizes, .ref a_p0_cells, .int (Int32.ofInt i_p0_torn)])), (a_p0_st, .inl (G 1, 152, .inl (zA v_p0_st))), (a_p0_ways, .inl (G 2, 49, .inr (.inl (zL w6))))] → va_S A s.heap H locs → lq2 B7 n z5 w6 = some o_v_p0_ways → W p l e rm_X12_firstWays s m ([.ref a_p0] : List Value).toArray below meth c H locs 0 0 Q (F0 m 2 ls []) := by
    clear hf hl hP hD hS
    intro n
    induction n with
    | zero =>
      intro z5 w6 ls H locs hl hP hD hS hf
      exact (lq2_0 hf).elim
    | succ n ih2 =>
      intro z5 w6 ls H locs hl hP hD hS hf
      replace hf := lq2_s eB7 hf
      unfold B_X12_firstWays_2 at hf
      refine lv_iload_n hx hb dX12_firstWays_2 rfl (lv_at hl 0 rfl) ?_
      refine lv_bipush (v := Int32.ofInt (49 : Int)) hx hb dX12_firstWays_3 (by decide) ?_
      have hr7 := ck_c hf
      replace hf := ck_r hf
      refine lv_icmp_ge (tgt := 21) hx hb dX12_firstWays_5 (by decide) (fun cc => ?_) (fun cc => ?_)
      ·
        replace hf := ite_t ((z_le (by decide) hr7).mp cc) hf
        clear cc
        exact hJ3 _ _ _ _ (lv_sub hl [1] rfl) hP hD hS hf
      ·
        replace hf := ite_f (fun h9 => cc ((z_le (by decide) hr7).mpr h9)) hf
        clear cc
        refine lv_aload_n hx hb dX12_firstWays_8 rfl (lv_at hl 1 rfl) ?_
        refine va_get (D := D) (ci := 12) (v := .ref a_p0_ways) (C := RX12) (T := TX12) (N := 37) hx hb hts inX12_firstWays_X12 hown hK hP 0 rfl rfl 23 (by decide) (hts _ mwX12_firstWays_1) (fun _ h9 => h9) rfl dX12_firstWays_9 ?_
        refine lv_iload_n hx hb dX12_firstWays_12 rfl (lv_at hl 0 rfl) ?_
        refine lv_lconst (v := Int64.ofInt (0 : Int)) hx hb dX12_firstWays_13 (by decide) ?_
        have hc := ck_c hf
        replace hf := ck_r hf
        refine zs_last (wf := fun w9 => [(a_p0, .inr (12, [.ref a_p0_st, .ref a_p0_isKept, .int (Int32.ofInt i_p0_seats), .int (Int32.ofInt i_p0_stirs), .ref a_p0_brings, .ref a_p0_need, .ref a_p0_draft, .int (Int32.ofInt i_p0_dSeats), .int (Int32.ofInt i_p0_dStirs), .ref a_p0_dStir, .ref a_p0_dNeed, .int (Int32.ofInt i_p0_told), .int (Int32.ofInt i_p0_highest), .ref a_p0_tape, .int (Int32.ofInt i_p0_taped), .int (Int32.ofInt i_p0_pos), .int (Int32.ofInt i_p0_from), .int (Int32.ofInt i_p0_sort), .int (Int32.ofInt i_p0_value), .int (Int32.ofInt i_p0_fault), .int (Int32.ofInt i_p0_wrongAt), .ref a_p0_places, .ref a_p0_stirred, .ref a_p0_ways, .ref a_p0_waysThen, .ref a_p0_stays, .ref a_p0_fewest, .ref a_p0_bowls, .ref a_p0_has, .ref a_p0_goesOn, .ref a_p0_isThere, .ref a_p0_isThereThen, .ref a_p0_bestRow, .ref a_p0_lanes, .ref a_p0_sizes, .ref a_p0_cells, .int (Int32.ofInt i_p0_torn)])), (a_p0_st, .inl (G 1, 152, .inl (zA v_p0_st))), (a_p0_ways, .inl (G 2, 49, .inr (.inl (zL w9))))]) hx hb hK hP hD hS 2 2 rfl rfl hc dX12_firstWays_14 (fun _ => rfl) (fun w9 ez H locs hP hD hS => ?_)
        replace hf := bnd_s hf ez
        clear ez hc
        obtain ⟨z10, ez⟩ : ∃ y : Int, y = (z5 + (1 : Int)) := ⟨_, rfl⟩
        replace hf := bnd_s hf ez
        refine lv_iinc (v := Int32.ofInt z10) (lv' := [(1, .int (Int32.ofInt z10)), (0, .ref a_p0)]) hx hb dX12_firstWays_15 hl (k := 0) rfl (by rw [ez]; exact (Int32.ofInt_add _ _).symm) (by decide) rfl (fun ls hl => ?_)
        clear ez
        refine lv_goto (tgt := 2) hx hb dX12_firstWays_18 (by decide) ?_
        exact ih2 _ _ _ _ _ (lv_sub hl [0, 1] rfl) hP hD hS hf
  exact hB7 _ _ _ _ _ _ (lv_sub hl [0, 1] rfl) hP hD hS hf
