noncomputable def B_X12_text_20 (z14 : Int32) (z12 : Int32) (J17 : Int32 → Option (Int32 × Int32 × Int32 × Int32 × Int32 × Int32 × Int32 × Int32 × Int32 × Int32 × Int32 × Int32 × Int32 × Int32 × (Nat → Int32) × (Nat → Int32) × (Nat → Int32) × (Nat → Int32) × (Nat → Int32))) (again20 : Int32 → Option (Int32 × Int32 × Int32 × Int32 × Int32 × Int32 × Int32 × Int32 × Int32 × Int32 × Int32 × Int32 × Int32 × Int32 × (Nat → Int32) × (Nat → Int32) × (Nat → Int32) × (Nat → Int32) × (Nat → Int32))) (z31 : Int32) : Option (Int32 × Int32 × Int32 × Int32 × Int32 × Int32 × Int32 × Int32 × Int32 × Int32 × Int32 × Int32 × Int32 × Int32 × (Nat → Int32) × (Nat → Int32) × (Nat → Int32) × (Nat → Int32) × (Nat → Int32)) := (if z14 = 0 then (if z12 = 0 then (J17 z31) else none) else (J17 z31))
noncomputable def f_X12_text (i_p0_seats : Int32) (i_p0_stirs : Int32) (i_p0_taped : Int32) (i_p0_from : Int32) (i_p0_sort : Int32) (i_p0_value : Int32) (i_p0_wrongAt : Int32) (v_p0_st : (Nat → Int32)) (v_p0_isKept : (Nat → Int32)) (v_p0_need : (Nat → Int32)) (v_p0_draft : (Nat → Int32)) (v_p0_dNeed : (Nat → Int32)) (v_p0_tape : (Nat → Int32)) : Option (Int32 × Int32 × Int32 × Int32 × Int32 × Int32 × Int32 × Int32 × Int32 × Int32 × Int32 × Int32 × Int32 × Int32 × (Nat → Int32) × (Nat → Int32) × (Nat → Int32) × (Nat → Int32) × (Nat → Int32)) := (bnd (0 : Int32) (fun (z1 : Int32) => (bnd (0 : Int32) (fun (z2 : Int32) => (bnd (0 : Int32) (fun (z3 : Int32) => (bd6 (f_X12_firstDraft v_p0_draft v_p0_dNeed) (fun (z4 : Int32) (z5 : Int32) (z6 : Int32) (z7 : Int32) (w8 : (Nat → Int32)) (w9 : (Nat → Int32)) => (bd6 (f_X12_nextToken i_p0_taped z3 i_p0_from i_p0_sort i_p0_value z2 i_p0_wrongAt v_p0_tape) (fun (z10 : Int32) (z11 : Int32) (z12 : Int32) (z13 : Int32) (z14 : Int32) (z15 : Int32) => (jn (fun (z16 : Int32) => (jn (fun (z18 : Int32) (z19 : Int32) => (bnd (0 : Int32) (fun (z21 : Int32) => (if z18 ≤ 0 then (bd5 (f_X12_keepDraft z4 z5 v_p0_st v_p0_isKept v_p0_need w8 w9) (fun (z22 : Int32) (z23 : Int32) (w24 : (Nat → Int32)) (w25 : (Nat → Int32)) (w26 : (Nat → Int32)) => (some (z16, z22, z23, z4, z5, z6, z7, z21, z10, z11, z12, z13, z18, z19, w24, w25, w26, w8, w9)))) else (some (((-10 : Int32) - z19), i_p0_seats, i_p0_stirs, z4, z5, z6, z7, z21, z10, z11, z12, z13, z18, z19, v_p0_st, v_p0_isKept, v_p0_need, w8, w9)))))) (fun (J20 : Int32 → Int32 → Option (Int32 × Int32 × Int32 × Int32 × Int32 × Int32 × Int32 × Int32 × Int32 × Int32 × Int32 × Int32 × Int32 × Int32 × (Nat → Int32) × (Nat → Int32) × (Nat → Int32) × (Nat → Int32) × (Nat → Int32))) => (if z14 = 0 then (if z4 ≤ z7 then (bd2 (f_X12_needs z11 z14 z15 (0 : Int32) (6 : Int32)) (fun (z27 : Int32) (z28 : Int32) => (J20 z27 z28))) else (bd2 (f_X12_needs z11 z14 z15 (1 : Int32) (6 : Int32)) (fun (z29 : Int32) (z30 : Int32) => (J20 z29 z30)))) else (J20 z14 z15))))) (fun (J17 : Int32 → Option (Int32 × Int32 × Int32 × Int32 × Int32 × Int32 × Int32 × Int32 × Int32 × Int32 × Int32 × Int32 × Int32 × Int32 × (Nat → Int32) × (Nat → Int32) × (Nat → Int32) × (Nat → Int32) × (Nat → Int32))) => (lq1 (B_X12_text_20 z14 z12 J17) 1000 z1)))))))))))))
abbrev rm_X12_text : Room := { frames := 2, cells := 0, slots := 0, locals := 46 }
theorem inX12_text_X12 : ∀ w ∈ wsX120, w ∈ wsX12_text := by decide +kernel
theorem mwX12_text_1 : Cond.fieldLink RX12 119 "LadleKingsModel" "fault" "I" ∈ wsX12_text := by decide +kernel
theorem mwX12_text_2 : Cond.fieldLink RX12 128 "LadleKingsModel" "pos" "I" ∈ wsX12_text := by decide +kernel
theorem mwX12_text_3 : Cond.fieldLink RX12 110 "LadleKingsModel" "taped" "I" ∈ wsX12_text := by decide +kernel
theorem mwX12_text_4 : Cond.fieldLink RX12 125 "LadleKingsModel" "wrongAt" "I" ∈ wsX12_text := by decide +kernel
theorem mwX12_text_5 : Cond.fieldLink RX12 97 "LadleKingsModel" "highest" "I" ∈ wsX12_text := by decide +kernel
theorem mwX12_text_6 : Cond.fieldLink RX12 87 "LadleKingsModel" "dSeats" "I" ∈ wsX12_text := by decide +kernel
theorem mwX12_text_7 : Cond.fieldLink RX12 147 "LadleKingsModel" "sort" "I" ∈ wsX12_text := by decide +kernel
set_option maxHeartbeats 8000000 in
set_option maxRecDepth 100000 in
theorem c_X12_text (l : Launch) (D : va_G) (G : Nat → ClassId) (sz : Nat) (a_p0 : Nat) (a_p0_st : Nat) (a_p0_isKept : Nat) (a_p0_brings : Nat) (a_p0_need : Nat) (a_p0_draft : Nat) (a_p0_dStir : Nat) (a_p0_dNeed : Nat) (a_p0_tape : Nat) (a_p0_places : Nat) (a_p0_stirred : Nat) (a_p0_ways : Nat) (a_p0_waysThen : Nat) (a_p0_stays : Nat) (a_p0_fewest : Nat) (a_p0_bowls : Nat) (a_p0_has : Nat) (a_p0_goesOn : Nat) (a_p0_isThere : Nat) (a_p0_isThereThen : Nat) (a_p0_bestRow : Nat) (a_p0_lanes : Nat) (a_p0_sizes : Nat) (a_p0_cells : Nat) (i_p0_seats : Int32) (i_p0_stirs : Int32) (i_p0_dSeats : Int32) (i_p0_dStirs : Int32) (i_p0_told : Int32) (i_p0_highest : Int32) (i_p0_taped : Int32) (i_p0_pos : Int32) (i_p0_from : Int32) (i_p0_sort : Int32) (i_p0_value : Int32) (i_p0_fault : Int32) (i_p0_wrongAt : Int32) (i_p0_torn : Int32) (v_p0_st : (Nat → Int32)) (v_p0_isKept : (Nat → Int32)) (v_p0_need : (Nat → Int32)) (v_p0_draft : (Nat → Int32)) (v_p0_dNeed : (Nat → Int32)) (v_p0_tape : (Nat → Int32)) (r : Int32) (o_i_p0_seats : Int32) (o_i_p0_stirs : Int32) (o_i_p0_dSeats : Int32) (o_i_p0_dStirs : Int32) (o_i_p0_told : Int32) (o_i_p0_highest : Int32) (o_i_p0_taped : Int32) (o_i_p0_pos : Int32) (o_i_p0_from : Int32) (o_i_p0_sort : Int32) (o_i_p0_value : Int32) (o_i_p0_fault : Int32) (o_i_p0_wrongAt : Int32) (o_v_p0_st : (Nat → Int32)) (o_v_p0_isKept : (Nat → Int32)) (o_v_p0_need : (Nat → Int32)) (o_v_p0_draft : (Nat → Int32)) (o_v_p0_dNeed : (Nat → Int32)) (hf : f_X12_text i_p0_seats i_p0_stirs i_p0_taped i_p0_from i_p0_sort i_p0_value i_p0_wrongAt v_p0_st v_p0_isKept v_p0_need v_p0_draft v_p0_dNeed v_p0_tape = some (r, o_i_p0_seats, o_i_p0_stirs, o_i_p0_dSeats, o_i_p0_dStirs, o_i_p0_told, o_i_p0_highest, o_i_p0_taped, o_i_p0_pos, o_i_p0_from, o_i_p0_sort, o_i_p0_value, o_i_p0_fault, o_i_p0_wrongAt, o_v_p0_st, o_v_p0_isKept, o_v_p0_need, o_v_p0_draft, o_v_p0_dNeed)) : Met l yX12_text wsX12_text rm_X12_text (pcG D G [.ref a_p0] sz [(a_p0, .inr (12, [.ref a_p0_st, .ref a_p0_isKept, .int i_p0_seats, .int i_p0_stirs, .ref a_p0_brings, .ref a_p0_need, .ref a_p0_draft, .int i_p0_dSeats, .int i_p0_dStirs, .ref a_p0_dStir, .ref a_p0_dNeed, .int i_p0_told, .int i_p0_highest, .ref a_p0_tape, .int i_p0_taped, .int i_p0_pos, .int i_p0_from, .int i_p0_sort, .int i_p0_value, .int i_p0_fault, .int i_p0_wrongAt, .ref a_p0_places, .ref a_p0_stirred, .ref a_p0_ways, .ref a_p0_waysThen, .ref a_p0_stays, .ref a_p0_fewest, .ref a_p0_bowls, .ref a_p0_has, .ref a_p0_goesOn, .ref a_p0_isThere, .ref a_p0_isThereThen, .ref a_p0_bestRow, .ref a_p0_lanes, .ref a_p0_sizes, .ref a_p0_cells, .int i_p0_torn])), (a_p0_st, .inl (G 1, 152, .inl v_p0_st)), (a_p0_isKept, .inl (G 3, 2, .inl v_p0_isKept)), (a_p0_need, .inl (G 1, 7, .inl v_p0_need)), (a_p0_draft, .inl (G 1, 38, .inl v_p0_draft)), (a_p0_dNeed, .inl (G 1, 7, .inl v_p0_dNeed)), (a_p0_tape, .inl (G 1, 320, .inl v_p0_tape))]) (qcI D G r [(a_p0, .inr (12, [.ref a_p0_st, .ref a_p0_isKept, .int o_i_p0_seats, .int o_i_p0_stirs, .ref a_p0_brings, .ref a_p0_need, .ref a_p0_draft, .int o_i_p0_dSeats, .int o_i_p0_dStirs, .ref a_p0_dStir, .ref a_p0_dNeed, .int o_i_p0_told, .int o_i_p0_highest, .ref a_p0_tape, .int o_i_p0_taped, .int o_i_p0_pos, .int o_i_p0_from, .int o_i_p0_sort, .int o_i_p0_value, .int o_i_p0_fault, .int o_i_p0_wrongAt, .ref a_p0_places, .ref a_p0_stirred, .ref a_p0_ways, .ref a_p0_waysThen, .ref a_p0_stays, .ref a_p0_fewest, .ref a_p0_bowls, .ref a_p0_has, .ref a_p0_goesOn, .ref a_p0_isThere, .ref a_p0_isThereThen, .ref a_p0_bestRow, .ref a_p0_lanes, .ref a_p0_sizes, .ref a_p0_cells, .int i_p0_torn])), (a_p0_st, .inl (G 1, 152, .inl o_v_p0_st)), (a_p0_isKept, .inl (G 3, 2, .inl o_v_p0_isKept)), (a_p0_need, .inl (G 1, 7, .inl o_v_p0_need)), (a_p0_draft, .inl (G 1, 38, .inl o_v_p0_draft)), (a_p0_dNeed, .inl (G 1, 7, .inl o_v_p0_dNeed)), (a_p0_tape, .inl (G 1, 320, .inl v_p0_tape))] (va_A [(a_p0, .inr (12, [.ref a_p0_st, .ref a_p0_isKept, .int i_p0_seats, .int i_p0_stirs, .ref a_p0_brings, .ref a_p0_need, .ref a_p0_draft, .int i_p0_dSeats, .int i_p0_dStirs, .ref a_p0_dStir, .ref a_p0_dNeed, .int i_p0_told, .int i_p0_highest, .ref a_p0_tape, .int i_p0_taped, .int i_p0_pos, .int i_p0_from, .int i_p0_sort, .int i_p0_value, .int i_p0_fault, .int i_p0_wrongAt, .ref a_p0_places, .ref a_p0_stirred, .ref a_p0_ways, .ref a_p0_waysThen, .ref a_p0_stays, .ref a_p0_fewest, .ref a_p0_bowls, .ref a_p0_has, .ref a_p0_goesOn, .ref a_p0_isThere, .ref a_p0_isThereThen, .ref a_p0_bestRow, .ref a_p0_lanes, .ref a_p0_sizes, .ref a_p0_cells, .int i_p0_torn])), (a_p0_st, .inl (G 1, 152, .inl v_p0_st)), (a_p0_isKept, .inl (G 3, 2, .inl v_p0_isKept)), (a_p0_need, .inl (G 1, 7, .inl v_p0_need)), (a_p0_draft, .inl (G 1, 38, .inl v_p0_draft)), (a_p0_dNeed, .inl (G 1, 7, .inl v_p0_dNeed)), (a_p0_tape, .inl (G 1, 320, .inl v_p0_tape))] sz)) 0 0 (va_A [(a_p0, .inr (12, [.ref a_p0_st, .ref a_p0_isKept, .int i_p0_seats, .int i_p0_stirs, .ref a_p0_brings, .ref a_p0_need, .ref a_p0_draft, .int i_p0_dSeats, .int i_p0_dStirs, .ref a_p0_dStir, .ref a_p0_dNeed, .int i_p0_told, .int i_p0_highest, .ref a_p0_tape, .int i_p0_taped, .int i_p0_pos, .int i_p0_from, .int i_p0_sort, .int i_p0_value, .int i_p0_fault, .int i_p0_wrongAt, .ref a_p0_places, .ref a_p0_stirred, .ref a_p0_ways, .ref a_p0_waysThen, .ref a_p0_stays, .ref a_p0_fewest, .ref a_p0_bowls, .ref a_p0_has, .ref a_p0_goesOn, .ref a_p0_isThere, .ref a_p0_isThereThen, .ref a_p0_bestRow, .ref a_p0_lanes, .ref a_p0_sizes, .ref a_p0_cells, .int i_p0_torn])), (a_p0_st, .inl (G 1, 152, .inl v_p0_st)), (a_p0_isKept, .inl (G 3, 2, .inl v_p0_isKept)), (a_p0_need, .inl (G 1, 7, .inl v_p0_need)), (a_p0_draft, .inl (G 1, 38, .inl v_p0_draft)), (a_p0_dNeed, .inl (G 1, 7, .inl v_p0_dNeed)), (a_p0_tape, .inl (G 1, 320, .inl v_p0_tape))] sz) := by
  refine Met.ofW (cc := cX12_text) (maxL := 2) (ret := (some .int)) (by decide) rfl ?_
  intro p e s m args below meth c s₁ B hml hv
  obtain ⟨rfl, hsz, hP, hK, hD0⟩ := hv
  have hx := B.exec
  have hb := B.bytes
  have hr := B.returns
  have hts := atoms_spec (ws := wsX12_text) B.pre
  have hown : s.vm.findClass RX12 = some m.cls := findClass_of_methodNamed B.named
  have hlocks := B.notSynchronized
  subst hsz
  have hD := hD0.self (sz := s.heap.size)
  generalize hAe : va_A [(a_p0, .inr (12, [.ref a_p0_st, .ref a_p0_isKept, .int i_p0_seats, .int i_p0_stirs, .ref a_p0_brings, .ref a_p0_need, .ref a_p0_draft, .int i_p0_dSeats, .int i_p0_dStirs, .ref a_p0_dStir, .ref a_p0_dNeed, .int i_p0_told, .int i_p0_highest, .ref a_p0_tape, .int i_p0_taped, .int i_p0_pos, .int i_p0_from, .int i_p0_sort, .int i_p0_value, .int i_p0_fault, .int i_p0_wrongAt, .ref a_p0_places, .ref a_p0_stirred, .ref a_p0_ways, .ref a_p0_waysThen, .ref a_p0_stays, .ref a_p0_fewest, .ref a_p0_bowls, .ref a_p0_has, .ref a_p0_goesOn, .ref a_p0_isThere, .ref a_p0_isThereThen, .ref a_p0_bestRow, .ref a_p0_lanes, .ref a_p0_sizes, .ref a_p0_cells, .int i_p0_torn])), (a_p0_st, .inl (G 1, 152, .inl v_p0_st)), (a_p0_isKept, .inl (G 3, 2, .inl v_p0_isKept)), (a_p0_need, .inl (G 1, 7, .inl v_p0_need)), (a_p0_draft, .inl (G 1, 38, .inl v_p0_draft)), (a_p0_dNeed, .inl (G 1, 7, .inl v_p0_dNeed)), (a_p0_tape, .inl (G 1, 320, .inl v_p0_tape))] s.heap.size = A at hD ⊢
  have hA : ∀ q : Nat, s.heap.size ≤ q → A q := fun q h => by rw [← hAe]; exact Or.inr h
  clear hAe hD0
  have hS : va_S A s.heap s.heap [] := va_S.rf
  have hl := lv_entry ([.ref a_p0]) (n := 2) (Nat.le_of_ble_eq_true rfl)
  rw [lg_entry_eq]
  generalize (lg_sl ([.ref a_p0]) ++ List.replicate (2 - (lg_sl ([.ref a_p0])).length) Slot.unset).toArray = ls at hl ⊢
  have hl : lv_has ls 2 [(0, .ref a_p0)] := hl
  refine W_nameQ (fun Q hQ => ?_)
  obtain ⟨H, hH⟩ : ∃ H, H = s.heap := ⟨_, rfl⟩
  replace hS : va_S A s.heap H [] := by rw [hH]; exact hS
  replace hP : va_P D vwCl [(a_p0, .inr (12, [.ref a_p0_st, .ref a_p0_isKept, .int i_p0_seats, .int i_p0_stirs, .ref a_p0_brings, .ref a_p0_need, .ref a_p0_draft, .int i_p0_dSeats, .int i_p0_dStirs, .ref a_p0_dStir, .ref a_p0_dNeed, .int i_p0_told, .int i_p0_highest, .ref a_p0_tape, .int i_p0_taped, .int i_p0_pos, .int i_p0_from, .int i_p0_sort, .int i_p0_value, .int i_p0_fault, .int i_p0_wrongAt, .ref a_p0_places, .ref a_p0_stirred, .ref a_p0_ways, .ref a_p0_waysThen, .ref a_p0_stays, .ref a_p0_fewest, .ref a_p0_bowls, .ref a_p0_has, .ref a_p0_goesOn, .ref a_p0_isThere, .ref a_p0_isThereThen, .ref a_p0_bestRow, .ref a_p0_lanes, .ref a_p0_sizes, .ref a_p0_cells, .int i_p0_torn])), (a_p0_st, .inl (G 1, 152, .inl v_p0_st)), (a_p0_isKept, .inl (G 3, 2, .inl v_p0_isKept)), (a_p0_need, .inl (G 1, 7, .inl v_p0_need)), (a_p0_draft, .inl (G 1, 38, .inl v_p0_draft)), (a_p0_dNeed, .inl (G 1, 7, .inl v_p0_dNeed)), (a_p0_tape, .inl (G 1, 320, .inl v_p0_tape))] H := by rw [hH]; exact hP
  rw [← hH]
  clear hH
  unfold f_X12_text at hf
  refine lv_iconst (v := (0 : Int32)) hx hb dX12_text_0 (by decide) ?_
  refine lv_topi (fun z1 ez => ?_)
  replace hf := bnd_s hf ez
  clear ez
  refine lv_istore_n (lv' := [(1, .int z1), (0, .ref a_p0)]) hx hb dX12_text_1 rfl hl (by decide) rfl (fun ls hl => ?_)
  refine lv_aload_n hx hb dX12_text_2 rfl (lv_at hl 1 rfl) ?_
  refine lv_iconst (v := (0 : Int32)) hx hb dX12_text_3 (by decide) ?_
  refine lv_topi (fun z2 ez => ?_)
  replace hf := bnd_s hf ez
  clear ez
  refine va_put (D := D) (ci := 12) (v := .int z2) (ty := .int) (C := RX12) (T := TX12) (N := 37) hx hb hts inX12_text_X12 tyX12 tyX12_ok nmX12 hown hK hP hD hS 0 rfl rfl 19 (by decide) (hts _ mwX12_text_1) (fun _ h9 => h9) rfl (by decide +kernel) rfl rfl (Nat.le_of_ble_eq_true rfl) dX12_text_4 (fun H locs hP hD hS => ?_)
  have hP : va_P D vwCl [(a_p0, .inr (12, [.ref a_p0_st, .ref a_p0_isKept, .int i_p0_seats, .int i_p0_stirs, .ref a_p0_brings, .ref a_p0_need, .ref a_p0_draft, .int i_p0_dSeats, .int i_p0_dStirs, .ref a_p0_dStir, .ref a_p0_dNeed, .int i_p0_told, .int i_p0_highest, .ref a_p0_tape, .int i_p0_taped, .int i_p0_pos, .int i_p0_from, .int i_p0_sort, .int i_p0_value, .int z2, .int i_p0_wrongAt, .ref a_p0_places, .ref a_p0_stirred, .ref a_p0_ways, .ref a_p0_waysThen, .ref a_p0_stays, .ref a_p0_fewest, .ref a_p0_bowls, .ref a_p0_has, .ref a_p0_goesOn, .ref a_p0_isThere, .ref a_p0_isThereThen, .ref a_p0_bestRow, .ref a_p0_lanes, .ref a_p0_sizes, .ref a_p0_cells, .int i_p0_torn])), (a_p0_st, .inl (G 1, 152, .inl v_p0_st)), (a_p0_isKept, .inl (G 3, 2, .inl v_p0_isKept)), (a_p0_need, .inl (G 1, 7, .inl v_p0_need)), (a_p0_draft, .inl (G 1, 38, .inl v_p0_draft)), (a_p0_dNeed, .inl (G 1, 7, .inl v_p0_dNeed)), (a_p0_tape, .inl (G 1, 320, .inl v_p0_tape))] H := hP
  have hD : va_D A [(a_p0, .inr (12, [.ref a_p0_st, .ref a_p0_isKept, .int i_p0_seats, .int i_p0_stirs, .ref a_p0_brings, .ref a_p0_need, .ref a_p0_draft, .int i_p0_dSeats, .int i_p0_dStirs, .ref a_p0_dStir, .ref a_p0_dNeed, .int i_p0_told, .int i_p0_highest, .ref a_p0_tape, .int i_p0_taped, .int i_p0_pos, .int i_p0_from, .int i_p0_sort, .int i_p0_value, .int z2, .int i_p0_wrongAt, .ref a_p0_places, .ref a_p0_stirred, .ref a_p0_ways, .ref a_p0_waysThen, .ref a_p0_stays, .ref a_p0_fewest, .ref a_p0_bowls, .ref a_p0_has, .ref a_p0_goesOn, .ref a_p0_isThere, .ref a_p0_isThereThen, .ref a_p0_bestRow, .ref a_p0_lanes, .ref a_p0_sizes, .ref a_p0_cells, .int i_p0_torn])), (a_p0_st, .inl (G 1, 152, .inl v_p0_st)), (a_p0_isKept, .inl (G 3, 2, .inl v_p0_isKept)), (a_p0_need, .inl (G 1, 7, .inl v_p0_need)), (a_p0_draft, .inl (G 1, 38, .inl v_p0_draft)), (a_p0_dNeed, .inl (G 1, 7, .inl v_p0_dNeed)), (a_p0_tape, .inl (G 1, 320, .inl v_p0_tape))] := hD
  refine lv_aload_n hx hb dX12_text_7 rfl (lv_at hl 1 rfl) ?_
  refine lv_iconst (v := (0 : Int32)) hx hb dX12_text_8 (by decide) ?_
  refine lv_topi (fun z3 ez => ?_)
  replace hf := bnd_s hf ez
  clear ez
  refine va_put (D := D) (ci := 12) (v := .int z3) (ty := .int) (C := RX12) (T := TX12) (N := 37) hx hb hts inX12_text_X12 tyX12 tyX12_ok nmX12 hown hK hP hD hS 0 rfl rfl 15 (by decide) (hts _ mwX12_text_2) (fun _ h9 => h9) rfl (by decide +kernel) rfl rfl (Nat.le_of_ble_eq_true rfl) dX12_text_9 (fun H locs hP hD hS => ?_)
  have hP : va_P D vwCl [(a_p0, .inr (12, [.ref a_p0_st, .ref a_p0_isKept, .int i_p0_seats, .int i_p0_stirs, .ref a_p0_brings, .ref a_p0_need, .ref a_p0_draft, .int i_p0_dSeats, .int i_p0_dStirs, .ref a_p0_dStir, .ref a_p0_dNeed, .int i_p0_told, .int i_p0_highest, .ref a_p0_tape, .int i_p0_taped, .int z3, .int i_p0_from, .int i_p0_sort, .int i_p0_value, .int z2, .int i_p0_wrongAt, .ref a_p0_places, .ref a_p0_stirred, .ref a_p0_ways, .ref a_p0_waysThen, .ref a_p0_stays, .ref a_p0_fewest, .ref a_p0_bowls, .ref a_p0_has, .ref a_p0_goesOn, .ref a_p0_isThere, .ref a_p0_isThereThen, .ref a_p0_bestRow, .ref a_p0_lanes, .ref a_p0_sizes, .ref a_p0_cells, .int i_p0_torn])), (a_p0_st, .inl (G 1, 152, .inl v_p0_st)), (a_p0_isKept, .inl (G 3, 2, .inl v_p0_isKept)), (a_p0_need, .inl (G 1, 7, .inl v_p0_need)), (a_p0_draft, .inl (G 1, 38, .inl v_p0_draft)), (a_p0_dNeed, .inl (G 1, 7, .inl v_p0_dNeed)), (a_p0_tape, .inl (G 1, 320, .inl v_p0_tape))] H := hP
  have hD : va_D A [(a_p0, .inr (12, [.ref a_p0_st, .ref a_p0_isKept, .int i_p0_seats, .int i_p0_stirs, .ref a_p0_brings, .ref a_p0_need, .ref a_p0_draft, .int i_p0_dSeats, .int i_p0_dStirs, .ref a_p0_dStir, .ref a_p0_dNeed, .int i_p0_told, .int i_p0_highest, .ref a_p0_tape, .int i_p0_taped, .int z3, .int i_p0_from, .int i_p0_sort, .int i_p0_value, .int z2, .int i_p0_wrongAt, .ref a_p0_places, .ref a_p0_stirred, .ref a_p0_ways, .ref a_p0_waysThen, .ref a_p0_stays, .ref a_p0_fewest, .ref a_p0_bowls, .ref a_p0_has, .ref a_p0_goesOn, .ref a_p0_isThere, .ref a_p0_isThereThen, .ref a_p0_bestRow, .ref a_p0_lanes, .ref a_p0_sizes, .ref a_p0_cells, .int i_p0_torn])), (a_p0_st, .inl (G 1, 152, .inl v_p0_st)), (a_p0_isKept, .inl (G 3, 2, .inl v_p0_isKept)), (a_p0_need, .inl (G 1, 7, .inl v_p0_need)), (a_p0_draft, .inl (G 1, 38, .inl v_p0_draft)), (a_p0_dNeed, .inl (G 1, 7, .inl v_p0_dNeed)), (a_p0_tape, .inl (G 1, 320, .inl v_p0_tape))] := hD
  refine lv_aload_n hx hb dX12_text_12 rfl (lv_at hl 1 rfl) ?_
  have hq := bd6_s hf
  clear hf
  obtain ⟨z4, z5, z6, z7, w8, w9, hcall, hf⟩ := hq
  refine gcV (ws' := [(a_p0, .inr (12, [.ref a_p0_st, .ref a_p0_isKept, .int i_p0_seats, .int i_p0_stirs, .ref a_p0_brings, .ref a_p0_need, .ref a_p0_draft, .int z4, .int z5, .ref a_p0_dStir, .ref a_p0_dNeed, .int z6, .int z7, .ref a_p0_tape, .int i_p0_taped, .int z3, .int i_p0_from, .int i_p0_sort, .int i_p0_value, .int z2, .int i_p0_wrongAt, .ref a_p0_places, .ref a_p0_stirred, .ref a_p0_ways, .ref a_p0_waysThen, .ref a_p0_stays, .ref a_p0_fewest, .ref a_p0_bowls, .ref a_p0_has, .ref a_p0_goesOn, .ref a_p0_isThere, .ref a_p0_isThereThen, .ref a_p0_bestRow, .ref a_p0_lanes, .ref a_p0_sizes, .ref a_p0_cells, .int i_p0_torn])), (a_p0_st, .inl (G 1, 152, .inl v_p0_st)), (a_p0_isKept, .inl (G 3, 2, .inl v_p0_isKept)), (a_p0_need, .inl (G 1, 7, .inl v_p0_need)), (a_p0_draft, .inl (G 1, 38, .inl w8)), (a_p0_dNeed, .inl (G 1, 7, .inl w9)), (a_p0_tape, .inl (G 1, 320, .inl v_p0_tape))]) (va_runV (As := []) (rest := []) ⟨hx, hb, hml, hown, hts⟩ (c_X12_firstDraft (l := l) (D := D) (G := G) (sz := H.size) (a_p0 := a_p0) (a_p0_st := a_p0_st) (a_p0_isKept := a_p0_isKept) (a_p0_brings := a_p0_brings) (a_p0_need := a_p0_need) (a_p0_draft := a_p0_draft) (a_p0_dStir := a_p0_dStir) (a_p0_dNeed := a_p0_dNeed) (a_p0_tape := a_p0_tape) (a_p0_places := a_p0_places) (a_p0_stirred := a_p0_stirred) (a_p0_ways := a_p0_ways) (a_p0_waysThen := a_p0_waysThen) (a_p0_stays := a_p0_stays) (a_p0_fewest := a_p0_fewest) (a_p0_bowls := a_p0_bowls) (a_p0_has := a_p0_has) (a_p0_goesOn := a_p0_goesOn) (a_p0_isThere := a_p0_isThere) (a_p0_isThereThen := a_p0_isThereThen) (a_p0_bestRow := a_p0_bestRow) (a_p0_lanes := a_p0_lanes) (a_p0_sizes := a_p0_sizes) (a_p0_cells := a_p0_cells) (i_p0_seats := i_p0_seats) (i_p0_stirs := i_p0_stirs) (i_p0_dSeats := i_p0_dSeats) (i_p0_dStirs := i_p0_dStirs) (i_p0_told := i_p0_told) (i_p0_highest := i_p0_highest) (i_p0_taped := i_p0_taped) (i_p0_pos := z3) (i_p0_from := i_p0_from) (i_p0_sort := i_p0_sort) (i_p0_value := i_p0_value) (i_p0_fault := z2) (i_p0_wrongAt := i_p0_wrongAt) (i_p0_torn := i_p0_torn) (v_p0_draft := v_p0_draft) (v_p0_dNeed := v_p0_dNeed) (o_i_p0_dSeats := z4) (o_i_p0_dStirs := z5) (o_i_p0_told := z6) (o_i_p0_highest := z7) (o_v_p0_draft := w8) (o_v_p0_dNeed := w9) (hf := hcall)) (cwV 0 hts gX12_text_X12_firstDraft rfl rfl rfl (by decide +kernel) ⟨Nat.le_of_ble_eq_true rfl, Nat.le_of_ble_eq_true rfl⟩) (preG_V (ci := 12) (hP.sub [0, 4, 5] rfl) (hD.sub [0, 4, 5] rfl rfl) hK rfl rfl) rfl rfl hl.1 rfl (lv_room (Nat.le_of_ble_eq_true rfl)) dX12_text_13 ⟨Nat.le_of_ble_eq_true rfl, Nat.le_of_ble_eq_true rfl⟩) hP hD hS hA [0, 4, 5] [1, 2, 3, 6] [4, 0, 1, 2, 5, 6, 3] rfl rfl rfl (by decide) rfl rfl rfl (fun H locs hP hD hS => ?_)
  clear hcall
  refine lv_aload_n hx hb dX12_text_16 rfl (lv_at hl 1 rfl) ?_
  have hq := bd6_s hf
  clear hf
  obtain ⟨z10, z11, z12, z13, z14, z15, hcall, hf⟩ := hq
  refine gcV (ws' := [(a_p0, .inr (12, [.ref a_p0_st, .ref a_p0_isKept, .int i_p0_seats, .int i_p0_stirs, .ref a_p0_brings, .ref a_p0_need, .ref a_p0_draft, .int z4, .int z5, .ref a_p0_dStir, .ref a_p0_dNeed, .int z6, .int z7, .ref a_p0_tape, .int i_p0_taped, .int z10, .int z11, .int z12, .int z13, .int z14, .int z15, .ref a_p0_places, .ref a_p0_stirred, .ref a_p0_ways, .ref a_p0_waysThen, .ref a_p0_stays, .ref a_p0_fewest, .ref a_p0_bowls, .ref a_p0_has, .ref a_p0_goesOn, .ref a_p0_isThere, .ref a_p0_isThereThen, .ref a_p0_bestRow, .ref a_p0_lanes, .ref a_p0_sizes, .ref a_p0_cells, .int i_p0_torn])), (a_p0_st, .inl (G 1, 152, .inl v_p0_st)), (a_p0_isKept, .inl (G 3, 2, .inl v_p0_isKept)), (a_p0_need, .inl (G 1, 7, .inl v_p0_need)), (a_p0_draft, .inl (G 1, 38, .inl w8)), (a_p0_dNeed, .inl (G 1, 7, .inl w9)), (a_p0_tape, .inl (G 1, 320, .inl v_p0_tape))]) (va_runV (As := []) (rest := []) ⟨hx, hb, hml, hown, hts⟩ (c_X12_nextToken (l := l) (D := D) (G := G) (sz := H.size) (a_p0 := a_p0) (a_p0_st := a_p0_st) (a_p0_isKept := a_p0_isKept) (a_p0_brings := a_p0_brings) (a_p0_need := a_p0_need) (a_p0_draft := a_p0_draft) (a_p0_dStir := a_p0_dStir) (a_p0_dNeed := a_p0_dNeed) (a_p0_tape := a_p0_tape) (a_p0_places := a_p0_places) (a_p0_stirred := a_p0_stirred) (a_p0_ways := a_p0_ways) (a_p0_waysThen := a_p0_waysThen) (a_p0_stays := a_p0_stays) (a_p0_fewest := a_p0_fewest) (a_p0_bowls := a_p0_bowls) (a_p0_has := a_p0_has) (a_p0_goesOn := a_p0_goesOn) (a_p0_isThere := a_p0_isThere) (a_p0_isThereThen := a_p0_isThereThen) (a_p0_bestRow := a_p0_bestRow) (a_p0_lanes := a_p0_lanes) (a_p0_sizes := a_p0_sizes) (a_p0_cells := a_p0_cells) (i_p0_seats := i_p0_seats) (i_p0_stirs := i_p0_stirs) (i_p0_dSeats := z4) (i_p0_dStirs := z5) (i_p0_told := z6) (i_p0_highest := z7) (i_p0_taped := i_p0_taped) (i_p0_pos := z3) (i_p0_from := i_p0_from) (i_p0_sort := i_p0_sort) (i_p0_value := i_p0_value) (i_p0_fault := z2) (i_p0_wrongAt := i_p0_wrongAt) (i_p0_torn := i_p0_torn) (v_p0_tape := v_p0_tape) (o_i_p0_pos := z10) (o_i_p0_from := z11) (o_i_p0_sort := z12) (o_i_p0_value := z13) (o_i_p0_fault := z14) (o_i_p0_wrongAt := z15) (hf := hcall)) (cwV 0 hts gX12_text_X12_nextToken rfl rfl rfl (by decide +kernel) ⟨Nat.le_of_ble_eq_true rfl, Nat.le_of_ble_eq_true rfl⟩) (preG_V (ci := 12) (hP.sub [0, 6] rfl) (hD.sub [0, 6] rfl rfl) hK rfl rfl) rfl rfl hl.1 rfl (lv_room (Nat.le_of_ble_eq_true rfl)) dX12_text_17 ⟨Nat.le_of_ble_eq_true rfl, Nat.le_of_ble_eq_true rfl⟩) hP hD hS hA [0, 6] [1, 2, 3, 4, 5] [5, 0, 1, 2, 3, 4, 6] rfl rfl rfl (by decide) rfl rfl rfl (fun H locs hP hD hS => ?_)
  clear hcall
  have hq := jn_i hf
  clear hf
  obtain ⟨J17, eJ17, hf⟩ := hq
  have hJ17 : ∀ (z16 : Int32) (ls : Array Slot) (H : Heap) (locs : List Loc), lv_has ls 2 [(1, .int z16), (0, .ref a_p0)] → va_P D vwCl [(a_p0, .inr (12, [.ref a_p0_st, .ref a_p0_isKept, .int i_p0_seats, .int i_p0_stirs, .ref a_p0_brings, .ref a_p0_need, .ref a_p0_draft, .int z4, .int z5, .ref a_p0_dStir, .ref a_p0_dNeed, .int z6, .int z7, .ref a_p0_tape, .int i_p0_taped, .int z10, .int z11, .int z12, .int z13, .int z14, .int z15, .ref a_p0_places, .ref a_p0_stirred, .ref a_p0_ways, .ref a_p0_waysThen, .ref a_p0_stays, .ref a_p0_fewest, .ref a_p0_bowls, .ref a_p0_has, .ref a_p0_goesOn, .ref a_p0_isThere, .ref a_p0_isThereThen, .ref a_p0_bestRow, .ref a_p0_lanes, .ref a_p0_sizes, .ref a_p0_cells, .int i_p0_torn])), (a_p0_st, .inl (G 1, 152, .inl v_p0_st)), (a_p0_isKept, .inl (G 3, 2, .inl v_p0_isKept)), (a_p0_need, .inl (G 1, 7, .inl v_p0_need)), (a_p0_draft, .inl (G 1, 38, .inl w8)), (a_p0_dNeed, .inl (G 1, 7, .inl w9)), (a_p0_tape, .inl (G 1, 320, .inl v_p0_tape))] H → va_D A [(a_p0, .inr (12, [.ref a_p0_st, .ref a_p0_isKept, .int i_p0_seats, .int i_p0_stirs, .ref a_p0_brings, .ref a_p0_need, .ref a_p0_draft, .int z4, .int z5, .ref a_p0_dStir, .ref a_p0_dNeed, .int z6, .int z7, .ref a_p0_tape, .int i_p0_taped, .int z10, .int z11, .int z12, .int z13, .int z14, .int z15, .ref a_p0_places, .ref a_p0_stirred, .ref a_p0_ways, .ref a_p0_waysThen, .ref a_p0_stays, .ref a_p0_fewest, .ref a_p0_bowls, .ref a_p0_has, .ref a_p0_goesOn, .ref a_p0_isThere, .ref a_p0_isThereThen, .ref a_p0_bestRow, .ref a_p0_lanes, .ref a_p0_sizes, .ref a_p0_cells, .int i_p0_torn])), (a_p0_st, .inl (G 1, 152, .inl v_p0_st)), (a_p0_isKept, .inl (G 3, 2, .inl v_p0_isKept)), (a_p0_need, .inl (G 1, 7, .inl v_p0_need)), (a_p0_draft, .inl (G 1, 38, .inl w8)), (a_p0_dNeed, .inl (G 1, 7, .inl w9)), (a_p0_tape, .inl (G 1, 320, .inl v_p0_tape))] → va_S A s.heap H locs → J17 z16 = some (r, o_i_p0_seats, o_i_p0_stirs, o_i_p0_dSeats, o_i_p0_dStirs, o_i_p0_told, o_i_p0_highest, o_i_p0_taped, o_i_p0_pos, o_i_p0_from, o_i_p0_sort, o_i_p0_value, o_i_p0_fault, o_i_p0_wrongAt, o_v_p0_st, o_v_p0_isKept, o_v_p0_need, o_v_p0_draft, o_v_p0_dNeed) → W p l e rm_X12_text s m ([.ref a_p0] : List Value).toArray below meth c H locs 0 0 Q (F0 m 44 ls []) := by
    clear hf hl hP hD hS
    intro z16 ls H locs hl hP hD hS hf
    replace hf := jn1_s eJ17 hf
    refine lv_aload_n hx hb dX12_text_44 rfl (lv_at hl 1 rfl) ?_
    refine va_get (D := D) (ci := 12) (v := .int z14) (C := RX12) (T := TX12) (N := 37) hx hb hts inX12_text_X12 hown hK hP 0 rfl rfl 19 (by decide) (hts _ mwX12_text_1) (fun _ h9 => h9) rfl dX12_text_45 ?_
    have hq := jn_i hf
    clear hf
    obtain ⟨J20, eJ20, hf⟩ := hq
    have hJ20 : ∀ (z18 : Int32) (z19 : Int32) (ls : Array Slot) (H : Heap) (locs : List Loc), lv_has ls 2 [(1, .int z16), (0, .ref a_p0)] → va_P D vwCl [(a_p0, .inr (12, [.ref a_p0_st, .ref a_p0_isKept, .int i_p0_seats, .int i_p0_stirs, .ref a_p0_brings, .ref a_p0_need, .ref a_p0_draft, .int z4, .int z5, .ref a_p0_dStir, .ref a_p0_dNeed, .int z6, .int z7, .ref a_p0_tape, .int i_p0_taped, .int z10, .int z11, .int z12, .int z13, .int z18, .int z19, .ref a_p0_places, .ref a_p0_stirred, .ref a_p0_ways, .ref a_p0_waysThen, .ref a_p0_stays, .ref a_p0_fewest, .ref a_p0_bowls, .ref a_p0_has, .ref a_p0_goesOn, .ref a_p0_isThere, .ref a_p0_isThereThen, .ref a_p0_bestRow, .ref a_p0_lanes, .ref a_p0_sizes, .ref a_p0_cells, .int i_p0_torn])), (a_p0_st, .inl (G 1, 152, .inl v_p0_st)), (a_p0_isKept, .inl (G 3, 2, .inl v_p0_isKept)), (a_p0_need, .inl (G 1, 7, .inl v_p0_need)), (a_p0_draft, .inl (G 1, 38, .inl w8)), (a_p0_dNeed, .inl (G 1, 7, .inl w9)), (a_p0_tape, .inl (G 1, 320, .inl v_p0_tape))] H → va_D A [(a_p0, .inr (12, [.ref a_p0_st, .ref a_p0_isKept, .int i_p0_seats, .int i_p0_stirs, .ref a_p0_brings, .ref a_p0_need, .ref a_p0_draft, .int z4, .int z5, .ref a_p0_dStir, .ref a_p0_dNeed, .int z6, .int z7, .ref a_p0_tape, .int i_p0_taped, .int z10, .int z11, .int z12, .int z13, .int z18, .int z19, .ref a_p0_places, .ref a_p0_stirred, .ref a_p0_ways, .ref a_p0_waysThen, .ref a_p0_stays, .ref a_p0_fewest, .ref a_p0_bowls, .ref a_p0_has, .ref a_p0_goesOn, .ref a_p0_isThere, .ref a_p0_isThereThen, .ref a_p0_bestRow, .ref a_p0_lanes, .ref a_p0_sizes, .ref a_p0_cells, .int i_p0_torn])), (a_p0_st, .inl (G 1, 152, .inl v_p0_st)), (a_p0_isKept, .inl (G 3, 2, .inl v_p0_isKept)), (a_p0_need, .inl (G 1, 7, .inl v_p0_need)), (a_p0_draft, .inl (G 1, 38, .inl w8)), (a_p0_dNeed, .inl (G 1, 7, .inl w9)), (a_p0_tape, .inl (G 1, 320, .inl v_p0_tape))] → va_S A s.heap H locs → J20 z18 z19 = some (r, o_i_p0_seats, o_i_p0_stirs, o_i_p0_dSeats, o_i_p0_dStirs, o_i_p0_told, o_i_p0_highest, o_i_p0_taped, o_i_p0_pos, o_i_p0_from, o_i_p0_sort, o_i_p0_value, o_i_p0_fault, o_i_p0_wrongAt, o_v_p0_st, o_v_p0_isKept, o_v_p0_need, o_v_p0_draft, o_v_p0_dNeed) → W p l e rm_X12_text s m ([.ref a_p0] : List Value).toArray below meth c H locs 0 0 Q (F0 m 73 ls []) := by
      clear hf hl hP hD hS
      intro z18 z19 ls H locs hl hP hD hS hf
      replace hf := jn2_s eJ20 hf
      refine lv_aload_n hx hb dX12_text_73 rfl (lv_at hl 1 rfl) ?_
      refine lv_iconst (v := (0 : Int32)) hx hb dX12_text_74 (by decide) ?_
      refine lv_topi (fun z21 ez => ?_)
      replace hf := bnd_s hf ez
      clear ez
      refine va_put (D := D) (ci := 12) (v := .int z21) (ty := .int) (C := RX12) (T := TX12) (N := 37) hx hb hts inX12_text_X12 tyX12 tyX12_ok nmX12 hown hK hP hD hS 0 rfl rfl 14 (by decide) (hts _ mwX12_text_3) (fun _ h9 => h9) rfl (by decide +kernel) rfl rfl (Nat.le_of_ble_eq_true rfl) dX12_text_75 (fun H locs hP hD hS => ?_)
      have hP : va_P D vwCl [(a_p0, .inr (12, [.ref a_p0_st, .ref a_p0_isKept, .int i_p0_seats, .int i_p0_stirs, .ref a_p0_brings, .ref a_p0_need, .ref a_p0_draft, .int z4, .int z5, .ref a_p0_dStir, .ref a_p0_dNeed, .int z6, .int z7, .ref a_p0_tape, .int z21, .int z10, .int z11, .int z12, .int z13, .int z18, .int z19, .ref a_p0_places, .ref a_p0_stirred, .ref a_p0_ways, .ref a_p0_waysThen, .ref a_p0_stays, .ref a_p0_fewest, .ref a_p0_bowls, .ref a_p0_has, .ref a_p0_goesOn, .ref a_p0_isThere, .ref a_p0_isThereThen, .ref a_p0_bestRow, .ref a_p0_lanes, .ref a_p0_sizes, .ref a_p0_cells, .int i_p0_torn])), (a_p0_st, .inl (G 1, 152, .inl v_p0_st)), (a_p0_isKept, .inl (G 3, 2, .inl v_p0_isKept)), (a_p0_need, .inl (G 1, 7, .inl v_p0_need)), (a_p0_draft, .inl (G 1, 38, .inl w8)), (a_p0_dNeed, .inl (G 1, 7, .inl w9)), (a_p0_tape, .inl (G 1, 320, .inl v_p0_tape))] H := hP
      have hD : va_D A [(a_p0, .inr (12, [.ref a_p0_st, .ref a_p0_isKept, .int i_p0_seats, .int i_p0_stirs, .ref a_p0_brings, .ref a_p0_need, .ref a_p0_draft, .int z4, .int z5, .ref a_p0_dStir, .ref a_p0_dNeed, .int z6, .int z7, .ref a_p0_tape, .int z21, .int z10, .int z11, .int z12, .int z13, .int z18, .int z19, .ref a_p0_places, .ref a_p0_stirred, .ref a_p0_ways, .ref a_p0_waysThen, .ref a_p0_stays, .ref a_p0_fewest, .ref a_p0_bowls, .ref a_p0_has, .ref a_p0_goesOn, .ref a_p0_isThere, .ref a_p0_isThereThen, .ref a_p0_bestRow, .ref a_p0_lanes, .ref a_p0_sizes, .ref a_p0_cells, .int i_p0_torn])), (a_p0_st, .inl (G 1, 152, .inl v_p0_st)), (a_p0_isKept, .inl (G 3, 2, .inl v_p0_isKept)), (a_p0_need, .inl (G 1, 7, .inl v_p0_need)), (a_p0_draft, .inl (G 1, 38, .inl w8)), (a_p0_dNeed, .inl (G 1, 7, .inl w9)), (a_p0_tape, .inl (G 1, 320, .inl v_p0_tape))] := hD
      refine lv_aload_n hx hb dX12_text_78 rfl (lv_at hl 1 rfl) ?_
      refine va_get (D := D) (ci := 12) (v := .int z18) (C := RX12) (T := TX12) (N := 37) hx hb hts inX12_text_X12 hown hK hP 0 rfl rfl 19 (by decide) (hts _ mwX12_text_1) (fun _ h9 => h9) rfl dX12_text_79 ?_
      refine lv_if_le (tgt := 93) hx hb dX12_text_82 (by decide) (fun cc => ?_) (fun cc => ?_)
      ·
        replace hf := ite_t cc hf
        clear cc
        refine lv_aload_n hx hb dX12_text_93 rfl (lv_at hl 1 rfl) ?_
        have hq := bd5_s hf
        clear hf
        obtain ⟨z22, z23, w24, w25, w26, hcall, hf⟩ := hq
        refine gcV (ws' := [(a_p0, .inr (12, [.ref a_p0_st, .ref a_p0_isKept, .int z22, .int z23, .ref a_p0_brings, .ref a_p0_need, .ref a_p0_draft, .int z4, .int z5, .ref a_p0_dStir, .ref a_p0_dNeed, .int z6, .int z7, .ref a_p0_tape, .int z21, .int z10, .int z11, .int z12, .int z13, .int z18, .int z19, .ref a_p0_places, .ref a_p0_stirred, .ref a_p0_ways, .ref a_p0_waysThen, .ref a_p0_stays, .ref a_p0_fewest, .ref a_p0_bowls, .ref a_p0_has, .ref a_p0_goesOn, .ref a_p0_isThere, .ref a_p0_isThereThen, .ref a_p0_bestRow, .ref a_p0_lanes, .ref a_p0_sizes, .ref a_p0_cells, .int i_p0_torn])), (a_p0_st, .inl (G 1, 152, .inl w24)), (a_p0_isKept, .inl (G 3, 2, .inl w25)), (a_p0_need, .inl (G 1, 7, .inl w26)), (a_p0_draft, .inl (G 1, 38, .inl w8)), (a_p0_dNeed, .inl (G 1, 7, .inl w9)), (a_p0_tape, .inl (G 1, 320, .inl v_p0_tape))]) (va_runV (As := []) (rest := []) ⟨hx, hb, hml, hown, hts⟩ (c_X12_keepDraft (l := l) (D := D) (G := G) (sz := H.size) (a_p0 := a_p0) (a_p0_st := a_p0_st) (a_p0_isKept := a_p0_isKept) (a_p0_brings := a_p0_brings) (a_p0_need := a_p0_need) (a_p0_draft := a_p0_draft) (a_p0_dStir := a_p0_dStir) (a_p0_dNeed := a_p0_dNeed) (a_p0_tape := a_p0_tape) (a_p0_places := a_p0_places) (a_p0_stirred := a_p0_stirred) (a_p0_ways := a_p0_ways) (a_p0_waysThen := a_p0_waysThen) (a_p0_stays := a_p0_stays) (a_p0_fewest := a_p0_fewest) (a_p0_bowls := a_p0_bowls) (a_p0_has := a_p0_has) (a_p0_goesOn := a_p0_goesOn) (a_p0_isThere := a_p0_isThere) (a_p0_isThereThen := a_p0_isThereThen) (a_p0_bestRow := a_p0_bestRow) (a_p0_lanes := a_p0_lanes) (a_p0_sizes := a_p0_sizes) (a_p0_cells := a_p0_cells) (i_p0_seats := i_p0_seats) (i_p0_stirs := i_p0_stirs) (i_p0_dSeats := z4) (i_p0_dStirs := z5) (i_p0_told := z6) (i_p0_highest := z7) (i_p0_taped := z21) (i_p0_pos := z10) (i_p0_from := z11) (i_p0_sort := z12) (i_p0_value := z13) (i_p0_fault := z18) (i_p0_wrongAt := z19) (i_p0_torn := i_p0_torn) (v_p0_st := v_p0_st) (v_p0_isKept := v_p0_isKept) (v_p0_need := v_p0_need) (v_p0_draft := w8) (v_p0_dNeed := w9) (o_i_p0_seats := z22) (o_i_p0_stirs := z23) (o_v_p0_st := w24) (o_v_p0_isKept := w25) (o_v_p0_need := w26) (hf := hcall)) (cwV 0 hts gX12_text_X12_keepDraft rfl rfl rfl (by decide +kernel) ⟨Nat.le_of_ble_eq_true rfl, Nat.le_of_ble_eq_true rfl⟩) (preG_V (ci := 12) (hP.sub [0, 1, 2, 3, 4, 5] rfl) (hD.sub [0, 1, 2, 3, 4, 5] rfl rfl) hK rfl rfl) rfl rfl hl.1 rfl (lv_room (Nat.le_of_ble_eq_true rfl)) dX12_text_94 ⟨Nat.le_of_ble_eq_true rfl, Nat.le_of_ble_eq_true rfl⟩) hP hD hS hA [0, 1, 2, 3, 4, 5] [6] [1, 2, 3, 4, 5, 6, 0] rfl rfl rfl (by decide) rfl rfl rfl (fun H locs hP hD hS => ?_)
        clear hcall
        refine lv_iload_n hx hb dX12_text_97 rfl (lv_at hl 0 rfl) ?_
        obtain ⟨rfl, rfl, rfl, rfl, rfl, rfl, rfl, rfl, rfl, rfl, rfl, rfl, rfl, rfl, rfl, rfl, rfl, rfl, rfl⟩ := ou19 hf
        rw [hQ]
        exact W.iret hx hb hr (fun t ht hW => ⟨⟨_, (), rfl, rfl, by rw [ht]; exact hP, va_K.moved hW.alike hK, hD⟩, hS.F ht⟩) hS.2.2 dX12_text_98
      ·
        replace hf := ite_f cc hf
        clear cc
        refine lv_bipush (v := (-10 : Int32)) hx hb dX12_text_85 (by decide) ?_
        refine lv_aload_n hx hb dX12_text_87 rfl (lv_at hl 1 rfl) ?_
        refine va_get (D := D) (ci := 12) (v := .int z19) (C := RX12) (T := TX12) (N := 37) hx hb hts inX12_text_X12 hown hK hP 0 rfl rfl 20 (by decide) (hts _ mwX12_text_4) (fun _ h9 => h9) rfl dX12_text_88 ?_
        refine lv_isub hx hb dX12_text_91 ?_
        obtain ⟨rfl, rfl, rfl, rfl, rfl, rfl, rfl, rfl, rfl, rfl, rfl, rfl, rfl, rfl, rfl, rfl, rfl, rfl, rfl⟩ := ou19 hf
        rw [hQ]
        exact W.iret hx hb hr (fun t ht hW => ⟨⟨_, (), rfl, rfl, by rw [ht]; exact hP, va_K.moved hW.alike hK, hD⟩, hS.F ht⟩) hS.2.2 dX12_text_92
    refine lv_if_ne (tgt := 73) hx hb dX12_text_48 (by decide) (fun cc => ?_) (fun cc => ?_)
    ·
      replace hf := ite_f cc hf
      clear cc
      exact hJ20 _ _ _ _ _ (lv_sub hl [0, 1] rfl) hP hD hS hf
    ·
      replace hf := ite_t cc hf
      clear cc
      refine lv_aload_n hx hb dX12_text_51 rfl (lv_at hl 1 rfl) ?_
      refine lv_aload_n hx hb dX12_text_52 rfl (lv_at hl 1 rfl) ?_
      refine va_get (D := D) (ci := 12) (v := .int z7) (C := RX12) (T := TX12) (N := 37) hx hb hts inX12_text_X12 hown hK hP 0 rfl rfl 12 (by decide) (hts _ mwX12_text_5) (fun _ h9 => h9) rfl dX12_text_53 ?_
      refine lv_aload_n hx hb dX12_text_56 rfl (lv_at hl 1 rfl) ?_
      refine va_get (D := D) (ci := 12) (v := .int z4) (C := RX12) (T := TX12) (N := 37) hx hb hts inX12_text_X12 hown hK hP 0 rfl rfl 7 (by decide) (hts _ mwX12_text_6) (fun _ h9 => h9) rfl dX12_text_57 ?_
      refine lv_icmp_ge (tgt := 67) hx hb dX12_text_60 (by decide) (fun cc => ?_) (fun cc => ?_)
      ·
        replace hf := ite_t cc hf
        clear cc
        refine lv_iconst (v := (0 : Int32)) hx hb dX12_text_67 (by decide) ?_
        refine lv_bipush (v := (6 : Int32)) hx hb dX12_text_68 (by decide) ?_
        have hq := bd2_s hf
        clear hf
        obtain ⟨z27, z28, hcall, hf⟩ := hq
        refine gcV (ws' := [(a_p0, .inr (12, [.ref a_p0_st, .ref a_p0_isKept, .int i_p0_seats, .int i_p0_stirs, .ref a_p0_brings, .ref a_p0_need, .ref a_p0_draft, .int z4, .int z5, .ref a_p0_dStir, .ref a_p0_dNeed, .int z6, .int z7, .ref a_p0_tape, .int i_p0_taped, .int z10, .int z11, .int z12, .int z13, .int z27, .int z28, .ref a_p0_places, .ref a_p0_stirred, .ref a_p0_ways, .ref a_p0_waysThen, .ref a_p0_stays, .ref a_p0_fewest, .ref a_p0_bowls, .ref a_p0_has, .ref a_p0_goesOn, .ref a_p0_isThere, .ref a_p0_isThereThen, .ref a_p0_bestRow, .ref a_p0_lanes, .ref a_p0_sizes, .ref a_p0_cells, .int i_p0_torn])), (a_p0_st, .inl (G 1, 152, .inl v_p0_st)), (a_p0_isKept, .inl (G 3, 2, .inl v_p0_isKept)), (a_p0_need, .inl (G 1, 7, .inl v_p0_need)), (a_p0_draft, .inl (G 1, 38, .inl w8)), (a_p0_dNeed, .inl (G 1, 7, .inl w9)), (a_p0_tape, .inl (G 1, 320, .inl v_p0_tape))]) (va_runV (As := [.int (0 : Int32), .int (6 : Int32)]) (rest := []) ⟨hx, hb, hml, hown, hts⟩ (c_X12_needs (l := l) (D := D) (G := G) (sz := H.size) (a_p0 := a_p0) (a_p0_st := a_p0_st) (a_p0_isKept := a_p0_isKept) (a_p0_brings := a_p0_brings) (a_p0_need := a_p0_need) (a_p0_draft := a_p0_draft) (a_p0_dStir := a_p0_dStir) (a_p0_dNeed := a_p0_dNeed) (a_p0_tape := a_p0_tape) (a_p0_places := a_p0_places) (a_p0_stirred := a_p0_stirred) (a_p0_ways := a_p0_ways) (a_p0_waysThen := a_p0_waysThen) (a_p0_stays := a_p0_stays) (a_p0_fewest := a_p0_fewest) (a_p0_bowls := a_p0_bowls) (a_p0_has := a_p0_has) (a_p0_goesOn := a_p0_goesOn) (a_p0_isThere := a_p0_isThere) (a_p0_isThereThen := a_p0_isThereThen) (a_p0_bestRow := a_p0_bestRow) (a_p0_lanes := a_p0_lanes) (a_p0_sizes := a_p0_sizes) (a_p0_cells := a_p0_cells) (i_p0_seats := i_p0_seats) (i_p0_stirs := i_p0_stirs) (i_p0_dSeats := z4) (i_p0_dStirs := z5) (i_p0_told := z6) (i_p0_highest := z7) (i_p0_taped := i_p0_taped) (i_p0_pos := z10) (i_p0_from := z11) (i_p0_sort := z12) (i_p0_value := z13) (i_p0_fault := z14) (i_p0_wrongAt := z15) (i_p0_torn := i_p0_torn) (x1 := (0 : Int32)) (x2 := (6 : Int32)) (o_i_p0_fault := z27) (o_i_p0_wrongAt := z28) (hf := hcall)) (cwV 2 hts gX12_text_X12_needs rfl rfl rfl (by decide +kernel) ⟨Nat.le_of_ble_eq_true rfl, Nat.le_of_ble_eq_true rfl⟩) (preG_V (ci := 12) (hP.sub [0] rfl) (hD.sub [0] rfl rfl) hK rfl rfl) rfl rfl hl.1 rfl (lv_room (Nat.le_of_ble_eq_true rfl)) dX12_text_70 ⟨Nat.le_of_ble_eq_true rfl, Nat.le_of_ble_eq_true rfl⟩) hP hD hS hA [0] [1, 2, 3, 4, 5, 6] [6, 0, 1, 2, 3, 4, 5] rfl rfl rfl (by decide) rfl rfl rfl (fun H locs hP hD hS => ?_)
        clear hcall
        exact hJ20 _ _ _ _ _ (lv_sub hl [0, 1] rfl) hP hD hS hf
      ·
        replace hf := ite_f cc hf
        clear cc
        refine lv_iconst (v := (1 : Int32)) hx hb dX12_text_63 (by decide) ?_
        refine lv_goto (tgt := 68) hx hb dX12_text_64 (by decide) ?_
        refine lv_bipush (v := (6 : Int32)) hx hb dX12_text_68 (by decide) ?_
        have hq := bd2_s hf
        clear hf
        obtain ⟨z29, z30, hcall, hf⟩ := hq
        refine gcV (ws' := [(a_p0, .inr (12, [.ref a_p0_st, .ref a_p0_isKept, .int i_p0_seats, .int i_p0_stirs, .ref a_p0_brings, .ref a_p0_need, .ref a_p0_draft, .int z4, .int z5, .ref a_p0_dStir, .ref a_p0_dNeed, .int z6, .int z7, .ref a_p0_tape, .int i_p0_taped, .int z10, .int z11, .int z12, .int z13, .int z29, .int z30, .ref a_p0_places, .ref a_p0_stirred, .ref a_p0_ways, .ref a_p0_waysThen, .ref a_p0_stays, .ref a_p0_fewest, .ref a_p0_bowls, .ref a_p0_has, .ref a_p0_goesOn, .ref a_p0_isThere, .ref a_p0_isThereThen, .ref a_p0_bestRow, .ref a_p0_lanes, .ref a_p0_sizes, .ref a_p0_cells, .int i_p0_torn])), (a_p0_st, .inl (G 1, 152, .inl v_p0_st)), (a_p0_isKept, .inl (G 3, 2, .inl v_p0_isKept)), (a_p0_need, .inl (G 1, 7, .inl v_p0_need)), (a_p0_draft, .inl (G 1, 38, .inl w8)), (a_p0_dNeed, .inl (G 1, 7, .inl w9)), (a_p0_tape, .inl (G 1, 320, .inl v_p0_tape))]) (va_runV (As := [.int (1 : Int32), .int (6 : Int32)]) (rest := []) ⟨hx, hb, hml, hown, hts⟩ (c_X12_needs (l := l) (D := D) (G := G) (sz := H.size) (a_p0 := a_p0) (a_p0_st := a_p0_st) (a_p0_isKept := a_p0_isKept) (a_p0_brings := a_p0_brings) (a_p0_need := a_p0_need) (a_p0_draft := a_p0_draft) (a_p0_dStir := a_p0_dStir) (a_p0_dNeed := a_p0_dNeed) (a_p0_tape := a_p0_tape) (a_p0_places := a_p0_places) (a_p0_stirred := a_p0_stirred) (a_p0_ways := a_p0_ways) (a_p0_waysThen := a_p0_waysThen) (a_p0_stays := a_p0_stays) (a_p0_fewest := a_p0_fewest) (a_p0_bowls := a_p0_bowls) (a_p0_has := a_p0_has) (a_p0_goesOn := a_p0_goesOn) (a_p0_isThere := a_p0_isThere) (a_p0_isThereThen := a_p0_isThereThen) (a_p0_bestRow := a_p0_bestRow) (a_p0_lanes := a_p0_lanes) (a_p0_sizes := a_p0_sizes) (a_p0_cells := a_p0_cells) (i_p0_seats := i_p0_seats) (i_p0_stirs := i_p0_stirs) (i_p0_dSeats := z4) (i_p0_dStirs := z5) (i_p0_told := z6) (i_p0_highest := z7) (i_p0_taped := i_p0_taped) (i_p0_pos := z10) (i_p0_from := z11) (i_p0_sort := z12) (i_p0_value := z13) (i_p0_fault := z14) (i_p0_wrongAt := z15) (i_p0_torn := i_p0_torn) (x1 := (1 : Int32)) (x2 := (6 : Int32)) (o_i_p0_fault := z29) (o_i_p0_wrongAt := z30) (hf := hcall)) (cwV 2 hts gX12_text_X12_needs rfl rfl rfl (by decide +kernel) ⟨Nat.le_of_ble_eq_true rfl, Nat.le_of_ble_eq_true rfl⟩) (preG_V (ci := 12) (hP.sub [0] rfl) (hD.sub [0] rfl rfl) hK rfl rfl) rfl rfl hl.1 rfl (lv_room (Nat.le_of_ble_eq_true rfl)) dX12_text_70 ⟨Nat.le_of_ble_eq_true rfl, Nat.le_of_ble_eq_true rfl⟩) hP hD hS hA [0] [1, 2, 3, 4, 5, 6] [6, 0, 1, 2, 3, 4, 5] rfl rfl rfl (by decide) rfl rfl rfl (fun H locs hP hD hS => ?_)
        clear hcall
        exact hJ20 _ _ _ _ _ (lv_sub hl [0, 1] rfl) hP hD hS hf
  have hq := lq1_i hf
  clear hf
  obtain ⟨B32, eB32, NB32, hf⟩ := hq
  have hB32 : ∀ (n : Nat) (z31 : Int32) (ls : Array Slot) (H : Heap) (locs : List Loc), lv_has ls 2 [(1, .int z31), (0, .ref a_p0)] → va_P D vwCl [(a_p0, .inr (12, [.ref a_p0_st, .ref a_p0_isKept, .int i_p0_seats, .int i_p0_stirs, .ref a_p0_brings, .ref a_p0_need, .ref a_p0_draft, .int z4, .int z5, .ref a_p0_dStir, .ref a_p0_dNeed, .int z6, .int z7, .ref a_p0_tape, .int i_p0_taped, .int z10, .int z11, .int z12, .int z13, .int z14, .int z15, .ref a_p0_places, .ref a_p0_stirred, .ref a_p0_ways, .ref a_p0_waysThen, .ref a_p0_stays, .ref a_p0_fewest, .ref a_p0_bowls, .ref a_p0_has, .ref a_p0_goesOn, .ref a_p0_isThere, .ref a_p0_isThereThen, .ref a_p0_bestRow, .ref a_p0_lanes, .ref a_p0_sizes, .ref a_p0_cells, .int i_p0_torn])), (a_p0_st, .inl (G 1, 152, .inl v_p0_st)), (a_p0_isKept, .inl (G 3, 2, .inl v_p0_isKept)), (a_p0_need, .inl (G 1, 7, .inl v_p0_need)), (a_p0_draft, .inl (G 1, 38, .inl w8)), (a_p0_dNeed, .inl (G 1, 7, .inl w9)), (a_p0_tape, .inl (G 1, 320, .inl v_p0_tape))] H → va_D A [(a_p0, .inr (12, [.ref a_p0_st, .ref a_p0_isKept, .int i_p0_seats, .int i_p0_stirs, .ref a_p0_brings, .ref a_p0_need, .ref a_p0_draft, .int z4, .int z5, .ref a_p0_dStir, .ref a_p0_dNeed, .int z6, .int z7, .ref a_p0_tape, .int i_p0_taped, .int z10, .int z11, .int z12, .int z13, .int z14, .int z15, .ref a_p0_places, .ref a_p0_stirred, .ref a_p0_ways, .ref a_p0_waysThen, .ref a_p0_stays, .ref a_p0_fewest, .ref a_p0_bowls, .ref a_p0_has, .ref a_p0_goesOn, .ref a_p0_isThere, .ref a_p0_isThereThen, .ref a_p0_bestRow, .ref a_p0_lanes, .ref a_p0_sizes, .ref a_p0_cells, .int i_p0_torn])), (a_p0_st, .inl (G 1, 152, .inl v_p0_st)), (a_p0_isKept, .inl (G 3, 2, .inl v_p0_isKept)), (a_p0_need, .inl (G 1, 7, .inl v_p0_need)), (a_p0_draft, .inl (G 1, 38, .inl w8)), (a_p0_dNeed, .inl (G 1, 7, .inl w9)), (a_p0_tape, .inl (G 1, 320, .inl v_p0_tape))] → va_S A s.heap H locs → lq1 B32 n z31 = some (r, o_i_p0_seats, o_i_p0_stirs, o_i_p0_dSeats, o_i_p0_dStirs, o_i_p0_told, o_i_p0_highest, o_i_p0_taped, o_i_p0_pos, o_i_p0_from, o_i_p0_sort, o_i_p0_value, o_i_p0_fault, o_i_p0_wrongAt, o_v_p0_st, o_v_p0_isKept, o_v_p0_need, o_v_p0_draft, o_v_p0_dNeed) → W p l e rm_X12_text s m ([.ref a_p0] : List Value).toArray below meth c H locs 0 0 Q (F0 m 20 ls []) := by
    clear hf hl hP hD hS
    intro n
    induction n with
    | zero =>
      intro z31 ls H locs hl hP hD hS hf
      exact (lq1_0 hf).elim
    | succ n ih20 =>
      intro z31 ls H locs hl hP hD hS hf
      replace hf := lq1_s eB32 hf
      unfold B_X12_text_20 at hf
      refine lv_aload_n hx hb dX12_text_20 rfl (lv_at hl 1 rfl) ?_
      refine va_get (D := D) (ci := 12) (v := .int z14) (C := RX12) (T := TX12) (N := 37) hx hb hts inX12_text_X12 hown hK hP 0 rfl rfl 19 (by decide) (hts _ mwX12_text_1) (fun _ h9 => h9) rfl dX12_text_21 ?_
      refine lv_if_ne (tgt := 44) hx hb dX12_text_24 (by decide) (fun cc => ?_) (fun cc => ?_)
      ·
        replace hf := ite_f cc hf
        clear cc
        exact hJ17 _ _ _ _ (lv_sub hl [0, 1] rfl) hP hD hS hf
      ·
        replace hf := ite_t cc hf
        clear cc
        refine lv_aload_n hx hb dX12_text_27 rfl (lv_at hl 1 rfl) ?_
        refine va_get (D := D) (ci := 12) (v := .int z12) (C := RX12) (T := TX12) (N := 37) hx hb hts inX12_text_X12 hown hK hP 0 rfl rfl 17 (by decide) (hts _ mwX12_text_7) (fun _ h9 => h9) rfl dX12_text_28 ?_
        refine lv_if_eq (tgt := 44) hx hb dX12_text_31 (by decide) (fun cc => ?_) (fun cc => ?_)
        ·
          replace hf := ite_t cc hf
          clear cc
          exact hJ17 _ _ _ _ (lv_sub hl [0, 1] rfl) hP hD hS hf
        ·
          replace hf := ite_f cc hf
          clear cc
          refine lv_aload_n hx hb dX12_text_34 rfl (lv_at hl 1 rfl) ?_
          cases hf
  exact hB32 _ _ _ _ _ (lv_sub hl [0, 1] rfl) hP hD hS hf

noncomputable def f_X12_fault (i_p0_fault : Int32) : Option (Int32) := (some i_p0_fault)
abbrev rm_X12_fault : Room := { frames := 0, cells := 0, slots := 0, locals := 0 }
theorem inX12_fault_X12 : ∀ w ∈ wsX120, w ∈ wsX12_fault := by decide +kernel
theorem mwX12_fault_1 : Cond.fieldLink RX12 119 "LadleKingsModel" "fault" "I" ∈ wsX12_fault := by decide +kernel
set_option maxHeartbeats 8000000 in
set_option maxRecDepth 100000 in
theorem c_X12_fault (l : Launch) (D : va_G) (G : Nat → ClassId) (sz : Nat) (a_p0 : Nat) (a_p0_st : Nat) (a_p0_isKept : Nat) (a_p0_brings : Nat) (a_p0_need : Nat) (a_p0_draft : Nat) (a_p0_dStir : Nat) (a_p0_dNeed : Nat) (a_p0_tape : Nat) (a_p0_places : Nat) (a_p0_stirred : Nat) (a_p0_ways : Nat) (a_p0_waysThen : Nat) (a_p0_stays : Nat) (a_p0_fewest : Nat) (a_p0_bowls : Nat) (a_p0_has : Nat) (a_p0_goesOn : Nat) (a_p0_isThere : Nat) (a_p0_isThereThen : Nat) (a_p0_bestRow : Nat) (a_p0_lanes : Nat) (a_p0_sizes : Nat) (a_p0_cells : Nat) (i_p0_seats : Int32) (i_p0_stirs : Int32) (i_p0_dSeats : Int32) (i_p0_dStirs : Int32) (i_p0_told : Int32) (i_p0_highest : Int32) (i_p0_taped : Int32) (i_p0_pos : Int32) (i_p0_from : Int32) (i_p0_sort : Int32) (i_p0_value : Int32) (i_p0_fault : Int32) (i_p0_wrongAt : Int32) (i_p0_torn : Int32) (r : Int32) (hf : f_X12_fault i_p0_fault = some r) : Met l yX12_fault wsX12_fault rm_X12_fault (pcG D G [.ref a_p0] sz [(a_p0, .inr (12, [.ref a_p0_st, .ref a_p0_isKept, .int i_p0_seats, .int i_p0_stirs, .ref a_p0_brings, .ref a_p0_need, .ref a_p0_draft, .int i_p0_dSeats, .int i_p0_dStirs, .ref a_p0_dStir, .ref a_p0_dNeed, .int i_p0_told, .int i_p0_highest, .ref a_p0_tape, .int i_p0_taped, .int i_p0_pos, .int i_p0_from, .int i_p0_sort, .int i_p0_value, .int i_p0_fault, .int i_p0_wrongAt, .ref a_p0_places, .ref a_p0_stirred, .ref a_p0_ways, .ref a_p0_waysThen, .ref a_p0_stays, .ref a_p0_fewest, .ref a_p0_bowls, .ref a_p0_has, .ref a_p0_goesOn, .ref a_p0_isThere, .ref a_p0_isThereThen, .ref a_p0_bestRow, .ref a_p0_lanes, .ref a_p0_sizes, .ref a_p0_cells, .int i_p0_torn]))]) (qcI D G r [(a_p0, .inr (12, [.ref a_p0_st, .ref a_p0_isKept, .int i_p0_seats, .int i_p0_stirs, .ref a_p0_brings, .ref a_p0_need, .ref a_p0_draft, .int i_p0_dSeats, .int i_p0_dStirs, .ref a_p0_dStir, .ref a_p0_dNeed, .int i_p0_told, .int i_p0_highest, .ref a_p0_tape, .int i_p0_taped, .int i_p0_pos, .int i_p0_from, .int i_p0_sort, .int i_p0_value, .int i_p0_fault, .int i_p0_wrongAt, .ref a_p0_places, .ref a_p0_stirred, .ref a_p0_ways, .ref a_p0_waysThen, .ref a_p0_stays, .ref a_p0_fewest, .ref a_p0_bowls, .ref a_p0_has, .ref a_p0_goesOn, .ref a_p0_isThere, .ref a_p0_isThereThen, .ref a_p0_bestRow, .ref a_p0_lanes, .ref a_p0_sizes, .ref a_p0_cells, .int i_p0_torn]))] (va_A [(a_p0, .inr (12, [.ref a_p0_st, .ref a_p0_isKept, .int i_p0_seats, .int i_p0_stirs, .ref a_p0_brings, .ref a_p0_need, .ref a_p0_draft, .int i_p0_dSeats, .int i_p0_dStirs, .ref a_p0_dStir, .ref a_p0_dNeed, .int i_p0_told, .int i_p0_highest, .ref a_p0_tape, .int i_p0_taped, .int i_p0_pos, .int i_p0_from, .int i_p0_sort, .int i_p0_value, .int i_p0_fault, .int i_p0_wrongAt, .ref a_p0_places, .ref a_p0_stirred, .ref a_p0_ways, .ref a_p0_waysThen, .ref a_p0_stays, .ref a_p0_fewest, .ref a_p0_bowls, .ref a_p0_has, .ref a_p0_goesOn, .ref a_p0_isThere, .ref a_p0_isThereThen, .ref a_p0_bestRow, .ref a_p0_lanes, .ref a_p0_sizes, .ref a_p0_cells, .int i_p0_torn]))] sz)) 0 0 (va_A [(a_p0, .inr (12, [.ref a_p0_st, .ref a_p0_isKept, .int i_p0_seats, .int i_p0_stirs, .ref a_p0_brings, .ref a_p0_need, .ref a_p0_draft, .int i_p0_dSeats, .int i_p0_dStirs, .ref a_p0_dStir, .ref a_p0_dNeed, .int i_p0_told, .int i_p0_highest, .ref a_p0_tape, .int i_p0_taped, .int i_p0_pos, .int i_p0_from, .int i_p0_sort, .int i_p0_value, .int i_p0_fault, .int i_p0_wrongAt, .ref a_p0_places, .ref a_p0_stirred, .ref a_p0_ways, .ref a_p0_waysThen, .ref a_p0_stays, .ref a_p0_fewest, .ref a_p0_bowls, .ref a_p0_has, .ref a_p0_goesOn, .ref a_p0_isThere, .ref a_p0_isThereThen, .ref a_p0_bestRow, .ref a_p0_lanes, .ref a_p0_sizes, .ref a_p0_cells, .int i_p0_torn]))] sz) := by
  refine Met.ofW (cc := cX12_fault) (maxL := 1) (ret := (some .int)) (by decide) rfl ?_
  intro p e s m args below meth c s₁ B hml hv
  obtain ⟨rfl, hsz, hP, hK, hD0⟩ := hv
  have hx := B.exec
  have hb := B.bytes
  have hr := B.returns
  have hts := atoms_spec (ws := wsX12_fault) B.pre
  have hown : s.vm.findClass RX12 = some m.cls := findClass_of_methodNamed B.named
  have hlocks := B.notSynchronized
  subst hsz
  have hD := hD0.self (sz := s.heap.size)
  generalize hAe : va_A [(a_p0, .inr (12, [.ref a_p0_st, .ref a_p0_isKept, .int i_p0_seats, .int i_p0_stirs, .ref a_p0_brings, .ref a_p0_need, .ref a_p0_draft, .int i_p0_dSeats, .int i_p0_dStirs, .ref a_p0_dStir, .ref a_p0_dNeed, .int i_p0_told, .int i_p0_highest, .ref a_p0_tape, .int i_p0_taped, .int i_p0_pos, .int i_p0_from, .int i_p0_sort, .int i_p0_value, .int i_p0_fault, .int i_p0_wrongAt, .ref a_p0_places, .ref a_p0_stirred, .ref a_p0_ways, .ref a_p0_waysThen, .ref a_p0_stays, .ref a_p0_fewest, .ref a_p0_bowls, .ref a_p0_has, .ref a_p0_goesOn, .ref a_p0_isThere, .ref a_p0_isThereThen, .ref a_p0_bestRow, .ref a_p0_lanes, .ref a_p0_sizes, .ref a_p0_cells, .int i_p0_torn]))] s.heap.size = A at hD ⊢
  have hA : ∀ q : Nat, s.heap.size ≤ q → A q := fun q h => by rw [← hAe]; exact Or.inr h
  clear hAe hD0
  have hS : va_S A s.heap s.heap [] := va_S.rf
  have hl := lv_entry ([.ref a_p0]) (n := 1) (Nat.le_of_ble_eq_true rfl)
  rw [lg_entry_eq]
  generalize (lg_sl ([.ref a_p0]) ++ List.replicate (1 - (lg_sl ([.ref a_p0])).length) Slot.unset).toArray = ls at hl ⊢
  have hl : lv_has ls 1 [(0, .ref a_p0)] := hl
  refine W_nameQ (fun Q hQ => ?_)
  obtain ⟨H, hH⟩ : ∃ H, H = s.heap := ⟨_, rfl⟩
  replace hS : va_S A s.heap H [] := by rw [hH]; exact hS
  replace hP : va_P D vwCl [(a_p0, .inr (12, [.ref a_p0_st, .ref a_p0_isKept, .int i_p0_seats, .int i_p0_stirs, .ref a_p0_brings, .ref a_p0_need, .ref a_p0_draft, .int i_p0_dSeats, .int i_p0_dStirs, .ref a_p0_dStir, .ref a_p0_dNeed, .int i_p0_told, .int i_p0_highest, .ref a_p0_tape, .int i_p0_taped, .int i_p0_pos, .int i_p0_from, .int i_p0_sort, .int i_p0_value, .int i_p0_fault, .int i_p0_wrongAt, .ref a_p0_places, .ref a_p0_stirred, .ref a_p0_ways, .ref a_p0_waysThen, .ref a_p0_stays, .ref a_p0_fewest, .ref a_p0_bowls, .ref a_p0_has, .ref a_p0_goesOn, .ref a_p0_isThere, .ref a_p0_isThereThen, .ref a_p0_bestRow, .ref a_p0_lanes, .ref a_p0_sizes, .ref a_p0_cells, .int i_p0_torn]))] H := by rw [hH]; exact hP
  rw [← hH]
  clear hH
  unfold f_X12_fault at hf
  refine lv_aload_n hx hb dX12_fault_0 rfl (lv_at hl 0 rfl) ?_
  refine va_get (D := D) (ci := 12) (v := .int i_p0_fault) (C := RX12) (T := TX12) (N := 37) hx hb hts inX12_fault_X12 hown hK hP 0 rfl rfl 19 (by decide) (hts _ mwX12_fault_1) (fun _ h9 => h9) rfl dX12_fault_1 ?_
  obtain rfl := ou1 hf
  rw [hQ]
  exact W.iret hx hb hr (fun t ht hW => ⟨⟨_, (), rfl, rfl, by rw [ht]; exact hP, va_K.moved hW.alike hK, hD⟩, hS.F ht⟩) hS.2.2 dX12_fault_4

noncomputable def f_X12_isSeat (i_p0_seats : Int32) (x1 : Int32) : Option (Int32) := (bd1 (f_X12_in (x1).toInt64 (0 : Int64) ((i_p0_seats - (1 : Int32))).toInt64) (fun (z1 : Int32) => (ck (zB z1) (some z1))))
abbrev rm_X12_isSeat : Room := { frames := 1, cells := 0, slots := 0, locals := 25 }
theorem inX12_isSeat_X12 : ∀ w ∈ wsX120, w ∈ wsX12_isSeat := by decide +kernel
theorem mwX12_isSeat_1 : Cond.fieldLink RX12 100 "LadleKingsModel" "seats" "I" ∈ wsX12_isSeat := by decide +kernel
set_option maxHeartbeats 8000000 in
set_option maxRecDepth 100000 in
theorem c_X12_isSeat (l : Launch) (D : va_G) (G : Nat → ClassId) (sz : Nat) (a_p0 : Nat) (a_p0_st : Nat) (a_p0_isKept : Nat) (a_p0_brings : Nat) (a_p0_need : Nat) (a_p0_draft : Nat) (a_p0_dStir : Nat) (a_p0_dNeed : Nat) (a_p0_tape : Nat) (a_p0_places : Nat) (a_p0_stirred : Nat) (a_p0_ways : Nat) (a_p0_waysThen : Nat) (a_p0_stays : Nat) (a_p0_fewest : Nat) (a_p0_bowls : Nat) (a_p0_has : Nat) (a_p0_goesOn : Nat) (a_p0_isThere : Nat) (a_p0_isThereThen : Nat) (a_p0_bestRow : Nat) (a_p0_lanes : Nat) (a_p0_sizes : Nat) (a_p0_cells : Nat) (i_p0_seats : Int32) (i_p0_stirs : Int32) (i_p0_dSeats : Int32) (i_p0_dStirs : Int32) (i_p0_told : Int32) (i_p0_highest : Int32) (i_p0_taped : Int32) (i_p0_pos : Int32) (i_p0_from : Int32) (i_p0_sort : Int32) (i_p0_value : Int32) (i_p0_fault : Int32) (i_p0_wrongAt : Int32) (i_p0_torn : Int32) (x1 : Int32) (r : Int32) (hf : f_X12_isSeat i_p0_seats x1 = some r) : Met l yX12_isSeat wsX12_isSeat rm_X12_isSeat (pcG D G [.ref a_p0, .int x1] sz [(a_p0, .inr (12, [.ref a_p0_st, .ref a_p0_isKept, .int i_p0_seats, .int i_p0_stirs, .ref a_p0_brings, .ref a_p0_need, .ref a_p0_draft, .int i_p0_dSeats, .int i_p0_dStirs, .ref a_p0_dStir, .ref a_p0_dNeed, .int i_p0_told, .int i_p0_highest, .ref a_p0_tape, .int i_p0_taped, .int i_p0_pos, .int i_p0_from, .int i_p0_sort, .int i_p0_value, .int i_p0_fault, .int i_p0_wrongAt, .ref a_p0_places, .ref a_p0_stirred, .ref a_p0_ways, .ref a_p0_waysThen, .ref a_p0_stays, .ref a_p0_fewest, .ref a_p0_bowls, .ref a_p0_has, .ref a_p0_goesOn, .ref a_p0_isThere, .ref a_p0_isThereThen, .ref a_p0_bestRow, .ref a_p0_lanes, .ref a_p0_sizes, .ref a_p0_cells, .int i_p0_torn]))]) (qcI D G r [(a_p0, .inr (12, [.ref a_p0_st, .ref a_p0_isKept, .int i_p0_seats, .int i_p0_stirs, .ref a_p0_brings, .ref a_p0_need, .ref a_p0_draft, .int i_p0_dSeats, .int i_p0_dStirs, .ref a_p0_dStir, .ref a_p0_dNeed, .int i_p0_told, .int i_p0_highest, .ref a_p0_tape, .int i_p0_taped, .int i_p0_pos, .int i_p0_from, .int i_p0_sort, .int i_p0_value, .int i_p0_fault, .int i_p0_wrongAt, .ref a_p0_places, .ref a_p0_stirred, .ref a_p0_ways, .ref a_p0_waysThen, .ref a_p0_stays, .ref a_p0_fewest, .ref a_p0_bowls, .ref a_p0_has, .ref a_p0_goesOn, .ref a_p0_isThere, .ref a_p0_isThereThen, .ref a_p0_bestRow, .ref a_p0_lanes, .ref a_p0_sizes, .ref a_p0_cells, .int i_p0_torn]))] (va_A [(a_p0, .inr (12, [.ref a_p0_st, .ref a_p0_isKept, .int i_p0_seats, .int i_p0_stirs, .ref a_p0_brings, .ref a_p0_need, .ref a_p0_draft, .int i_p0_dSeats, .int i_p0_dStirs, .ref a_p0_dStir, .ref a_p0_dNeed, .int i_p0_told, .int i_p0_highest, .ref a_p0_tape, .int i_p0_taped, .int i_p0_pos, .int i_p0_from, .int i_p0_sort, .int i_p0_value, .int i_p0_fault, .int i_p0_wrongAt, .ref a_p0_places, .ref a_p0_stirred, .ref a_p0_ways, .ref a_p0_waysThen, .ref a_p0_stays, .ref a_p0_fewest, .ref a_p0_bowls, .ref a_p0_has, .ref a_p0_goesOn, .ref a_p0_isThere, .ref a_p0_isThereThen, .ref a_p0_bestRow, .ref a_p0_lanes, .ref a_p0_sizes, .ref a_p0_cells, .int i_p0_torn]))] sz)) 0 0 (va_A [(a_p0, .inr (12, [.ref a_p0_st, .ref a_p0_isKept, .int i_p0_seats, .int i_p0_stirs, .ref a_p0_brings, .ref a_p0_need, .ref a_p0_draft, .int i_p0_dSeats, .int i_p0_dStirs, .ref a_p0_dStir, .ref a_p0_dNeed, .int i_p0_told, .int i_p0_highest, .ref a_p0_tape, .int i_p0_taped, .int i_p0_pos, .int i_p0_from, .int i_p0_sort, .int i_p0_value, .int i_p0_fault, .int i_p0_wrongAt, .ref a_p0_places, .ref a_p0_stirred, .ref a_p0_ways, .ref a_p0_waysThen, .ref a_p0_stays, .ref a_p0_fewest, .ref a_p0_bowls, .ref a_p0_has, .ref a_p0_goesOn, .ref a_p0_isThere, .ref a_p0_isThereThen, .ref a_p0_bestRow, .ref a_p0_lanes, .ref a_p0_sizes, .ref a_p0_cells, .int i_p0_torn]))] sz) := by
  refine Met.ofW (cc := cX12_isSeat) (maxL := 2) (ret := (some .boolean)) (by decide) rfl ?_
  intro p e s m args below meth c s₁ B hml hv
  obtain ⟨rfl, hsz, hP, hK, hD0⟩ := hv
  have hx := B.exec
  have hb := B.bytes
  have hr := B.returns
  have hts := atoms_spec (ws := wsX12_isSeat) B.pre
  have hown : s.vm.findClass RX12 = some m.cls := findClass_of_methodNamed B.named
  have hlocks := B.notSynchronized
  subst hsz
  have hD := hD0.self (sz := s.heap.size)
  generalize hAe : va_A [(a_p0, .inr (12, [.ref a_p0_st, .ref a_p0_isKept, .int i_p0_seats, .int i_p0_stirs, .ref a_p0_brings, .ref a_p0_need, .ref a_p0_draft, .int i_p0_dSeats, .int i_p0_dStirs, .ref a_p0_dStir, .ref a_p0_dNeed, .int i_p0_told, .int i_p0_highest, .ref a_p0_tape, .int i_p0_taped, .int i_p0_pos, .int i_p0_from, .int i_p0_sort, .int i_p0_value, .int i_p0_fault, .int i_p0_wrongAt, .ref a_p0_places, .ref a_p0_stirred, .ref a_p0_ways, .ref a_p0_waysThen, .ref a_p0_stays, .ref a_p0_fewest, .ref a_p0_bowls, .ref a_p0_has, .ref a_p0_goesOn, .ref a_p0_isThere, .ref a_p0_isThereThen, .ref a_p0_bestRow, .ref a_p0_lanes, .ref a_p0_sizes, .ref a_p0_cells, .int i_p0_torn]))] s.heap.size = A at hD ⊢
  have hA : ∀ q : Nat, s.heap.size ≤ q → A q := fun q h => by rw [← hAe]; exact Or.inr h
  clear hAe hD0
  have hS : va_S A s.heap s.heap [] := va_S.rf
  have hl := lv_entry ([.ref a_p0, .int x1]) (n := 2) (Nat.le_of_ble_eq_true rfl)
  rw [lg_entry_eq]
  generalize (lg_sl ([.ref a_p0, .int x1]) ++ List.replicate (2 - (lg_sl ([.ref a_p0, .int x1])).length) Slot.unset).toArray = ls at hl ⊢
  have hl : lv_has ls 2 [(0, .ref a_p0), (1, .int x1)] := hl
  refine W_nameQ (fun Q hQ => ?_)
  obtain ⟨H, hH⟩ : ∃ H, H = s.heap := ⟨_, rfl⟩
  replace hS : va_S A s.heap H [] := by rw [hH]; exact hS
  replace hP : va_P D vwCl [(a_p0, .inr (12, [.ref a_p0_st, .ref a_p0_isKept, .int i_p0_seats, .int i_p0_stirs, .ref a_p0_brings, .ref a_p0_need, .ref a_p0_draft, .int i_p0_dSeats, .int i_p0_dStirs, .ref a_p0_dStir, .ref a_p0_dNeed, .int i_p0_told, .int i_p0_highest, .ref a_p0_tape, .int i_p0_taped, .int i_p0_pos, .int i_p0_from, .int i_p0_sort, .int i_p0_value, .int i_p0_fault, .int i_p0_wrongAt, .ref a_p0_places, .ref a_p0_stirred, .ref a_p0_ways, .ref a_p0_waysThen, .ref a_p0_stays, .ref a_p0_fewest, .ref a_p0_bowls, .ref a_p0_has, .ref a_p0_goesOn, .ref a_p0_isThere, .ref a_p0_isThereThen, .ref a_p0_bestRow, .ref a_p0_lanes, .ref a_p0_sizes, .ref a_p0_cells, .int i_p0_torn]))] H := by rw [hH]; exact hP
  rw [← hH]
  clear hH
  unfold f_X12_isSeat at hf
  refine lv_iload_n hx hb dX12_isSeat_0 rfl (lv_at hl 1 rfl) ?_
  refine lv_i2l hx hb dX12_isSeat_1 rfl ?_
  refine lv_lconst (v := (0 : Int64)) hx hb dX12_isSeat_2 (by decide) ?_
  refine lv_aload_n hx hb dX12_isSeat_3 rfl (lv_at hl 0 rfl) ?_
  refine va_get (D := D) (ci := 12) (v := .int i_p0_seats) (C := RX12) (T := TX12) (N := 37) hx hb hts inX12_isSeat_X12 hown hK hP 0 rfl rfl 2 (by decide) (hts _ mwX12_isSeat_1) (fun _ h9 => h9) rfl dX12_isSeat_4 ?_
  refine lv_iconst (v := (1 : Int32)) hx hb dX12_isSeat_7 (by decide) ?_
  refine lv_isub hx hb dX12_isSeat_8 ?_
  refine lv_i2l hx hb dX12_isSeat_9 rfl ?_
  have hq := bd1_s hf
  clear hf
  obtain ⟨z1, hcall, hf⟩ := hq
  refine gcI (ws' := [(a_p0, .inr (12, [.ref a_p0_st, .ref a_p0_isKept, .int i_p0_seats, .int i_p0_stirs, .ref a_p0_brings, .ref a_p0_need, .ref a_p0_draft, .int i_p0_dSeats, .int i_p0_dStirs, .ref a_p0_dStir, .ref a_p0_dNeed, .int i_p0_told, .int i_p0_highest, .ref a_p0_tape, .int i_p0_taped, .int i_p0_pos, .int i_p0_from, .int i_p0_sort, .int i_p0_value, .int i_p0_fault, .int i_p0_wrongAt, .ref a_p0_places, .ref a_p0_stirred, .ref a_p0_ways, .ref a_p0_waysThen, .ref a_p0_stays, .ref a_p0_fewest, .ref a_p0_bowls, .ref a_p0_has, .ref a_p0_goesOn, .ref a_p0_isThere, .ref a_p0_isThereThen, .ref a_p0_bestRow, .ref a_p0_lanes, .ref a_p0_sizes, .ref a_p0_cells, .int i_p0_torn]))]) (va_runS (As := [.long (x1).toInt64, .long (0 : Int64), .long ((i_p0_seats - (1 : Int32))).toInt64]) (rest := []) ⟨hx, hb, hml, hown, hts⟩ (c_X12_in (l := l) (D := D) (G := G) (sz := H.size) (x0 := (x1).toInt64) (x2 := (0 : Int64)) (x4 := ((i_p0_seats - (1 : Int32))).toInt64) (r := z1) (hf := hcall)) (va_cwS 3 hts gX12_isSeat_X12_in rfl rfl rfl (by decide +kernel) ⟨Nat.le_of_ble_eq_true rfl, Nat.le_of_ble_eq_true rfl⟩) (preG_S (hP.sub [] rfl) (hD.sub [] rfl rfl) hK) rfl rfl hl.1 rfl (lv_room (Nat.le_of_ble_eq_true rfl)) dX12_isSeat_10 ⟨Nat.le_of_ble_eq_true rfl, Nat.le_of_ble_eq_true rfl⟩) hP hD hS hA [] [0] [0] rfl rfl rfl (by decide) rfl rfl rfl (fun H locs hP hD hS => ?_)
  clear hcall
  have hz := ck_c hf
  replace hf := ck_r hf
  obtain rfl := ou1 hf
  rw [hQ]
  exact W.zret hx hb hr (zB_n hz) (fun t ht hW => ⟨⟨_, (), rfl, rfl, by rw [ht]; exact hP, va_K.moved hW.alike hK, hD⟩, hS.F ht⟩) hS.2.2 dX12_isSeat_13

noncomputable def f_X12_isStir (i_p0_stirs : Int32) (x1 : Int32) : Option (Int32) := (bd1 (f_X12_in (x1).toInt64 (0 : Int64) ((i_p0_stirs - (1 : Int32))).toInt64) (fun (z1 : Int32) => (ck (zB z1) (some z1))))
abbrev rm_X12_isStir : Room := { frames := 1, cells := 0, slots := 0, locals := 25 }
theorem inX12_isStir_X12 : ∀ w ∈ wsX120, w ∈ wsX12_isStir := by decide +kernel
theorem mwX12_isStir_1 : Cond.fieldLink RX12 103 "LadleKingsModel" "stirs" "I" ∈ wsX12_isStir := by decide +kernel
set_option maxHeartbeats 8000000 in
set_option maxRecDepth 100000 in
theorem c_X12_isStir (l : Launch) (D : va_G) (G : Nat → ClassId) (sz : Nat) (a_p0 : Nat) (a_p0_st : Nat) (a_p0_isKept : Nat) (a_p0_brings : Nat) (a_p0_need : Nat) (a_p0_draft : Nat) (a_p0_dStir : Nat) (a_p0_dNeed : Nat) (a_p0_tape : Nat) (a_p0_places : Nat) (a_p0_stirred : Nat) (a_p0_ways : Nat) (a_p0_waysThen : Nat) (a_p0_stays : Nat) (a_p0_fewest : Nat) (a_p0_bowls : Nat) (a_p0_has : Nat) (a_p0_goesOn : Nat) (a_p0_isThere : Nat) (a_p0_isThereThen : Nat) (a_p0_bestRow : Nat) (a_p0_lanes : Nat) (a_p0_sizes : Nat) (a_p0_cells : Nat) (i_p0_seats : Int32) (i_p0_stirs : Int32) (i_p0_dSeats : Int32) (i_p0_dStirs : Int32) (i_p0_told : Int32) (i_p0_highest : Int32) (i_p0_taped : Int32) (i_p0_pos : Int32) (i_p0_from : Int32) (i_p0_sort : Int32) (i_p0_value : Int32) (i_p0_fault : Int32) (i_p0_wrongAt : Int32) (i_p0_torn : Int32) (x1 : Int32) (r : Int32) (hf : f_X12_isStir i_p0_stirs x1 = some r) : Met l yX12_isStir wsX12_isStir rm_X12_isStir (pcG D G [.ref a_p0, .int x1] sz [(a_p0, .inr (12, [.ref a_p0_st, .ref a_p0_isKept, .int i_p0_seats, .int i_p0_stirs, .ref a_p0_brings, .ref a_p0_need, .ref a_p0_draft, .int i_p0_dSeats, .int i_p0_dStirs, .ref a_p0_dStir, .ref a_p0_dNeed, .int i_p0_told, .int i_p0_highest, .ref a_p0_tape, .int i_p0_taped, .int i_p0_pos, .int i_p0_from, .int i_p0_sort, .int i_p0_value, .int i_p0_fault, .int i_p0_wrongAt, .ref a_p0_places, .ref a_p0_stirred, .ref a_p0_ways, .ref a_p0_waysThen, .ref a_p0_stays, .ref a_p0_fewest, .ref a_p0_bowls, .ref a_p0_has, .ref a_p0_goesOn, .ref a_p0_isThere, .ref a_p0_isThereThen, .ref a_p0_bestRow, .ref a_p0_lanes, .ref a_p0_sizes, .ref a_p0_cells, .int i_p0_torn]))]) (qcI D G r [(a_p0, .inr (12, [.ref a_p0_st, .ref a_p0_isKept, .int i_p0_seats, .int i_p0_stirs, .ref a_p0_brings, .ref a_p0_need, .ref a_p0_draft, .int i_p0_dSeats, .int i_p0_dStirs, .ref a_p0_dStir, .ref a_p0_dNeed, .int i_p0_told, .int i_p0_highest, .ref a_p0_tape, .int i_p0_taped, .int i_p0_pos, .int i_p0_from, .int i_p0_sort, .int i_p0_value, .int i_p0_fault, .int i_p0_wrongAt, .ref a_p0_places, .ref a_p0_stirred, .ref a_p0_ways, .ref a_p0_waysThen, .ref a_p0_stays, .ref a_p0_fewest, .ref a_p0_bowls, .ref a_p0_has, .ref a_p0_goesOn, .ref a_p0_isThere, .ref a_p0_isThereThen, .ref a_p0_bestRow, .ref a_p0_lanes, .ref a_p0_sizes, .ref a_p0_cells, .int i_p0_torn]))] (va_A [(a_p0, .inr (12, [.ref a_p0_st, .ref a_p0_isKept, .int i_p0_seats, .int i_p0_stirs, .ref a_p0_brings, .ref a_p0_need, .ref a_p0_draft, .int i_p0_dSeats, .int i_p0_dStirs, .ref a_p0_dStir, .ref a_p0_dNeed, .int i_p0_told, .int i_p0_highest, .ref a_p0_tape, .int i_p0_taped, .int i_p0_pos, .int i_p0_from, .int i_p0_sort, .int i_p0_value, .int i_p0_fault, .int i_p0_wrongAt, .ref a_p0_places, .ref a_p0_stirred, .ref a_p0_ways, .ref a_p0_waysThen, .ref a_p0_stays, .ref a_p0_fewest, .ref a_p0_bowls, .ref a_p0_has, .ref a_p0_goesOn, .ref a_p0_isThere, .ref a_p0_isThereThen, .ref a_p0_bestRow, .ref a_p0_lanes, .ref a_p0_sizes, .ref a_p0_cells, .int i_p0_torn]))] sz)) 0 0 (va_A [(a_p0, .inr (12, [.ref a_p0_st, .ref a_p0_isKept, .int i_p0_seats, .int i_p0_stirs, .ref a_p0_brings, .ref a_p0_need, .ref a_p0_draft, .int i_p0_dSeats, .int i_p0_dStirs, .ref a_p0_dStir, .ref a_p0_dNeed, .int i_p0_told, .int i_p0_highest, .ref a_p0_tape, .int i_p0_taped, .int i_p0_pos, .int i_p0_from, .int i_p0_sort, .int i_p0_value, .int i_p0_fault, .int i_p0_wrongAt, .ref a_p0_places, .ref a_p0_stirred, .ref a_p0_ways, .ref a_p0_waysThen, .ref a_p0_stays, .ref a_p0_fewest, .ref a_p0_bowls, .ref a_p0_has, .ref a_p0_goesOn, .ref a_p0_isThere, .ref a_p0_isThereThen, .ref a_p0_bestRow, .ref a_p0_lanes, .ref a_p0_sizes, .ref a_p0_cells, .int i_p0_torn]))] sz) := by
  refine Met.ofW (cc := cX12_isStir) (maxL := 2) (ret := (some .boolean)) (by decide) rfl ?_
  intro p e s m args below meth c s₁ B hml hv
  obtain ⟨rfl, hsz, hP, hK, hD0⟩ := hv
  have hx := B.exec
  have hb := B.bytes
  have hr := B.returns
  have hts := atoms_spec (ws := wsX12_isStir) B.pre
  have hown : s.vm.findClass RX12 = some m.cls := findClass_of_methodNamed B.named
  have hlocks := B.notSynchronized
  subst hsz
  have hD := hD0.self (sz := s.heap.size)
  generalize hAe : va_A [(a_p0, .inr (12, [.ref a_p0_st, .ref a_p0_isKept, .int i_p0_seats, .int i_p0_stirs, .ref a_p0_brings, .ref a_p0_need, .ref a_p0_draft, .int i_p0_dSeats, .int i_p0_dStirs, .ref a_p0_dStir, .ref a_p0_dNeed, .int i_p0_told, .int i_p0_highest, .ref a_p0_tape, .int i_p0_taped, .int i_p0_pos, .int i_p0_from, .int i_p0_sort, .int i_p0_value, .int i_p0_fault, .int i_p0_wrongAt, .ref a_p0_places, .ref a_p0_stirred, .ref a_p0_ways, .ref a_p0_waysThen, .ref a_p0_stays, .ref a_p0_fewest, .ref a_p0_bowls, .ref a_p0_has, .ref a_p0_goesOn, .ref a_p0_isThere, .ref a_p0_isThereThen, .ref a_p0_bestRow, .ref a_p0_lanes, .ref a_p0_sizes, .ref a_p0_cells, .int i_p0_torn]))] s.heap.size = A at hD ⊢
  have hA : ∀ q : Nat, s.heap.size ≤ q → A q := fun q h => by rw [← hAe]; exact Or.inr h
  clear hAe hD0
  have hS : va_S A s.heap s.heap [] := va_S.rf
  have hl := lv_entry ([.ref a_p0, .int x1]) (n := 2) (Nat.le_of_ble_eq_true rfl)
  rw [lg_entry_eq]
  generalize (lg_sl ([.ref a_p0, .int x1]) ++ List.replicate (2 - (lg_sl ([.ref a_p0, .int x1])).length) Slot.unset).toArray = ls at hl ⊢
  have hl : lv_has ls 2 [(0, .ref a_p0), (1, .int x1)] := hl
  refine W_nameQ (fun Q hQ => ?_)
  obtain ⟨H, hH⟩ : ∃ H, H = s.heap := ⟨_, rfl⟩
  replace hS : va_S A s.heap H [] := by rw [hH]; exact hS
  replace hP : va_P D vwCl [(a_p0, .inr (12, [.ref a_p0_st, .ref a_p0_isKept, .int i_p0_seats, .int i_p0_stirs, .ref a_p0_brings, .ref a_p0_need, .ref a_p0_draft, .int i_p0_dSeats, .int i_p0_dStirs, .ref a_p0_dStir, .ref a_p0_dNeed, .int i_p0_told, .int i_p0_highest, .ref a_p0_tape, .int i_p0_taped, .int i_p0_pos, .int i_p0_from, .int i_p0_sort, .int i_p0_value, .int i_p0_fault, .int i_p0_wrongAt, .ref a_p0_places, .ref a_p0_stirred, .ref a_p0_ways, .ref a_p0_waysThen, .ref a_p0_stays, .ref a_p0_fewest, .ref a_p0_bowls, .ref a_p0_has, .ref a_p0_goesOn, .ref a_p0_isThere, .ref a_p0_isThereThen, .ref a_p0_bestRow, .ref a_p0_lanes, .ref a_p0_sizes, .ref a_p0_cells, .int i_p0_torn]))] H := by rw [hH]; exact hP
  rw [← hH]
  clear hH
  unfold f_X12_isStir at hf
  refine lv_iload_n hx hb dX12_isStir_0 rfl (lv_at hl 1 rfl) ?_
  refine lv_i2l hx hb dX12_isStir_1 rfl ?_
  refine lv_lconst (v := (0 : Int64)) hx hb dX12_isStir_2 (by decide) ?_
  refine lv_aload_n hx hb dX12_isStir_3 rfl (lv_at hl 0 rfl) ?_
  refine va_get (D := D) (ci := 12) (v := .int i_p0_stirs) (C := RX12) (T := TX12) (N := 37) hx hb hts inX12_isStir_X12 hown hK hP 0 rfl rfl 3 (by decide) (hts _ mwX12_isStir_1) (fun _ h9 => h9) rfl dX12_isStir_4 ?_
  refine lv_iconst (v := (1 : Int32)) hx hb dX12_isStir_7 (by decide) ?_
  refine lv_isub hx hb dX12_isStir_8 ?_
  refine lv_i2l hx hb dX12_isStir_9 rfl ?_
  have hq := bd1_s hf
  clear hf
  obtain ⟨z1, hcall, hf⟩ := hq
  refine gcI (ws' := [(a_p0, .inr (12, [.ref a_p0_st, .ref a_p0_isKept, .int i_p0_seats, .int i_p0_stirs, .ref a_p0_brings, .ref a_p0_need, .ref a_p0_draft, .int i_p0_dSeats, .int i_p0_dStirs, .ref a_p0_dStir, .ref a_p0_dNeed, .int i_p0_told, .int i_p0_highest, .ref a_p0_tape, .int i_p0_taped, .int i_p0_pos, .int i_p0_from, .int i_p0_sort, .int i_p0_value, .int i_p0_fault, .int i_p0_wrongAt, .ref a_p0_places, .ref a_p0_stirred, .ref a_p0_ways, .ref a_p0_waysThen, .ref a_p0_stays, .ref a_p0_fewest, .ref a_p0_bowls, .ref a_p0_has, .ref a_p0_goesOn, .ref a_p0_isThere, .ref a_p0_isThereThen, .ref a_p0_bestRow, .ref a_p0_lanes, .ref a_p0_sizes, .ref a_p0_cells, .int i_p0_torn]))]) (va_runS (As := [.long (x1).toInt64, .long (0 : Int64), .long ((i_p0_stirs - (1 : Int32))).toInt64]) (rest := []) ⟨hx, hb, hml, hown, hts⟩ (c_X12_in (l := l) (D := D) (G := G) (sz := H.size) (x0 := (x1).toInt64) (x2 := (0 : Int64)) (x4 := ((i_p0_stirs - (1 : Int32))).toInt64) (r := z1) (hf := hcall)) (va_cwS 3 hts gX12_isStir_X12_in rfl rfl rfl (by decide +kernel) ⟨Nat.le_of_ble_eq_true rfl, Nat.le_of_ble_eq_true rfl⟩) (preG_S (hP.sub [] rfl) (hD.sub [] rfl rfl) hK) rfl rfl hl.1 rfl (lv_room (Nat.le_of_ble_eq_true rfl)) dX12_isStir_10 ⟨Nat.le_of_ble_eq_true rfl, Nat.le_of_ble_eq_true rfl⟩) hP hD hS hA [] [0] [0] rfl rfl rfl (by decide) rfl rfl rfl (fun H locs hP hD hS => ?_)
  clear hcall
  have hz := ck_c hf
  replace hf := ck_r hf
  obtain rfl := ou1 hf
  rw [hQ]
  exact W.zret hx hb hr (zB_n hz) (fun t ht hW => ⟨⟨_, (), rfl, rfl, by rw [ht]; exact hP, va_K.moved hW.alike hK, hD⟩, hS.F ht⟩) hS.2.2 dX12_isStir_13

noncomputable def f_X12_rule (i_p0_seats : Int32) (i_p0_stirs : Int32) (v_p0_st : (Nat → Int32)) (x1 : Int32) : Option (Int32) := (if x1 = (0 : Int32) then (some i_p0_seats) else (if x1 = (1 : Int32) then (some i_p0_stirs) else (if x1 = (2 : Int32) then (ck (ixB (8 : Int32) 152) (some (v_p0_st ((8 : Int32)).toNatClampNeg))) else (if x1 = (3 : Int32) then (ck (ixB (30 : Int32) 152) (some (v_p0_st ((30 : Int32)).toNatClampNeg))) else (if x1 = (4 : Int32) then (ck (ixB (7 : Int32) 152) (some (v_p0_st ((7 : Int32)).toNatClampNeg))) else (some (-1 : Int32)))))))
abbrev rm_X12_rule : Room := { frames := 0, cells := 0, slots := 0, locals := 0 }
theorem inX12_rule_X12 : ∀ w ∈ wsX120, w ∈ wsX12_rule := by decide +kernel
theorem mwX12_rule_1 : Cond.fieldLink RX12 100 "LadleKingsModel" "seats" "I" ∈ wsX12_rule := by decide +kernel
theorem mwX12_rule_2 : Cond.fieldLink RX12 103 "LadleKingsModel" "stirs" "I" ∈ wsX12_rule := by decide +kernel
theorem mwX12_rule_3 : Cond.fieldLink RX12 7 "LadleKingsModel" "st" "[I" ∈ wsX12_rule := by decide +kernel
set_option maxHeartbeats 8000000 in
set_option maxRecDepth 100000 in
theorem c_X12_rule (l : Launch) (D : va_G) (G : Nat → ClassId) (sz : Nat) (a_p0 : Nat) (a_p0_st : Nat) (a_p0_isKept : Nat) (a_p0_brings : Nat) (a_p0_need : Nat) (a_p0_draft : Nat) (a_p0_dStir : Nat) (a_p0_dNeed : Nat) (a_p0_tape : Nat) (a_p0_places : Nat) (a_p0_stirred : Nat) (a_p0_ways : Nat) (a_p0_waysThen : Nat) (a_p0_stays : Nat) (a_p0_fewest : Nat) (a_p0_bowls : Nat) (a_p0_has : Nat) (a_p0_goesOn : Nat) (a_p0_isThere : Nat) (a_p0_isThereThen : Nat) (a_p0_bestRow : Nat) (a_p0_lanes : Nat) (a_p0_sizes : Nat) (a_p0_cells : Nat) (i_p0_seats : Int32) (i_p0_stirs : Int32) (i_p0_dSeats : Int32) (i_p0_dStirs : Int32) (i_p0_told : Int32) (i_p0_highest : Int32) (i_p0_taped : Int32) (i_p0_pos : Int32) (i_p0_from : Int32) (i_p0_sort : Int32) (i_p0_value : Int32) (i_p0_fault : Int32) (i_p0_wrongAt : Int32) (i_p0_torn : Int32) (v_p0_st : (Nat → Int32)) (x1 : Int32) (r : Int32) (hf : f_X12_rule i_p0_seats i_p0_stirs v_p0_st x1 = some r) : Met l yX12_rule wsX12_rule rm_X12_rule (pcG D G [.ref a_p0, .int x1] sz [(a_p0, .inr (12, [.ref a_p0_st, .ref a_p0_isKept, .int i_p0_seats, .int i_p0_stirs, .ref a_p0_brings, .ref a_p0_need, .ref a_p0_draft, .int i_p0_dSeats, .int i_p0_dStirs, .ref a_p0_dStir, .ref a_p0_dNeed, .int i_p0_told, .int i_p0_highest, .ref a_p0_tape, .int i_p0_taped, .int i_p0_pos, .int i_p0_from, .int i_p0_sort, .int i_p0_value, .int i_p0_fault, .int i_p0_wrongAt, .ref a_p0_places, .ref a_p0_stirred, .ref a_p0_ways, .ref a_p0_waysThen, .ref a_p0_stays, .ref a_p0_fewest, .ref a_p0_bowls, .ref a_p0_has, .ref a_p0_goesOn, .ref a_p0_isThere, .ref a_p0_isThereThen, .ref a_p0_bestRow, .ref a_p0_lanes, .ref a_p0_sizes, .ref a_p0_cells, .int i_p0_torn])), (a_p0_st, .inl (G 1, 152, .inl v_p0_st))]) (qcI D G r [(a_p0, .inr (12, [.ref a_p0_st, .ref a_p0_isKept, .int i_p0_seats, .int i_p0_stirs, .ref a_p0_brings, .ref a_p0_need, .ref a_p0_draft, .int i_p0_dSeats, .int i_p0_dStirs, .ref a_p0_dStir, .ref a_p0_dNeed, .int i_p0_told, .int i_p0_highest, .ref a_p0_tape, .int i_p0_taped, .int i_p0_pos, .int i_p0_from, .int i_p0_sort, .int i_p0_value, .int i_p0_fault, .int i_p0_wrongAt, .ref a_p0_places, .ref a_p0_stirred, .ref a_p0_ways, .ref a_p0_waysThen, .ref a_p0_stays, .ref a_p0_fewest, .ref a_p0_bowls, .ref a_p0_has, .ref a_p0_goesOn, .ref a_p0_isThere, .ref a_p0_isThereThen, .ref a_p0_bestRow, .ref a_p0_lanes, .ref a_p0_sizes, .ref a_p0_cells, .int i_p0_torn])), (a_p0_st, .inl (G 1, 152, .inl v_p0_st))] (va_A [(a_p0, .inr (12, [.ref a_p0_st, .ref a_p0_isKept, .int i_p0_seats, .int i_p0_stirs, .ref a_p0_brings, .ref a_p0_need, .ref a_p0_draft, .int i_p0_dSeats, .int i_p0_dStirs, .ref a_p0_dStir, .ref a_p0_dNeed, .int i_p0_told, .int i_p0_highest, .ref a_p0_tape, .int i_p0_taped, .int i_p0_pos, .int i_p0_from, .int i_p0_sort, .int i_p0_value, .int i_p0_fault, .int i_p0_wrongAt, .ref a_p0_places, .ref a_p0_stirred, .ref a_p0_ways, .ref a_p0_waysThen, .ref a_p0_stays, .ref a_p0_fewest, .ref a_p0_bowls, .ref a_p0_has, .ref a_p0_goesOn, .ref a_p0_isThere, .ref a_p0_isThereThen, .ref a_p0_bestRow, .ref a_p0_lanes, .ref a_p0_sizes, .ref a_p0_cells, .int i_p0_torn])), (a_p0_st, .inl (G 1, 152, .inl v_p0_st))] sz)) 0 0 (va_A [(a_p0, .inr (12, [.ref a_p0_st, .ref a_p0_isKept, .int i_p0_seats, .int i_p0_stirs, .ref a_p0_brings, .ref a_p0_need, .ref a_p0_draft, .int i_p0_dSeats, .int i_p0_dStirs, .ref a_p0_dStir, .ref a_p0_dNeed, .int i_p0_told, .int i_p0_highest, .ref a_p0_tape, .int i_p0_taped, .int i_p0_pos, .int i_p0_from, .int i_p0_sort, .int i_p0_value, .int i_p0_fault, .int i_p0_wrongAt, .ref a_p0_places, .ref a_p0_stirred, .ref a_p0_ways, .ref a_p0_waysThen, .ref a_p0_stays, .ref a_p0_fewest, .ref a_p0_bowls, .ref a_p0_has, .ref a_p0_goesOn, .ref a_p0_isThere, .ref a_p0_isThereThen, .ref a_p0_bestRow, .ref a_p0_lanes, .ref a_p0_sizes, .ref a_p0_cells, .int i_p0_torn])), (a_p0_st, .inl (G 1, 152, .inl v_p0_st))] sz) := by
  refine Met.ofW (cc := cX12_rule) (maxL := 2) (ret := (some .int)) (by decide) rfl ?_
  intro p e s m args below meth c s₁ B hml hv
  obtain ⟨rfl, hsz, hP, hK, hD0⟩ := hv
  have hx := B.exec
  have hb := B.bytes
  have hr := B.returns
  have hts := atoms_spec (ws := wsX12_rule) B.pre
  have hown : s.vm.findClass RX12 = some m.cls := findClass_of_methodNamed B.named
  have hlocks := B.notSynchronized
  subst hsz
  have hD := hD0.self (sz := s.heap.size)
  generalize hAe : va_A [(a_p0, .inr (12, [.ref a_p0_st, .ref a_p0_isKept, .int i_p0_seats, .int i_p0_stirs, .ref a_p0_brings, .ref a_p0_need, .ref a_p0_draft, .int i_p0_dSeats, .int i_p0_dStirs, .ref a_p0_dStir, .ref a_p0_dNeed, .int i_p0_told, .int i_p0_highest, .ref a_p0_tape, .int i_p0_taped, .int i_p0_pos, .int i_p0_from, .int i_p0_sort, .int i_p0_value, .int i_p0_fault, .int i_p0_wrongAt, .ref a_p0_places, .ref a_p0_stirred, .ref a_p0_ways, .ref a_p0_waysThen, .ref a_p0_stays, .ref a_p0_fewest, .ref a_p0_bowls, .ref a_p0_has, .ref a_p0_goesOn, .ref a_p0_isThere, .ref a_p0_isThereThen, .ref a_p0_bestRow, .ref a_p0_lanes, .ref a_p0_sizes, .ref a_p0_cells, .int i_p0_torn])), (a_p0_st, .inl (G 1, 152, .inl v_p0_st))] s.heap.size = A at hD ⊢
  have hA : ∀ q : Nat, s.heap.size ≤ q → A q := fun q h => by rw [← hAe]; exact Or.inr h
  clear hAe hD0
  have hS : va_S A s.heap s.heap [] := va_S.rf
  have hl := lv_entry ([.ref a_p0, .int x1]) (n := 2) (Nat.le_of_ble_eq_true rfl)
  rw [lg_entry_eq]
  generalize (lg_sl ([.ref a_p0, .int x1]) ++ List.replicate (2 - (lg_sl ([.ref a_p0, .int x1])).length) Slot.unset).toArray = ls at hl ⊢
  have hl : lv_has ls 2 [(0, .ref a_p0), (1, .int x1)] := hl
  refine W_nameQ (fun Q hQ => ?_)
  obtain ⟨H, hH⟩ : ∃ H, H = s.heap := ⟨_, rfl⟩
  replace hS : va_S A s.heap H [] := by rw [hH]; exact hS
  replace hP : va_P D vwCl [(a_p0, .inr (12, [.ref a_p0_st, .ref a_p0_isKept, .int i_p0_seats, .int i_p0_stirs, .ref a_p0_brings, .ref a_p0_need, .ref a_p0_draft, .int i_p0_dSeats, .int i_p0_dStirs, .ref a_p0_dStir, .ref a_p0_dNeed, .int i_p0_told, .int i_p0_highest, .ref a_p0_tape, .int i_p0_taped, .int i_p0_pos, .int i_p0_from, .int i_p0_sort, .int i_p0_value, .int i_p0_fault, .int i_p0_wrongAt, .ref a_p0_places, .ref a_p0_stirred, .ref a_p0_ways, .ref a_p0_waysThen, .ref a_p0_stays, .ref a_p0_fewest, .ref a_p0_bowls, .ref a_p0_has, .ref a_p0_goesOn, .ref a_p0_isThere, .ref a_p0_isThereThen, .ref a_p0_bestRow, .ref a_p0_lanes, .ref a_p0_sizes, .ref a_p0_cells, .int i_p0_torn])), (a_p0_st, .inl (G 1, 152, .inl v_p0_st))] H := by rw [hH]; exact hP
  rw [← hH]
  clear hH
  unfold f_X12_rule at hf
  refine lv_iload_n hx hb dX12_rule_0 rfl (lv_at hl 1 rfl) ?_
  rcases Decidable.em (x1 = (0 : Int32)) with hk1 | hk1
  ·
    replace hf := ite_t hk1 hf
    refine lv_tableIn (tgt := 36) hx hb dX12_rule_1 (by rw [hk1]; decide) (by rw [hk1]; decide) (by rw [hk1]; rfl) (by decide) ?_
    clear hk1
    refine lv_aload_n hx hb dX12_rule_36 rfl (lv_at hl 0 rfl) ?_
    refine va_get (D := D) (ci := 12) (v := .int i_p0_seats) (C := RX12) (T := TX12) (N := 37) hx hb hts inX12_rule_X12 hown hK hP 0 rfl rfl 2 (by decide) (hts _ mwX12_rule_1) (fun _ h9 => h9) rfl dX12_rule_37 ?_
    obtain rfl := ou1 hf
    rw [hQ]
    exact W.iret hx hb hr (fun t ht hW => ⟨⟨_, (), rfl, rfl, by rw [ht]; exact hP, va_K.moved hW.alike hK, hD⟩, hS.F ht⟩) hS.2.2 dX12_rule_40
  replace hf := ite_f hk1 hf
  rcases Decidable.em (x1 = (1 : Int32)) with hk2 | hk2
  ·
    replace hf := ite_t hk2 hf
    refine lv_tableIn (tgt := 41) hx hb dX12_rule_1 (by rw [hk2]; decide) (by rw [hk2]; decide) (by rw [hk2]; rfl) (by decide) ?_
    clear hk2 hk1
    refine lv_aload_n hx hb dX12_rule_41 rfl (lv_at hl 0 rfl) ?_
    refine va_get (D := D) (ci := 12) (v := .int i_p0_stirs) (C := RX12) (T := TX12) (N := 37) hx hb hts inX12_rule_X12 hown hK hP 0 rfl rfl 3 (by decide) (hts _ mwX12_rule_2) (fun _ h9 => h9) rfl dX12_rule_42 ?_
    obtain rfl := ou1 hf
    rw [hQ]
    exact W.iret hx hb hr (fun t ht hW => ⟨⟨_, (), rfl, rfl, by rw [ht]; exact hP, va_K.moved hW.alike hK, hD⟩, hS.F ht⟩) hS.2.2 dX12_rule_45
  replace hf := ite_f hk2 hf
  rcases Decidable.em (x1 = (2 : Int32)) with hk3 | hk3
  ·
    replace hf := ite_t hk3 hf
    refine lv_tableIn (tgt := 46) hx hb dX12_rule_1 (by rw [hk3]; decide) (by rw [hk3]; decide) (by rw [hk3]; rfl) (by decide) ?_
    clear hk3 hk1 hk2
    refine lv_aload_n hx hb dX12_rule_46 rfl (lv_at hl 0 rfl) ?_
    refine va_get (D := D) (ci := 12) (v := .ref a_p0_st) (C := RX12) (T := TX12) (N := 37) hx hb hts inX12_rule_X12 hown hK hP 0 rfl rfl 0 (by decide) (hts _ mwX12_rule_3) (fun _ h9 => h9) rfl dX12_rule_47 ?_
    refine lv_bipush (v := (8 : Int32)) hx hb dX12_rule_50 (by decide) ?_
    have hc := ck_c hf
    replace hf := ck_r hf
    refine va_iald hx hb hK hP 1 1 rfl rfl (ixB_in hc) dX12_rule_52 ?_
    clear hc
    obtain rfl := ou1 hf
    rw [hQ]
    exact W.iret hx hb hr (fun t ht hW => ⟨⟨_, (), rfl, rfl, by rw [ht]; exact hP, va_K.moved hW.alike hK, hD⟩, hS.F ht⟩) hS.2.2 dX12_rule_53
  replace hf := ite_f hk3 hf
  rcases Decidable.em (x1 = (3 : Int32)) with hk4 | hk4
  ·
    replace hf := ite_t hk4 hf
    refine lv_tableIn (tgt := 54) hx hb dX12_rule_1 (by rw [hk4]; decide) (by rw [hk4]; decide) (by rw [hk4]; rfl) (by decide) ?_
    clear hk4 hk1 hk2 hk3
    refine lv_aload_n hx hb dX12_rule_54 rfl (lv_at hl 0 rfl) ?_
    refine va_get (D := D) (ci := 12) (v := .ref a_p0_st) (C := RX12) (T := TX12) (N := 37) hx hb hts inX12_rule_X12 hown hK hP 0 rfl rfl 0 (by decide) (hts _ mwX12_rule_3) (fun _ h9 => h9) rfl dX12_rule_55 ?_
    refine lv_bipush (v := (30 : Int32)) hx hb dX12_rule_58 (by decide) ?_
    have hc := ck_c hf
    replace hf := ck_r hf
    refine va_iald hx hb hK hP 1 1 rfl rfl (ixB_in hc) dX12_rule_60 ?_
    clear hc
    obtain rfl := ou1 hf
    rw [hQ]
    exact W.iret hx hb hr (fun t ht hW => ⟨⟨_, (), rfl, rfl, by rw [ht]; exact hP, va_K.moved hW.alike hK, hD⟩, hS.F ht⟩) hS.2.2 dX12_rule_61
  replace hf := ite_f hk4 hf
  rcases Decidable.em (x1 = (4 : Int32)) with hk5 | hk5
  ·
    replace hf := ite_t hk5 hf
    refine lv_tableIn (tgt := 62) hx hb dX12_rule_1 (by rw [hk5]; decide) (by rw [hk5]; decide) (by rw [hk5]; rfl) (by decide) ?_
    clear hk5 hk1 hk2 hk3 hk4
    refine lv_aload_n hx hb dX12_rule_62 rfl (lv_at hl 0 rfl) ?_
    refine va_get (D := D) (ci := 12) (v := .ref a_p0_st) (C := RX12) (T := TX12) (N := 37) hx hb hts inX12_rule_X12 hown hK hP 0 rfl rfl 0 (by decide) (hts _ mwX12_rule_3) (fun _ h9 => h9) rfl dX12_rule_63 ?_
    refine lv_bipush (v := (7 : Int32)) hx hb dX12_rule_66 (by decide) ?_
    have hc := ck_c hf
    replace hf := ck_r hf
    refine va_iald hx hb hK hP 1 1 rfl rfl (ixB_in hc) dX12_rule_68 ?_
    clear hc
    obtain rfl := ou1 hf
    rw [hQ]
    exact W.iret hx hb hr (fun t ht hW => ⟨⟨_, (), rfl, rfl, by rw [ht]; exact hP, va_K.moved hW.alike hK, hD⟩, hS.F ht⟩) hS.2.2 dX12_rule_69
  replace hf := ite_f hk5 hf
  have thk1 := tsw_ne hk1
  have thk2 := tsw_ne hk2
  have thk3 := tsw_ne hk3
  have thk4 := tsw_ne hk4
  have thk5 := tsw_ne hk5
  rw [show ((0 : Int32)).toInt = 0 from by decide] at thk1
  rw [show ((1 : Int32)).toInt = 1 from by decide] at thk2
  rw [show ((2 : Int32)).toInt = 2 from by decide] at thk3
  rw [show ((3 : Int32)).toInt = 3 from by decide] at thk4
  rw [show ((4 : Int32)).toInt = 4 from by decide] at thk5
  refine lv_tableOut (tgt := 70) hx hb dX12_rule_1 (by omega) (by decide) ?_
  clear thk1 thk2 thk3 thk4 thk5 hk1 hk2 hk3 hk4 hk5
  refine lv_iconst (v := (-1 : Int32)) hx hb dX12_rule_70 (by decide) ?_
  obtain rfl := ou1 hf
  rw [hQ]
  exact W.iret hx hb hr (fun t ht hW => ⟨⟨_, (), rfl, rfl, by rw [ht]; exact hP, va_K.moved hW.alike hK, hD⟩, hS.F ht⟩) hS.2.2 dX12_rule_71

noncomputable def f_X12_pot (i_p0_seats : Int32) (v_p0_st : (Nat → Int32)) (x1 : Int32) : Option (Int32) := (bd1 (f_X12_isSeat i_p0_seats x1) (fun (z1 : Int32) => (if z1 = 0 then (some (-1 : Int32)) else (ck (ixB x1 152) (some (v_p0_st (x1).toNatClampNeg))))))
abbrev rm_X12_pot : Room := { frames := 2, cells := 0, slots := 0, locals := 46 }
theorem inX12_pot_X12 : ∀ w ∈ wsX120, w ∈ wsX12_pot := by decide +kernel
theorem mwX12_pot_1 : Cond.fieldLink RX12 7 "LadleKingsModel" "st" "[I" ∈ wsX12_pot := by decide +kernel
set_option maxHeartbeats 8000000 in
set_option maxRecDepth 100000 in
theorem c_X12_pot (l : Launch) (D : va_G) (G : Nat → ClassId) (sz : Nat) (a_p0 : Nat) (a_p0_st : Nat) (a_p0_isKept : Nat) (a_p0_brings : Nat) (a_p0_need : Nat) (a_p0_draft : Nat) (a_p0_dStir : Nat) (a_p0_dNeed : Nat) (a_p0_tape : Nat) (a_p0_places : Nat) (a_p0_stirred : Nat) (a_p0_ways : Nat) (a_p0_waysThen : Nat) (a_p0_stays : Nat) (a_p0_fewest : Nat) (a_p0_bowls : Nat) (a_p0_has : Nat) (a_p0_goesOn : Nat) (a_p0_isThere : Nat) (a_p0_isThereThen : Nat) (a_p0_bestRow : Nat) (a_p0_lanes : Nat) (a_p0_sizes : Nat) (a_p0_cells : Nat) (i_p0_seats : Int32) (i_p0_stirs : Int32) (i_p0_dSeats : Int32) (i_p0_dStirs : Int32) (i_p0_told : Int32) (i_p0_highest : Int32) (i_p0_taped : Int32) (i_p0_pos : Int32) (i_p0_from : Int32) (i_p0_sort : Int32) (i_p0_value : Int32) (i_p0_fault : Int32) (i_p0_wrongAt : Int32) (i_p0_torn : Int32) (v_p0_st : (Nat → Int32)) (x1 : Int32) (r : Int32) (hf : f_X12_pot i_p0_seats v_p0_st x1 = some r) : Met l yX12_pot wsX12_pot rm_X12_pot (pcG D G [.ref a_p0, .int x1] sz [(a_p0, .inr (12, [.ref a_p0_st, .ref a_p0_isKept, .int i_p0_seats, .int i_p0_stirs, .ref a_p0_brings, .ref a_p0_need, .ref a_p0_draft, .int i_p0_dSeats, .int i_p0_dStirs, .ref a_p0_dStir, .ref a_p0_dNeed, .int i_p0_told, .int i_p0_highest, .ref a_p0_tape, .int i_p0_taped, .int i_p0_pos, .int i_p0_from, .int i_p0_sort, .int i_p0_value, .int i_p0_fault, .int i_p0_wrongAt, .ref a_p0_places, .ref a_p0_stirred, .ref a_p0_ways, .ref a_p0_waysThen, .ref a_p0_stays, .ref a_p0_fewest, .ref a_p0_bowls, .ref a_p0_has, .ref a_p0_goesOn, .ref a_p0_isThere, .ref a_p0_isThereThen, .ref a_p0_bestRow, .ref a_p0_lanes, .ref a_p0_sizes, .ref a_p0_cells, .int i_p0_torn])), (a_p0_st, .inl (G 1, 152, .inl v_p0_st))]) (qcI D G r [(a_p0, .inr (12, [.ref a_p0_st, .ref a_p0_isKept, .int i_p0_seats, .int i_p0_stirs, .ref a_p0_brings, .ref a_p0_need, .ref a_p0_draft, .int i_p0_dSeats, .int i_p0_dStirs, .ref a_p0_dStir, .ref a_p0_dNeed, .int i_p0_told, .int i_p0_highest, .ref a_p0_tape, .int i_p0_taped, .int i_p0_pos, .int i_p0_from, .int i_p0_sort, .int i_p0_value, .int i_p0_fault, .int i_p0_wrongAt, .ref a_p0_places, .ref a_p0_stirred, .ref a_p0_ways, .ref a_p0_waysThen, .ref a_p0_stays, .ref a_p0_fewest, .ref a_p0_bowls, .ref a_p0_has, .ref a_p0_goesOn, .ref a_p0_isThere, .ref a_p0_isThereThen, .ref a_p0_bestRow, .ref a_p0_lanes, .ref a_p0_sizes, .ref a_p0_cells, .int i_p0_torn])), (a_p0_st, .inl (G 1, 152, .inl v_p0_st))] (va_A [(a_p0, .inr (12, [.ref a_p0_st, .ref a_p0_isKept, .int i_p0_seats, .int i_p0_stirs, .ref a_p0_brings, .ref a_p0_need, .ref a_p0_draft, .int i_p0_dSeats, .int i_p0_dStirs, .ref a_p0_dStir, .ref a_p0_dNeed, .int i_p0_told, .int i_p0_highest, .ref a_p0_tape, .int i_p0_taped, .int i_p0_pos, .int i_p0_from, .int i_p0_sort, .int i_p0_value, .int i_p0_fault, .int i_p0_wrongAt, .ref a_p0_places, .ref a_p0_stirred, .ref a_p0_ways, .ref a_p0_waysThen, .ref a_p0_stays, .ref a_p0_fewest, .ref a_p0_bowls, .ref a_p0_has, .ref a_p0_goesOn, .ref a_p0_isThere, .ref a_p0_isThereThen, .ref a_p0_bestRow, .ref a_p0_lanes, .ref a_p0_sizes, .ref a_p0_cells, .int i_p0_torn])), (a_p0_st, .inl (G 1, 152, .inl v_p0_st))] sz)) 0 0 (va_A [(a_p0, .inr (12, [.ref a_p0_st, .ref a_p0_isKept, .int i_p0_seats, .int i_p0_stirs, .ref a_p0_brings, .ref a_p0_need, .ref a_p0_draft, .int i_p0_dSeats, .int i_p0_dStirs, .ref a_p0_dStir, .ref a_p0_dNeed, .int i_p0_told, .int i_p0_highest, .ref a_p0_tape, .int i_p0_taped, .int i_p0_pos, .int i_p0_from, .int i_p0_sort, .int i_p0_value, .int i_p0_fault, .int i_p0_wrongAt, .ref a_p0_places, .ref a_p0_stirred, .ref a_p0_ways, .ref a_p0_waysThen, .ref a_p0_stays, .ref a_p0_fewest, .ref a_p0_bowls, .ref a_p0_has, .ref a_p0_goesOn, .ref a_p0_isThere, .ref a_p0_isThereThen, .ref a_p0_bestRow, .ref a_p0_lanes, .ref a_p0_sizes, .ref a_p0_cells, .int i_p0_torn])), (a_p0_st, .inl (G 1, 152, .inl v_p0_st))] sz) := by
  refine Met.ofW (cc := cX12_pot) (maxL := 2) (ret := (some .int)) (by decide) rfl ?_
  intro p e s m args below meth c s₁ B hml hv
  obtain ⟨rfl, hsz, hP, hK, hD0⟩ := hv
  have hx := B.exec
  have hb := B.bytes
  have hr := B.returns
  have hts := atoms_spec (ws := wsX12_pot) B.pre
  have hown : s.vm.findClass RX12 = some m.cls := findClass_of_methodNamed B.named
  have hlocks := B.notSynchronized
  subst hsz
  have hD := hD0.self (sz := s.heap.size)
  generalize hAe : va_A [(a_p0, .inr (12, [.ref a_p0_st, .ref a_p0_isKept, .int i_p0_seats, .int i_p0_stirs, .ref a_p0_brings, .ref a_p0_need, .ref a_p0_draft, .int i_p0_dSeats, .int i_p0_dStirs, .ref a_p0_dStir, .ref a_p0_dNeed, .int i_p0_told, .int i_p0_highest, .ref a_p0_tape, .int i_p0_taped, .int i_p0_pos, .int i_p0_from, .int i_p0_sort, .int i_p0_value, .int i_p0_fault, .int i_p0_wrongAt, .ref a_p0_places, .ref a_p0_stirred, .ref a_p0_ways, .ref a_p0_waysThen, .ref a_p0_stays, .ref a_p0_fewest, .ref a_p0_bowls, .ref a_p0_has, .ref a_p0_goesOn, .ref a_p0_isThere, .ref a_p0_isThereThen, .ref a_p0_bestRow, .ref a_p0_lanes, .ref a_p0_sizes, .ref a_p0_cells, .int i_p0_torn])), (a_p0_st, .inl (G 1, 152, .inl v_p0_st))] s.heap.size = A at hD ⊢
  have hA : ∀ q : Nat, s.heap.size ≤ q → A q := fun q h => by rw [← hAe]; exact Or.inr h
  clear hAe hD0
  have hS : va_S A s.heap s.heap [] := va_S.rf
  have hl := lv_entry ([.ref a_p0, .int x1]) (n := 2) (Nat.le_of_ble_eq_true rfl)
  rw [lg_entry_eq]
  generalize (lg_sl ([.ref a_p0, .int x1]) ++ List.replicate (2 - (lg_sl ([.ref a_p0, .int x1])).length) Slot.unset).toArray = ls at hl ⊢
  have hl : lv_has ls 2 [(0, .ref a_p0), (1, .int x1)] := hl
  refine W_nameQ (fun Q hQ => ?_)
  obtain ⟨H, hH⟩ : ∃ H, H = s.heap := ⟨_, rfl⟩
  replace hS : va_S A s.heap H [] := by rw [hH]; exact hS
  replace hP : va_P D vwCl [(a_p0, .inr (12, [.ref a_p0_st, .ref a_p0_isKept, .int i_p0_seats, .int i_p0_stirs, .ref a_p0_brings, .ref a_p0_need, .ref a_p0_draft, .int i_p0_dSeats, .int i_p0_dStirs, .ref a_p0_dStir, .ref a_p0_dNeed, .int i_p0_told, .int i_p0_highest, .ref a_p0_tape, .int i_p0_taped, .int i_p0_pos, .int i_p0_from, .int i_p0_sort, .int i_p0_value, .int i_p0_fault, .int i_p0_wrongAt, .ref a_p0_places, .ref a_p0_stirred, .ref a_p0_ways, .ref a_p0_waysThen, .ref a_p0_stays, .ref a_p0_fewest, .ref a_p0_bowls, .ref a_p0_has, .ref a_p0_goesOn, .ref a_p0_isThere, .ref a_p0_isThereThen, .ref a_p0_bestRow, .ref a_p0_lanes, .ref a_p0_sizes, .ref a_p0_cells, .int i_p0_torn])), (a_p0_st, .inl (G 1, 152, .inl v_p0_st))] H := by rw [hH]; exact hP
  rw [← hH]
  clear hH
  unfold f_X12_pot at hf
  refine lv_aload_n hx hb dX12_pot_0 rfl (lv_at hl 0 rfl) ?_
  refine lv_iload_n hx hb dX12_pot_1 rfl (lv_at hl 1 rfl) ?_
  have hq := bd1_s hf
  clear hf
  obtain ⟨z1, hcall, hf⟩ := hq
  refine gcI (ws' := [(a_p0, .inr (12, [.ref a_p0_st, .ref a_p0_isKept, .int i_p0_seats, .int i_p0_stirs, .ref a_p0_brings, .ref a_p0_need, .ref a_p0_draft, .int i_p0_dSeats, .int i_p0_dStirs, .ref a_p0_dStir, .ref a_p0_dNeed, .int i_p0_told, .int i_p0_highest, .ref a_p0_tape, .int i_p0_taped, .int i_p0_pos, .int i_p0_from, .int i_p0_sort, .int i_p0_value, .int i_p0_fault, .int i_p0_wrongAt, .ref a_p0_places, .ref a_p0_stirred, .ref a_p0_ways, .ref a_p0_waysThen, .ref a_p0_stays, .ref a_p0_fewest, .ref a_p0_bowls, .ref a_p0_has, .ref a_p0_goesOn, .ref a_p0_isThere, .ref a_p0_isThereThen, .ref a_p0_bestRow, .ref a_p0_lanes, .ref a_p0_sizes, .ref a_p0_cells, .int i_p0_torn])), (a_p0_st, .inl (G 1, 152, .inl v_p0_st))]) (va_runV (As := [.int x1]) (rest := []) ⟨hx, hb, hml, hown, hts⟩ (c_X12_isSeat (l := l) (D := D) (G := G) (sz := H.size) (a_p0 := a_p0) (a_p0_st := a_p0_st) (a_p0_isKept := a_p0_isKept) (a_p0_brings := a_p0_brings) (a_p0_need := a_p0_need) (a_p0_draft := a_p0_draft) (a_p0_dStir := a_p0_dStir) (a_p0_dNeed := a_p0_dNeed) (a_p0_tape := a_p0_tape) (a_p0_places := a_p0_places) (a_p0_stirred := a_p0_stirred) (a_p0_ways := a_p0_ways) (a_p0_waysThen := a_p0_waysThen) (a_p0_stays := a_p0_stays) (a_p0_fewest := a_p0_fewest) (a_p0_bowls := a_p0_bowls) (a_p0_has := a_p0_has) (a_p0_goesOn := a_p0_goesOn) (a_p0_isThere := a_p0_isThere) (a_p0_isThereThen := a_p0_isThereThen) (a_p0_bestRow := a_p0_bestRow) (a_p0_lanes := a_p0_lanes) (a_p0_sizes := a_p0_sizes) (a_p0_cells := a_p0_cells) (i_p0_seats := i_p0_seats) (i_p0_stirs := i_p0_stirs) (i_p0_dSeats := i_p0_dSeats) (i_p0_dStirs := i_p0_dStirs) (i_p0_told := i_p0_told) (i_p0_highest := i_p0_highest) (i_p0_taped := i_p0_taped) (i_p0_pos := i_p0_pos) (i_p0_from := i_p0_from) (i_p0_sort := i_p0_sort) (i_p0_value := i_p0_value) (i_p0_fault := i_p0_fault) (i_p0_wrongAt := i_p0_wrongAt) (i_p0_torn := i_p0_torn) (x1 := x1) (r := z1) (hf := hcall)) (cwV 1 hts gX12_pot_X12_isSeat rfl rfl rfl (by decide +kernel) ⟨Nat.le_of_ble_eq_true rfl, Nat.le_of_ble_eq_true rfl⟩) (preG_V (ci := 12) (hP.sub [0] rfl) (hD.sub [0] rfl rfl) hK rfl rfl) rfl rfl hl.1 rfl (lv_room (Nat.le_of_ble_eq_true rfl)) dX12_pot_2 ⟨Nat.le_of_ble_eq_true rfl, Nat.le_of_ble_eq_true rfl⟩) hP hD hS hA [0] [1] [1, 0] rfl rfl rfl (by decide) rfl rfl rfl (fun H locs hP hD hS => ?_)
  clear hcall
  refine lv_if_eq (tgt := 17) hx hb dX12_pot_5 (by decide) (fun cc => ?_) (fun cc => ?_)
  ·
    replace hf := ite_t cc hf
    clear cc
    refine lv_iconst (v := (-1 : Int32)) hx hb dX12_pot_17 (by decide) ?_
    obtain rfl := ou1 hf
    rw [hQ]
    exact W.iret hx hb hr (fun t ht hW => ⟨⟨_, (), rfl, rfl, by rw [ht]; exact hP, va_K.moved hW.alike hK, hD⟩, hS.F ht⟩) hS.2.2 dX12_pot_18
  ·
    replace hf := ite_f cc hf
    clear cc
    refine lv_aload_n hx hb dX12_pot_8 rfl (lv_at hl 0 rfl) ?_
    refine va_get (D := D) (ci := 12) (v := .ref a_p0_st) (C := RX12) (T := TX12) (N := 37) hx hb hts inX12_pot_X12 hown hK hP 0 rfl rfl 0 (by decide) (hts _ mwX12_pot_1) (fun _ h9 => h9) rfl dX12_pot_9 ?_
    refine lv_iload_n hx hb dX12_pot_12 rfl (lv_at hl 1 rfl) ?_
    have hc := ck_c hf
    replace hf := ck_r hf
    refine va_iald hx hb hK hP 1 1 rfl rfl (ixB_in hc) dX12_pot_13 ?_
    clear hc
    refine lv_goto (tgt := 18) hx hb dX12_pot_14 (by decide) ?_
    obtain rfl := ou1 hf
    rw [hQ]
    exact W.iret hx hb hr (fun t ht hW => ⟨⟨_, (), rfl, rfl, by rw [ht]; exact hP, va_K.moved hW.alike hK, hD⟩, hS.F ht⟩) hS.2.2 dX12_pot_18

noncomputable def f_X12_one (i_p0_seats : Int32) (v_p0_st : (Nat → Int32)) (v_p0_need : (Nat → Int32)) (x1 : Int32) (x2 : Int32) : Option (Int32) := (bd1 (f_X12_isSeat i_p0_seats x1) (fun (z1 : Int32) => (if z1 = 0 then (some (-1 : Int32)) else (if x2 = (0 : Int32) then (ck (ixB ((9 : Int32) + x1) 152) (some (v_p0_st (((9 : Int32) + x1)).toNatClampNeg))) else (if x2 = (1 : Int32) then (ck (ixB ((16 : Int32) + x1) 152) (some (v_p0_st (((16 : Int32) + x1)).toNatClampNeg))) else (if x2 = (2 : Int32) then (ck (ixB x1 7) (some (v_p0_need (x1).toNatClampNeg))) else (if x2 = (3 : Int32) then (ck (ixB ((23 : Int32) + x1) 152) (some (v_p0_st (((23 : Int32) + x1)).toNatClampNeg))) else (some (-1 : Int32)))))))))
abbrev rm_X12_one : Room := { frames := 2, cells := 0, slots := 0, locals := 46 }
theorem inX12_one_X12 : ∀ w ∈ wsX120, w ∈ wsX12_one := by decide +kernel
theorem mwX12_one_1 : Cond.fieldLink RX12 7 "LadleKingsModel" "st" "[I" ∈ wsX12_one := by decide +kernel
theorem mwX12_one_2 : Cond.fieldLink RX12 20 "LadleKingsModel" "need" "[I" ∈ wsX12_one := by decide +kernel
set_option maxHeartbeats 8000000 in
set_option maxRecDepth 100000 in
theorem c_X12_one (l : Launch) (D : va_G) (G : Nat → ClassId) (sz : Nat) (a_p0 : Nat) (a_p0_st : Nat) (a_p0_isKept : Nat) (a_p0_brings : Nat) (a_p0_need : Nat) (a_p0_draft : Nat) (a_p0_dStir : Nat) (a_p0_dNeed : Nat) (a_p0_tape : Nat) (a_p0_places : Nat) (a_p0_stirred : Nat) (a_p0_ways : Nat) (a_p0_waysThen : Nat) (a_p0_stays : Nat) (a_p0_fewest : Nat) (a_p0_bowls : Nat) (a_p0_has : Nat) (a_p0_goesOn : Nat) (a_p0_isThere : Nat) (a_p0_isThereThen : Nat) (a_p0_bestRow : Nat) (a_p0_lanes : Nat) (a_p0_sizes : Nat) (a_p0_cells : Nat) (i_p0_seats : Int32) (i_p0_stirs : Int32) (i_p0_dSeats : Int32) (i_p0_dStirs : Int32) (i_p0_told : Int32) (i_p0_highest : Int32) (i_p0_taped : Int32) (i_p0_pos : Int32) (i_p0_from : Int32) (i_p0_sort : Int32) (i_p0_value : Int32) (i_p0_fault : Int32) (i_p0_wrongAt : Int32) (i_p0_torn : Int32) (v_p0_st : (Nat → Int32)) (v_p0_need : (Nat → Int32)) (x1 : Int32) (x2 : Int32) (r : Int32) (hf : f_X12_one i_p0_seats v_p0_st v_p0_need x1 x2 = some r) : Met l yX12_one wsX12_one rm_X12_one (pcG D G [.ref a_p0, .int x1, .int x2] sz [(a_p0, .inr (12, [.ref a_p0_st, .ref a_p0_isKept, .int i_p0_seats, .int i_p0_stirs, .ref a_p0_brings, .ref a_p0_need, .ref a_p0_draft, .int i_p0_dSeats, .int i_p0_dStirs, .ref a_p0_dStir, .ref a_p0_dNeed, .int i_p0_told, .int i_p0_highest, .ref a_p0_tape, .int i_p0_taped, .int i_p0_pos, .int i_p0_from, .int i_p0_sort, .int i_p0_value, .int i_p0_fault, .int i_p0_wrongAt, .ref a_p0_places, .ref a_p0_stirred, .ref a_p0_ways, .ref a_p0_waysThen, .ref a_p0_stays, .ref a_p0_fewest, .ref a_p0_bowls, .ref a_p0_has, .ref a_p0_goesOn, .ref a_p0_isThere, .ref a_p0_isThereThen, .ref a_p0_bestRow, .ref a_p0_lanes, .ref a_p0_sizes, .ref a_p0_cells, .int i_p0_torn])), (a_p0_st, .inl (G 1, 152, .inl v_p0_st)), (a_p0_need, .inl (G 1, 7, .inl v_p0_need))]) (qcI D G r [(a_p0, .inr (12, [.ref a_p0_st, .ref a_p0_isKept, .int i_p0_seats, .int i_p0_stirs, .ref a_p0_brings, .ref a_p0_need, .ref a_p0_draft, .int i_p0_dSeats, .int i_p0_dStirs, .ref a_p0_dStir, .ref a_p0_dNeed, .int i_p0_told, .int i_p0_highest, .ref a_p0_tape, .int i_p0_taped, .int i_p0_pos, .int i_p0_from, .int i_p0_sort, .int i_p0_value, .int i_p0_fault, .int i_p0_wrongAt, .ref a_p0_places, .ref a_p0_stirred, .ref a_p0_ways, .ref a_p0_waysThen, .ref a_p0_stays, .ref a_p0_fewest, .ref a_p0_bowls, .ref a_p0_has, .ref a_p0_goesOn, .ref a_p0_isThere, .ref a_p0_isThereThen, .ref a_p0_bestRow, .ref a_p0_lanes, .ref a_p0_sizes, .ref a_p0_cells, .int i_p0_torn])), (a_p0_st, .inl (G 1, 152, .inl v_p0_st)), (a_p0_need, .inl (G 1, 7, .inl v_p0_need))] (va_A [(a_p0, .inr (12, [.ref a_p0_st, .ref a_p0_isKept, .int i_p0_seats, .int i_p0_stirs, .ref a_p0_brings, .ref a_p0_need, .ref a_p0_draft, .int i_p0_dSeats, .int i_p0_dStirs, .ref a_p0_dStir, .ref a_p0_dNeed, .int i_p0_told, .int i_p0_highest, .ref a_p0_tape, .int i_p0_taped, .int i_p0_pos, .int i_p0_from, .int i_p0_sort, .int i_p0_value, .int i_p0_fault, .int i_p0_wrongAt, .ref a_p0_places, .ref a_p0_stirred, .ref a_p0_ways, .ref a_p0_waysThen, .ref a_p0_stays, .ref a_p0_fewest, .ref a_p0_bowls, .ref a_p0_has, .ref a_p0_goesOn, .ref a_p0_isThere, .ref a_p0_isThereThen, .ref a_p0_bestRow, .ref a_p0_lanes, .ref a_p0_sizes, .ref a_p0_cells, .int i_p0_torn])), (a_p0_st, .inl (G 1, 152, .inl v_p0_st)), (a_p0_need, .inl (G 1, 7, .inl v_p0_need))] sz)) 0 0 (va_A [(a_p0, .inr (12, [.ref a_p0_st, .ref a_p0_isKept, .int i_p0_seats, .int i_p0_stirs, .ref a_p0_brings, .ref a_p0_need, .ref a_p0_draft, .int i_p0_dSeats, .int i_p0_dStirs, .ref a_p0_dStir, .ref a_p0_dNeed, .int i_p0_told, .int i_p0_highest, .ref a_p0_tape, .int i_p0_taped, .int i_p0_pos, .int i_p0_from, .int i_p0_sort, .int i_p0_value, .int i_p0_fault, .int i_p0_wrongAt, .ref a_p0_places, .ref a_p0_stirred, .ref a_p0_ways, .ref a_p0_waysThen, .ref a_p0_stays, .ref a_p0_fewest, .ref a_p0_bowls, .ref a_p0_has, .ref a_p0_goesOn, .ref a_p0_isThere, .ref a_p0_isThereThen, .ref a_p0_bestRow, .ref a_p0_lanes, .ref a_p0_sizes, .ref a_p0_cells, .int i_p0_torn])), (a_p0_st, .inl (G 1, 152, .inl v_p0_st)), (a_p0_need, .inl (G 1, 7, .inl v_p0_need))] sz) := by
  refine Met.ofW (cc := cX12_one) (maxL := 3) (ret := (some .int)) (by decide) rfl ?_
  intro p e s m args below meth c s₁ B hml hv
  obtain ⟨rfl, hsz, hP, hK, hD0⟩ := hv
  have hx := B.exec
  have hb := B.bytes
  have hr := B.returns
  have hts := atoms_spec (ws := wsX12_one) B.pre
  have hown : s.vm.findClass RX12 = some m.cls := findClass_of_methodNamed B.named
  have hlocks := B.notSynchronized
  subst hsz
  have hD := hD0.self (sz := s.heap.size)
  generalize hAe : va_A [(a_p0, .inr (12, [.ref a_p0_st, .ref a_p0_isKept, .int i_p0_seats, .int i_p0_stirs, .ref a_p0_brings, .ref a_p0_need, .ref a_p0_draft, .int i_p0_dSeats, .int i_p0_dStirs, .ref a_p0_dStir, .ref a_p0_dNeed, .int i_p0_told, .int i_p0_highest, .ref a_p0_tape, .int i_p0_taped, .int i_p0_pos, .int i_p0_from, .int i_p0_sort, .int i_p0_value, .int i_p0_fault, .int i_p0_wrongAt, .ref a_p0_places, .ref a_p0_stirred, .ref a_p0_ways, .ref a_p0_waysThen, .ref a_p0_stays, .ref a_p0_fewest, .ref a_p0_bowls, .ref a_p0_has, .ref a_p0_goesOn, .ref a_p0_isThere, .ref a_p0_isThereThen, .ref a_p0_bestRow, .ref a_p0_lanes, .ref a_p0_sizes, .ref a_p0_cells, .int i_p0_torn])), (a_p0_st, .inl (G 1, 152, .inl v_p0_st)), (a_p0_need, .inl (G 1, 7, .inl v_p0_need))] s.heap.size = A at hD ⊢
  have hA : ∀ q : Nat, s.heap.size ≤ q → A q := fun q h => by rw [← hAe]; exact Or.inr h
  clear hAe hD0
  have hS : va_S A s.heap s.heap [] := va_S.rf
  have hl := lv_entry ([.ref a_p0, .int x1, .int x2]) (n := 3) (Nat.le_of_ble_eq_true rfl)
  rw [lg_entry_eq]
  generalize (lg_sl ([.ref a_p0, .int x1, .int x2]) ++ List.replicate (3 - (lg_sl ([.ref a_p0, .int x1, .int x2])).length) Slot.unset).toArray = ls at hl ⊢
  have hl : lv_has ls 3 [(0, .ref a_p0), (1, .int x1), (2, .int x2)] := hl
  refine W_nameQ (fun Q hQ => ?_)
  obtain ⟨H, hH⟩ : ∃ H, H = s.heap := ⟨_, rfl⟩
  replace hS : va_S A s.heap H [] := by rw [hH]; exact hS
  replace hP : va_P D vwCl [(a_p0, .inr (12, [.ref a_p0_st, .ref a_p0_isKept, .int i_p0_seats, .int i_p0_stirs, .ref a_p0_brings, .ref a_p0_need, .ref a_p0_draft, .int i_p0_dSeats, .int i_p0_dStirs, .ref a_p0_dStir, .ref a_p0_dNeed, .int i_p0_told, .int i_p0_highest, .ref a_p0_tape, .int i_p0_taped, .int i_p0_pos, .int i_p0_from, .int i_p0_sort, .int i_p0_value, .int i_p0_fault, .int i_p0_wrongAt, .ref a_p0_places, .ref a_p0_stirred, .ref a_p0_ways, .ref a_p0_waysThen, .ref a_p0_stays, .ref a_p0_fewest, .ref a_p0_bowls, .ref a_p0_has, .ref a_p0_goesOn, .ref a_p0_isThere, .ref a_p0_isThereThen, .ref a_p0_bestRow, .ref a_p0_lanes, .ref a_p0_sizes, .ref a_p0_cells, .int i_p0_torn])), (a_p0_st, .inl (G 1, 152, .inl v_p0_st)), (a_p0_need, .inl (G 1, 7, .inl v_p0_need))] H := by rw [hH]; exact hP
  rw [← hH]
  clear hH
  unfold f_X12_one at hf
  refine lv_aload_n hx hb dX12_one_0 rfl (lv_at hl 0 rfl) ?_
  refine lv_iload_n hx hb dX12_one_1 rfl (lv_at hl 1 rfl) ?_
  have hq := bd1_s hf
  clear hf
  obtain ⟨z1, hcall, hf⟩ := hq
  refine gcI (ws' := [(a_p0, .inr (12, [.ref a_p0_st, .ref a_p0_isKept, .int i_p0_seats, .int i_p0_stirs, .ref a_p0_brings, .ref a_p0_need, .ref a_p0_draft, .int i_p0_dSeats, .int i_p0_dStirs, .ref a_p0_dStir, .ref a_p0_dNeed, .int i_p0_told, .int i_p0_highest, .ref a_p0_tape, .int i_p0_taped, .int i_p0_pos, .int i_p0_from, .int i_p0_sort, .int i_p0_value, .int i_p0_fault, .int i_p0_wrongAt, .ref a_p0_places, .ref a_p0_stirred, .ref a_p0_ways, .ref a_p0_waysThen, .ref a_p0_stays, .ref a_p0_fewest, .ref a_p0_bowls, .ref a_p0_has, .ref a_p0_goesOn, .ref a_p0_isThere, .ref a_p0_isThereThen, .ref a_p0_bestRow, .ref a_p0_lanes, .ref a_p0_sizes, .ref a_p0_cells, .int i_p0_torn])), (a_p0_st, .inl (G 1, 152, .inl v_p0_st)), (a_p0_need, .inl (G 1, 7, .inl v_p0_need))]) (va_runV (As := [.int x1]) (rest := []) ⟨hx, hb, hml, hown, hts⟩ (c_X12_isSeat (l := l) (D := D) (G := G) (sz := H.size) (a_p0 := a_p0) (a_p0_st := a_p0_st) (a_p0_isKept := a_p0_isKept) (a_p0_brings := a_p0_brings) (a_p0_need := a_p0_need) (a_p0_draft := a_p0_draft) (a_p0_dStir := a_p0_dStir) (a_p0_dNeed := a_p0_dNeed) (a_p0_tape := a_p0_tape) (a_p0_places := a_p0_places) (a_p0_stirred := a_p0_stirred) (a_p0_ways := a_p0_ways) (a_p0_waysThen := a_p0_waysThen) (a_p0_stays := a_p0_stays) (a_p0_fewest := a_p0_fewest) (a_p0_bowls := a_p0_bowls) (a_p0_has := a_p0_has) (a_p0_goesOn := a_p0_goesOn) (a_p0_isThere := a_p0_isThere) (a_p0_isThereThen := a_p0_isThereThen) (a_p0_bestRow := a_p0_bestRow) (a_p0_lanes := a_p0_lanes) (a_p0_sizes := a_p0_sizes) (a_p0_cells := a_p0_cells) (i_p0_seats := i_p0_seats) (i_p0_stirs := i_p0_stirs) (i_p0_dSeats := i_p0_dSeats) (i_p0_dStirs := i_p0_dStirs) (i_p0_told := i_p0_told) (i_p0_highest := i_p0_highest) (i_p0_taped := i_p0_taped) (i_p0_pos := i_p0_pos) (i_p0_from := i_p0_from) (i_p0_sort := i_p0_sort) (i_p0_value := i_p0_value) (i_p0_fault := i_p0_fault) (i_p0_wrongAt := i_p0_wrongAt) (i_p0_torn := i_p0_torn) (x1 := x1) (r := z1) (hf := hcall)) (cwV 1 hts gX12_one_X12_isSeat rfl rfl rfl (by decide +kernel) ⟨Nat.le_of_ble_eq_true rfl, Nat.le_of_ble_eq_true rfl⟩) (preG_V (ci := 12) (hP.sub [0] rfl) (hD.sub [0] rfl rfl) hK rfl rfl) rfl rfl hl.1 rfl (lv_room (Nat.le_of_ble_eq_true rfl)) dX12_one_2 ⟨Nat.le_of_ble_eq_true rfl, Nat.le_of_ble_eq_true rfl⟩) hP hD hS hA [0] [1, 2] [2, 0, 1] rfl rfl rfl (by decide) rfl rfl rfl (fun H locs hP hD hS => ?_)
  clear hcall
  refine lv_if_ne (tgt := 10) hx hb dX12_one_5 (by decide) (fun cc => ?_) (fun cc => ?_)
  ·
    replace hf := ite_f cc hf
    clear cc
    refine lv_iload_n hx hb dX12_one_10 rfl (lv_at hl 2 rfl) ?_
    rcases Decidable.em (x2 = (0 : Int32)) with hk2 | hk2
    ·
      replace hf := ite_t hk2 hf
      refine lv_tableIn (tgt := 40) hx hb dX12_one_11 (by rw [hk2]; decide) (by rw [hk2]; decide) (by rw [hk2]; rfl) (by decide) ?_
      clear hk2
      refine lv_aload_n hx hb dX12_one_40 rfl (lv_at hl 0 rfl) ?_
      refine va_get (D := D) (ci := 12) (v := .ref a_p0_st) (C := RX12) (T := TX12) (N := 37) hx hb hts inX12_one_X12 hown hK hP 0 rfl rfl 0 (by decide) (hts _ mwX12_one_1) (fun _ h9 => h9) rfl dX12_one_41 ?_
      refine lv_bipush (v := (9 : Int32)) hx hb dX12_one_44 (by decide) ?_
      refine lv_iload_n hx hb dX12_one_46 rfl (lv_at hl 1 rfl) ?_
      refine lv_iadd hx hb dX12_one_47 ?_
      have hc := ck_c hf
      replace hf := ck_r hf
      refine va_iald hx hb hK hP 1 1 rfl rfl (ixB_in hc) dX12_one_48 ?_
      clear hc
      obtain rfl := ou1 hf
      rw [hQ]
      exact W.iret hx hb hr (fun t ht hW => ⟨⟨_, (), rfl, rfl, by rw [ht]; exact hP, va_K.moved hW.alike hK, hD⟩, hS.F ht⟩) hS.2.2 dX12_one_49
    replace hf := ite_f hk2 hf
    rcases Decidable.em (x2 = (1 : Int32)) with hk3 | hk3
    ·
      replace hf := ite_t hk3 hf
      refine lv_tableIn (tgt := 50) hx hb dX12_one_11 (by rw [hk3]; decide) (by rw [hk3]; decide) (by rw [hk3]; rfl) (by decide) ?_
      clear hk3 hk2
      refine lv_aload_n hx hb dX12_one_50 rfl (lv_at hl 0 rfl) ?_
      refine va_get (D := D) (ci := 12) (v := .ref a_p0_st) (C := RX12) (T := TX12) (N := 37) hx hb hts inX12_one_X12 hown hK hP 0 rfl rfl 0 (by decide) (hts _ mwX12_one_1) (fun _ h9 => h9) rfl dX12_one_51 ?_
      refine lv_bipush (v := (16 : Int32)) hx hb dX12_one_54 (by decide) ?_
      refine lv_iload_n hx hb dX12_one_56 rfl (lv_at hl 1 rfl) ?_
      refine lv_iadd hx hb dX12_one_57 ?_
      have hc := ck_c hf
      replace hf := ck_r hf
      refine va_iald hx hb hK hP 1 1 rfl rfl (ixB_in hc) dX12_one_58 ?_
      clear hc
      obtain rfl := ou1 hf
      rw [hQ]
      exact W.iret hx hb hr (fun t ht hW => ⟨⟨_, (), rfl, rfl, by rw [ht]; exact hP, va_K.moved hW.alike hK, hD⟩, hS.F ht⟩) hS.2.2 dX12_one_59
    replace hf := ite_f hk3 hf
    rcases Decidable.em (x2 = (2 : Int32)) with hk4 | hk4
    ·
      replace hf := ite_t hk4 hf
      refine lv_tableIn (tgt := 60) hx hb dX12_one_11 (by rw [hk4]; decide) (by rw [hk4]; decide) (by rw [hk4]; rfl) (by decide) ?_
      clear hk4 hk2 hk3
      refine lv_aload_n hx hb dX12_one_60 rfl (lv_at hl 0 rfl) ?_
      refine va_get (D := D) (ci := 12) (v := .ref a_p0_need) (C := RX12) (T := TX12) (N := 37) hx hb hts inX12_one_X12 hown hK hP 0 rfl rfl 5 (by decide) (hts _ mwX12_one_2) (fun _ h9 => h9) rfl dX12_one_61 ?_
      refine lv_iload_n hx hb dX12_one_64 rfl (lv_at hl 1 rfl) ?_
      have hc := ck_c hf
      replace hf := ck_r hf
      refine va_iald hx hb hK hP 2 1 rfl rfl (ixB_in hc) dX12_one_65 ?_
      clear hc
      obtain rfl := ou1 hf
      rw [hQ]
      exact W.iret hx hb hr (fun t ht hW => ⟨⟨_, (), rfl, rfl, by rw [ht]; exact hP, va_K.moved hW.alike hK, hD⟩, hS.F ht⟩) hS.2.2 dX12_one_66
    replace hf := ite_f hk4 hf
    rcases Decidable.em (x2 = (3 : Int32)) with hk5 | hk5
    ·
      replace hf := ite_t hk5 hf
      refine lv_tableIn (tgt := 67) hx hb dX12_one_11 (by rw [hk5]; decide) (by rw [hk5]; decide) (by rw [hk5]; rfl) (by decide) ?_
      clear hk5 hk2 hk3 hk4
      refine lv_aload_n hx hb dX12_one_67 rfl (lv_at hl 0 rfl) ?_
      refine va_get (D := D) (ci := 12) (v := .ref a_p0_st) (C := RX12) (T := TX12) (N := 37) hx hb hts inX12_one_X12 hown hK hP 0 rfl rfl 0 (by decide) (hts _ mwX12_one_1) (fun _ h9 => h9) rfl dX12_one_68 ?_
      refine lv_bipush (v := (23 : Int32)) hx hb dX12_one_71 (by decide) ?_
      refine lv_iload_n hx hb dX12_one_73 rfl (lv_at hl 1 rfl) ?_
      refine lv_iadd hx hb dX12_one_74 ?_
      have hc := ck_c hf
      replace hf := ck_r hf
      refine va_iald hx hb hK hP 1 1 rfl rfl (ixB_in hc) dX12_one_75 ?_
      clear hc
      obtain rfl := ou1 hf
      rw [hQ]
      exact W.iret hx hb hr (fun t ht hW => ⟨⟨_, (), rfl, rfl, by rw [ht]; exact hP, va_K.moved hW.alike hK, hD⟩, hS.F ht⟩) hS.2.2 dX12_one_76
    replace hf := ite_f hk5 hf
    have thk2 := tsw_ne hk2
    have thk3 := tsw_ne hk3
    have thk4 := tsw_ne hk4
    have thk5 := tsw_ne hk5
    rw [show ((0 : Int32)).toInt = 0 from by decide] at thk2
    rw [show ((1 : Int32)).toInt = 1 from by decide] at thk3
    rw [show ((2 : Int32)).toInt = 2 from by decide] at thk4
    rw [show ((3 : Int32)).toInt = 3 from by decide] at thk5
    refine lv_tableOut (tgt := 77) hx hb dX12_one_11 (by omega) (by decide) ?_
    clear thk2 thk3 thk4 thk5 hk2 hk3 hk4 hk5
    refine lv_iconst (v := (-1 : Int32)) hx hb dX12_one_77 (by decide) ?_
    obtain rfl := ou1 hf
    rw [hQ]
    exact W.iret hx hb hr (fun t ht hW => ⟨⟨_, (), rfl, rfl, by rw [ht]; exact hP, va_K.moved hW.alike hK, hD⟩, hS.F ht⟩) hS.2.2 dX12_one_78
  ·
    replace hf := ite_t cc hf
    clear cc
    refine lv_iconst (v := (-1 : Int32)) hx hb dX12_one_8 (by decide) ?_
    obtain rfl := ou1 hf
    rw [hQ]
    exact W.iret hx hb hr (fun t ht hW => ⟨⟨_, (), rfl, rfl, by rw [ht]; exact hP, va_K.moved hW.alike hK, hD⟩, hS.F ht⟩) hS.2.2 dX12_one_9

noncomputable def f_X12_stir (i_p0_seats : Int32) (i_p0_stirs : Int32) (v_p0_brings : (Nat → Int32)) (x1 : Int32) (x2 : Int32) : Option (Int32) := (bd1 (f_X12_isStir i_p0_stirs x1) (fun (z1 : Int32) => (if z1 = 0 then (some (-1 : Int32)) else (bd1 (f_X12_isSeat i_p0_seats x2) (fun (z2 : Int32) => (if z2 = 0 then (some (-1 : Int32)) else (ck (ixB (((7 : Int32) * x1) + x2) 35) (some (v_p0_brings ((((7 : Int32) * x1) + x2)).toNatClampNeg)))))))))
abbrev rm_X12_stir : Room := { frames := 2, cells := 0, slots := 0, locals := 46 }
theorem inX12_stir_X12 : ∀ w ∈ wsX120, w ∈ wsX12_stir := by decide +kernel
theorem mwX12_stir_1 : Cond.fieldLink RX12 17 "LadleKingsModel" "brings" "[I" ∈ wsX12_stir := by decide +kernel
set_option maxHeartbeats 8000000 in
set_option maxRecDepth 100000 in
theorem c_X12_stir (l : Launch) (D : va_G) (G : Nat → ClassId) (sz : Nat) (a_p0 : Nat) (a_p0_st : Nat) (a_p0_isKept : Nat) (a_p0_brings : Nat) (a_p0_need : Nat) (a_p0_draft : Nat) (a_p0_dStir : Nat) (a_p0_dNeed : Nat) (a_p0_tape : Nat) (a_p0_places : Nat) (a_p0_stirred : Nat) (a_p0_ways : Nat) (a_p0_waysThen : Nat) (a_p0_stays : Nat) (a_p0_fewest : Nat) (a_p0_bowls : Nat) (a_p0_has : Nat) (a_p0_goesOn : Nat) (a_p0_isThere : Nat) (a_p0_isThereThen : Nat) (a_p0_bestRow : Nat) (a_p0_lanes : Nat) (a_p0_sizes : Nat) (a_p0_cells : Nat) (i_p0_seats : Int32) (i_p0_stirs : Int32) (i_p0_dSeats : Int32) (i_p0_dStirs : Int32) (i_p0_told : Int32) (i_p0_highest : Int32) (i_p0_taped : Int32) (i_p0_pos : Int32) (i_p0_from : Int32) (i_p0_sort : Int32) (i_p0_value : Int32) (i_p0_fault : Int32) (i_p0_wrongAt : Int32) (i_p0_torn : Int32) (v_p0_brings : (Nat → Int32)) (x1 : Int32) (x2 : Int32) (r : Int32) (hf : f_X12_stir i_p0_seats i_p0_stirs v_p0_brings x1 x2 = some r) : Met l yX12_stir wsX12_stir rm_X12_stir (pcG D G [.ref a_p0, .int x1, .int x2] sz [(a_p0, .inr (12, [.ref a_p0_st, .ref a_p0_isKept, .int i_p0_seats, .int i_p0_stirs, .ref a_p0_brings, .ref a_p0_need, .ref a_p0_draft, .int i_p0_dSeats, .int i_p0_dStirs, .ref a_p0_dStir, .ref a_p0_dNeed, .int i_p0_told, .int i_p0_highest, .ref a_p0_tape, .int i_p0_taped, .int i_p0_pos, .int i_p0_from, .int i_p0_sort, .int i_p0_value, .int i_p0_fault, .int i_p0_wrongAt, .ref a_p0_places, .ref a_p0_stirred, .ref a_p0_ways, .ref a_p0_waysThen, .ref a_p0_stays, .ref a_p0_fewest, .ref a_p0_bowls, .ref a_p0_has, .ref a_p0_goesOn, .ref a_p0_isThere, .ref a_p0_isThereThen, .ref a_p0_bestRow, .ref a_p0_lanes, .ref a_p0_sizes, .ref a_p0_cells, .int i_p0_torn])), (a_p0_brings, .inl (G 1, 35, .inl v_p0_brings))]) (qcI D G r [(a_p0, .inr (12, [.ref a_p0_st, .ref a_p0_isKept, .int i_p0_seats, .int i_p0_stirs, .ref a_p0_brings, .ref a_p0_need, .ref a_p0_draft, .int i_p0_dSeats, .int i_p0_dStirs, .ref a_p0_dStir, .ref a_p0_dNeed, .int i_p0_told, .int i_p0_highest, .ref a_p0_tape, .int i_p0_taped, .int i_p0_pos, .int i_p0_from, .int i_p0_sort, .int i_p0_value, .int i_p0_fault, .int i_p0_wrongAt, .ref a_p0_places, .ref a_p0_stirred, .ref a_p0_ways, .ref a_p0_waysThen, .ref a_p0_stays, .ref a_p0_fewest, .ref a_p0_bowls, .ref a_p0_has, .ref a_p0_goesOn, .ref a_p0_isThere, .ref a_p0_isThereThen, .ref a_p0_bestRow, .ref a_p0_lanes, .ref a_p0_sizes, .ref a_p0_cells, .int i_p0_torn])), (a_p0_brings, .inl (G 1, 35, .inl v_p0_brings))] (va_A [(a_p0, .inr (12, [.ref a_p0_st, .ref a_p0_isKept, .int i_p0_seats, .int i_p0_stirs, .ref a_p0_brings, .ref a_p0_need, .ref a_p0_draft, .int i_p0_dSeats, .int i_p0_dStirs, .ref a_p0_dStir, .ref a_p0_dNeed, .int i_p0_told, .int i_p0_highest, .ref a_p0_tape, .int i_p0_taped, .int i_p0_pos, .int i_p0_from, .int i_p0_sort, .int i_p0_value, .int i_p0_fault, .int i_p0_wrongAt, .ref a_p0_places, .ref a_p0_stirred, .ref a_p0_ways, .ref a_p0_waysThen, .ref a_p0_stays, .ref a_p0_fewest, .ref a_p0_bowls, .ref a_p0_has, .ref a_p0_goesOn, .ref a_p0_isThere, .ref a_p0_isThereThen, .ref a_p0_bestRow, .ref a_p0_lanes, .ref a_p0_sizes, .ref a_p0_cells, .int i_p0_torn])), (a_p0_brings, .inl (G 1, 35, .inl v_p0_brings))] sz)) 0 0 (va_A [(a_p0, .inr (12, [.ref a_p0_st, .ref a_p0_isKept, .int i_p0_seats, .int i_p0_stirs, .ref a_p0_brings, .ref a_p0_need, .ref a_p0_draft, .int i_p0_dSeats, .int i_p0_dStirs, .ref a_p0_dStir, .ref a_p0_dNeed, .int i_p0_told, .int i_p0_highest, .ref a_p0_tape, .int i_p0_taped, .int i_p0_pos, .int i_p0_from, .int i_p0_sort, .int i_p0_value, .int i_p0_fault, .int i_p0_wrongAt, .ref a_p0_places, .ref a_p0_stirred, .ref a_p0_ways, .ref a_p0_waysThen, .ref a_p0_stays, .ref a_p0_fewest, .ref a_p0_bowls, .ref a_p0_has, .ref a_p0_goesOn, .ref a_p0_isThere, .ref a_p0_isThereThen, .ref a_p0_bestRow, .ref a_p0_lanes, .ref a_p0_sizes, .ref a_p0_cells, .int i_p0_torn])), (a_p0_brings, .inl (G 1, 35, .inl v_p0_brings))] sz) := by
  refine Met.ofW (cc := cX12_stir) (maxL := 3) (ret := (some .int)) (by decide) rfl ?_
  intro p e s m args below meth c s₁ B hml hv
  obtain ⟨rfl, hsz, hP, hK, hD0⟩ := hv
  have hx := B.exec
  have hb := B.bytes
  have hr := B.returns
  have hts := atoms_spec (ws := wsX12_stir) B.pre
  have hown : s.vm.findClass RX12 = some m.cls := findClass_of_methodNamed B.named
  have hlocks := B.notSynchronized
  subst hsz
  have hD := hD0.self (sz := s.heap.size)
  generalize hAe : va_A [(a_p0, .inr (12, [.ref a_p0_st, .ref a_p0_isKept, .int i_p0_seats, .int i_p0_stirs, .ref a_p0_brings, .ref a_p0_need, .ref a_p0_draft, .int i_p0_dSeats, .int i_p0_dStirs, .ref a_p0_dStir, .ref a_p0_dNeed, .int i_p0_told, .int i_p0_highest, .ref a_p0_tape, .int i_p0_taped, .int i_p0_pos, .int i_p0_from, .int i_p0_sort, .int i_p0_value, .int i_p0_fault, .int i_p0_wrongAt, .ref a_p0_places, .ref a_p0_stirred, .ref a_p0_ways, .ref a_p0_waysThen, .ref a_p0_stays, .ref a_p0_fewest, .ref a_p0_bowls, .ref a_p0_has, .ref a_p0_goesOn, .ref a_p0_isThere, .ref a_p0_isThereThen, .ref a_p0_bestRow, .ref a_p0_lanes, .ref a_p0_sizes, .ref a_p0_cells, .int i_p0_torn])), (a_p0_brings, .inl (G 1, 35, .inl v_p0_brings))] s.heap.size = A at hD ⊢
  have hA : ∀ q : Nat, s.heap.size ≤ q → A q := fun q h => by rw [← hAe]; exact Or.inr h
  clear hAe hD0
  have hS : va_S A s.heap s.heap [] := va_S.rf
  have hl := lv_entry ([.ref a_p0, .int x1, .int x2]) (n := 3) (Nat.le_of_ble_eq_true rfl)
  rw [lg_entry_eq]
  generalize (lg_sl ([.ref a_p0, .int x1, .int x2]) ++ List.replicate (3 - (lg_sl ([.ref a_p0, .int x1, .int x2])).length) Slot.unset).toArray = ls at hl ⊢
  have hl : lv_has ls 3 [(0, .ref a_p0), (1, .int x1), (2, .int x2)] := hl
  refine W_nameQ (fun Q hQ => ?_)
  obtain ⟨H, hH⟩ : ∃ H, H = s.heap := ⟨_, rfl⟩
  replace hS : va_S A s.heap H [] := by rw [hH]; exact hS
  replace hP : va_P D vwCl [(a_p0, .inr (12, [.ref a_p0_st, .ref a_p0_isKept, .int i_p0_seats, .int i_p0_stirs, .ref a_p0_brings, .ref a_p0_need, .ref a_p0_draft, .int i_p0_dSeats, .int i_p0_dStirs, .ref a_p0_dStir, .ref a_p0_dNeed, .int i_p0_told, .int i_p0_highest, .ref a_p0_tape, .int i_p0_taped, .int i_p0_pos, .int i_p0_from, .int i_p0_sort, .int i_p0_value, .int i_p0_fault, .int i_p0_wrongAt, .ref a_p0_places, .ref a_p0_stirred, .ref a_p0_ways, .ref a_p0_waysThen, .ref a_p0_stays, .ref a_p0_fewest, .ref a_p0_bowls, .ref a_p0_has, .ref a_p0_goesOn, .ref a_p0_isThere, .ref a_p0_isThereThen, .ref a_p0_bestRow, .ref a_p0_lanes, .ref a_p0_sizes, .ref a_p0_cells, .int i_p0_torn])), (a_p0_brings, .inl (G 1, 35, .inl v_p0_brings))] H := by rw [hH]; exact hP
  rw [← hH]
  clear hH
  unfold f_X12_stir at hf
  refine lv_aload_n hx hb dX12_stir_0 rfl (lv_at hl 0 rfl) ?_
  refine lv_iload_n hx hb dX12_stir_1 rfl (lv_at hl 1 rfl) ?_
  have hq := bd1_s hf
  clear hf
  obtain ⟨z1, hcall, hf⟩ := hq
  refine gcI (ws' := [(a_p0, .inr (12, [.ref a_p0_st, .ref a_p0_isKept, .int i_p0_seats, .int i_p0_stirs, .ref a_p0_brings, .ref a_p0_need, .ref a_p0_draft, .int i_p0_dSeats, .int i_p0_dStirs, .ref a_p0_dStir, .ref a_p0_dNeed, .int i_p0_told, .int i_p0_highest, .ref a_p0_tape, .int i_p0_taped, .int i_p0_pos, .int i_p0_from, .int i_p0_sort, .int i_p0_value, .int i_p0_fault, .int i_p0_wrongAt, .ref a_p0_places, .ref a_p0_stirred, .ref a_p0_ways, .ref a_p0_waysThen, .ref a_p0_stays, .ref a_p0_fewest, .ref a_p0_bowls, .ref a_p0_has, .ref a_p0_goesOn, .ref a_p0_isThere, .ref a_p0_isThereThen, .ref a_p0_bestRow, .ref a_p0_lanes, .ref a_p0_sizes, .ref a_p0_cells, .int i_p0_torn])), (a_p0_brings, .inl (G 1, 35, .inl v_p0_brings))]) (va_runV (As := [.int x1]) (rest := []) ⟨hx, hb, hml, hown, hts⟩ (c_X12_isStir (l := l) (D := D) (G := G) (sz := H.size) (a_p0 := a_p0) (a_p0_st := a_p0_st) (a_p0_isKept := a_p0_isKept) (a_p0_brings := a_p0_brings) (a_p0_need := a_p0_need) (a_p0_draft := a_p0_draft) (a_p0_dStir := a_p0_dStir) (a_p0_dNeed := a_p0_dNeed) (a_p0_tape := a_p0_tape) (a_p0_places := a_p0_places) (a_p0_stirred := a_p0_stirred) (a_p0_ways := a_p0_ways) (a_p0_waysThen := a_p0_waysThen) (a_p0_stays := a_p0_stays) (a_p0_fewest := a_p0_fewest) (a_p0_bowls := a_p0_bowls) (a_p0_has := a_p0_has) (a_p0_goesOn := a_p0_goesOn) (a_p0_isThere := a_p0_isThere) (a_p0_isThereThen := a_p0_isThereThen) (a_p0_bestRow := a_p0_bestRow) (a_p0_lanes := a_p0_lanes) (a_p0_sizes := a_p0_sizes) (a_p0_cells := a_p0_cells) (i_p0_seats := i_p0_seats) (i_p0_stirs := i_p0_stirs) (i_p0_dSeats := i_p0_dSeats) (i_p0_dStirs := i_p0_dStirs) (i_p0_told := i_p0_told) (i_p0_highest := i_p0_highest) (i_p0_taped := i_p0_taped) (i_p0_pos := i_p0_pos) (i_p0_from := i_p0_from) (i_p0_sort := i_p0_sort) (i_p0_value := i_p0_value) (i_p0_fault := i_p0_fault) (i_p0_wrongAt := i_p0_wrongAt) (i_p0_torn := i_p0_torn) (x1 := x1) (r := z1) (hf := hcall)) (cwV 1 hts gX12_stir_X12_isStir rfl rfl rfl (by decide +kernel) ⟨Nat.le_of_ble_eq_true rfl, Nat.le_of_ble_eq_true rfl⟩) (preG_V (ci := 12) (hP.sub [0] rfl) (hD.sub [0] rfl rfl) hK rfl rfl) rfl rfl hl.1 rfl (lv_room (Nat.le_of_ble_eq_true rfl)) dX12_stir_2 ⟨Nat.le_of_ble_eq_true rfl, Nat.le_of_ble_eq_true rfl⟩) hP hD hS hA [0] [1] [1, 0] rfl rfl rfl (by decide) rfl rfl rfl (fun H locs hP hD hS => ?_)
  clear hcall
  refine lv_if_eq (tgt := 30) hx hb dX12_stir_5 (by decide) (fun cc => ?_) (fun cc => ?_)
  ·
    replace hf := ite_t cc hf
    clear cc
    refine lv_iconst (v := (-1 : Int32)) hx hb dX12_stir_30 (by decide) ?_
    obtain rfl := ou1 hf
    rw [hQ]
    exact W.iret hx hb hr (fun t ht hW => ⟨⟨_, (), rfl, rfl, by rw [ht]; exact hP, va_K.moved hW.alike hK, hD⟩, hS.F ht⟩) hS.2.2 dX12_stir_31
  ·
    replace hf := ite_f cc hf
    clear cc
    refine lv_aload_n hx hb dX12_stir_8 rfl (lv_at hl 0 rfl) ?_
    refine lv_iload_n hx hb dX12_stir_9 rfl (lv_at hl 2 rfl) ?_
    have hq := bd1_s hf
    clear hf
    obtain ⟨z2, hcall, hf⟩ := hq
    refine gcI (ws' := [(a_p0, .inr (12, [.ref a_p0_st, .ref a_p0_isKept, .int i_p0_seats, .int i_p0_stirs, .ref a_p0_brings, .ref a_p0_need, .ref a_p0_draft, .int i_p0_dSeats, .int i_p0_dStirs, .ref a_p0_dStir, .ref a_p0_dNeed, .int i_p0_told, .int i_p0_highest, .ref a_p0_tape, .int i_p0_taped, .int i_p0_pos, .int i_p0_from, .int i_p0_sort, .int i_p0_value, .int i_p0_fault, .int i_p0_wrongAt, .ref a_p0_places, .ref a_p0_stirred, .ref a_p0_ways, .ref a_p0_waysThen, .ref a_p0_stays, .ref a_p0_fewest, .ref a_p0_bowls, .ref a_p0_has, .ref a_p0_goesOn, .ref a_p0_isThere, .ref a_p0_isThereThen, .ref a_p0_bestRow, .ref a_p0_lanes, .ref a_p0_sizes, .ref a_p0_cells, .int i_p0_torn])), (a_p0_brings, .inl (G 1, 35, .inl v_p0_brings))]) (va_runV (As := [.int x2]) (rest := []) ⟨hx, hb, hml, hown, hts⟩ (c_X12_isSeat (l := l) (D := D) (G := G) (sz := H.size) (a_p0 := a_p0) (a_p0_st := a_p0_st) (a_p0_isKept := a_p0_isKept) (a_p0_brings := a_p0_brings) (a_p0_need := a_p0_need) (a_p0_draft := a_p0_draft) (a_p0_dStir := a_p0_dStir) (a_p0_dNeed := a_p0_dNeed) (a_p0_tape := a_p0_tape) (a_p0_places := a_p0_places) (a_p0_stirred := a_p0_stirred) (a_p0_ways := a_p0_ways) (a_p0_waysThen := a_p0_waysThen) (a_p0_stays := a_p0_stays) (a_p0_fewest := a_p0_fewest) (a_p0_bowls := a_p0_bowls) (a_p0_has := a_p0_has) (a_p0_goesOn := a_p0_goesOn) (a_p0_isThere := a_p0_isThere) (a_p0_isThereThen := a_p0_isThereThen) (a_p0_bestRow := a_p0_bestRow) (a_p0_lanes := a_p0_lanes) (a_p0_sizes := a_p0_sizes) (a_p0_cells := a_p0_cells) (i_p0_seats := i_p0_seats) (i_p0_stirs := i_p0_stirs) (i_p0_dSeats := i_p0_dSeats) (i_p0_dStirs := i_p0_dStirs) (i_p0_told := i_p0_told) (i_p0_highest := i_p0_highest) (i_p0_taped := i_p0_taped) (i_p0_pos := i_p0_pos) (i_p0_from := i_p0_from) (i_p0_sort := i_p0_sort) (i_p0_value := i_p0_value) (i_p0_fault := i_p0_fault) (i_p0_wrongAt := i_p0_wrongAt) (i_p0_torn := i_p0_torn) (x1 := x2) (r := z2) (hf := hcall)) (cwV 1 hts gX12_stir_X12_isSeat rfl rfl rfl (by decide +kernel) ⟨Nat.le_of_ble_eq_true rfl, Nat.le_of_ble_eq_true rfl⟩) (preG_V (ci := 12) (hP.sub [0] rfl) (hD.sub [0] rfl rfl) hK rfl rfl) rfl rfl hl.1 rfl (lv_room (Nat.le_of_ble_eq_true rfl)) dX12_stir_10 ⟨Nat.le_of_ble_eq_true rfl, Nat.le_of_ble_eq_true rfl⟩) hP hD hS hA [0] [1] [1, 0] rfl rfl rfl (by decide) rfl rfl rfl (fun H locs hP hD hS => ?_)
    clear hcall
    refine lv_if_eq (tgt := 30) hx hb dX12_stir_13 (by decide) (fun cc => ?_) (fun cc => ?_)
    ·
      replace hf := ite_t cc hf
      clear cc
      refine lv_iconst (v := (-1 : Int32)) hx hb dX12_stir_30 (by decide) ?_
      obtain rfl := ou1 hf
      rw [hQ]
      exact W.iret hx hb hr (fun t ht hW => ⟨⟨_, (), rfl, rfl, by rw [ht]; exact hP, va_K.moved hW.alike hK, hD⟩, hS.F ht⟩) hS.2.2 dX12_stir_31
    ·
      replace hf := ite_f cc hf
      clear cc
      refine lv_aload_n hx hb dX12_stir_16 rfl (lv_at hl 0 rfl) ?_
      refine va_get (D := D) (ci := 12) (v := .ref a_p0_brings) (C := RX12) (T := TX12) (N := 37) hx hb hts inX12_stir_X12 hown hK hP 0 rfl rfl 4 (by decide) (hts _ mwX12_stir_1) (fun _ h9 => h9) rfl dX12_stir_17 ?_
      refine lv_bipush (v := (7 : Int32)) hx hb dX12_stir_20 (by decide) ?_
      refine lv_iload_n hx hb dX12_stir_22 rfl (lv_at hl 1 rfl) ?_
      refine lv_imul hx hb dX12_stir_23 ?_
      refine lv_iload_n hx hb dX12_stir_24 rfl (lv_at hl 2 rfl) ?_
      refine lv_iadd hx hb dX12_stir_25 ?_
      have hc := ck_c hf
      replace hf := ck_r hf
      refine va_iald hx hb hK hP 1 1 rfl rfl (ixB_in hc) dX12_stir_26 ?_
      clear hc
      refine lv_goto (tgt := 31) hx hb dX12_stir_27 (by decide) ?_
      obtain rfl := ou1 hf
      rw [hQ]
      exact W.iret hx hb hr (fun t ht hW => ⟨⟨_, (), rfl, rfl, by rw [ht]; exact hP, va_K.moved hW.alike hK, hD⟩, hS.F ht⟩) hS.2.2 dX12_stir_31

noncomputable def f_X12_befriend (i_p0_seats : Int32) (v_p0_st : (Nat → Int32)) (x1 : Int32) (x2 : Int32) (x3 : Int32) : Option (Int32 × (Nat → Int32)) := (bd1 (f_X12_isSeat i_p0_seats x1) (fun (z1 : Int32) => (if z1 = 0 then (some ((-1 : Int32), v_p0_st)) else (bd1 (f_X12_isSeat i_p0_seats x2) (fun (z2 : Int32) => (if z2 = 0 then (some ((-1 : Int32), v_p0_st)) else (if x1 = x2 then (some ((-1 : Int32), v_p0_st)) else (ck (ixB ((9 : Int32) + x1) 152) (bnd (((v_p0_st (((9 : Int32) + x1)).toNatClampNeg) >>> (x2 &&& 31)) &&& (1 : Int32)) (fun (z3 : Int32) => (if x3 = 0 then (ck (ixB ((9 : Int32) + x1) 152) (ck (ixB ((9 : Int32) + x1) 152) (bnd (upd v_p0_st (((9 : Int32) + x1)).toNatClampNeg ((v_p0_st (((9 : Int32) + x1)).toNatClampNeg) &&& (((1 : Int32) <<< (x2 &&& 31)) ^^^ (-1 : Int32)))) (fun (w4 : (Nat → Int32)) => (some (z3, w4)))))) else (ck (ixB ((9 : Int32) + x1) 152) (ck (ixB ((9 : Int32) + x1) 152) (bnd (upd v_p0_st (((9 : Int32) + x1)).toNatClampNeg ((v_p0_st (((9 : Int32) + x1)).toNatClampNeg) ||| ((1 : Int32) <<< (x2 &&& 31)))) (fun (w5 : (Nat → Int32)) => (some (z3, w5)))))))))))))))))
abbrev rm_X12_befriend : Room := { frames := 2, cells := 0, slots := 0, locals := 46 }
theorem inX12_befriend_X12 : ∀ w ∈ wsX120, w ∈ wsX12_befriend := by decide +kernel
theorem mwX12_befriend_1 : Cond.fieldLink RX12 7 "LadleKingsModel" "st" "[I" ∈ wsX12_befriend := by decide +kernel
set_option maxHeartbeats 8000000 in
set_option maxRecDepth 100000 in
theorem c_X12_befriend (l : Launch) (D : va_G) (G : Nat → ClassId) (sz : Nat) (a_p0 : Nat) (a_p0_st : Nat) (a_p0_isKept : Nat) (a_p0_brings : Nat) (a_p0_need : Nat) (a_p0_draft : Nat) (a_p0_dStir : Nat) (a_p0_dNeed : Nat) (a_p0_tape : Nat) (a_p0_places : Nat) (a_p0_stirred : Nat) (a_p0_ways : Nat) (a_p0_waysThen : Nat) (a_p0_stays : Nat) (a_p0_fewest : Nat) (a_p0_bowls : Nat) (a_p0_has : Nat) (a_p0_goesOn : Nat) (a_p0_isThere : Nat) (a_p0_isThereThen : Nat) (a_p0_bestRow : Nat) (a_p0_lanes : Nat) (a_p0_sizes : Nat) (a_p0_cells : Nat) (i_p0_seats : Int32) (i_p0_stirs : Int32) (i_p0_dSeats : Int32) (i_p0_dStirs : Int32) (i_p0_told : Int32) (i_p0_highest : Int32) (i_p0_taped : Int32) (i_p0_pos : Int32) (i_p0_from : Int32) (i_p0_sort : Int32) (i_p0_value : Int32) (i_p0_fault : Int32) (i_p0_wrongAt : Int32) (i_p0_torn : Int32) (v_p0_st : (Nat → Int32)) (x1 : Int32) (x2 : Int32) (x3 : Int32) (r : Int32) (o_v_p0_st : (Nat → Int32)) (hf : f_X12_befriend i_p0_seats v_p0_st x1 x2 x3 = some (r, o_v_p0_st)) : Met l yX12_befriend wsX12_befriend rm_X12_befriend (pcG D G [.ref a_p0, .int x1, .int x2, .int x3] sz [(a_p0, .inr (12, [.ref a_p0_st, .ref a_p0_isKept, .int i_p0_seats, .int i_p0_stirs, .ref a_p0_brings, .ref a_p0_need, .ref a_p0_draft, .int i_p0_dSeats, .int i_p0_dStirs, .ref a_p0_dStir, .ref a_p0_dNeed, .int i_p0_told, .int i_p0_highest, .ref a_p0_tape, .int i_p0_taped, .int i_p0_pos, .int i_p0_from, .int i_p0_sort, .int i_p0_value, .int i_p0_fault, .int i_p0_wrongAt, .ref a_p0_places, .ref a_p0_stirred, .ref a_p0_ways, .ref a_p0_waysThen, .ref a_p0_stays, .ref a_p0_fewest, .ref a_p0_bowls, .ref a_p0_has, .ref a_p0_goesOn, .ref a_p0_isThere, .ref a_p0_isThereThen, .ref a_p0_bestRow, .ref a_p0_lanes, .ref a_p0_sizes, .ref a_p0_cells, .int i_p0_torn])), (a_p0_st, .inl (G 1, 152, .inl v_p0_st))]) (qcI D G r [(a_p0, .inr (12, [.ref a_p0_st, .ref a_p0_isKept, .int i_p0_seats, .int i_p0_stirs, .ref a_p0_brings, .ref a_p0_need, .ref a_p0_draft, .int i_p0_dSeats, .int i_p0_dStirs, .ref a_p0_dStir, .ref a_p0_dNeed, .int i_p0_told, .int i_p0_highest, .ref a_p0_tape, .int i_p0_taped, .int i_p0_pos, .int i_p0_from, .int i_p0_sort, .int i_p0_value, .int i_p0_fault, .int i_p0_wrongAt, .ref a_p0_places, .ref a_p0_stirred, .ref a_p0_ways, .ref a_p0_waysThen, .ref a_p0_stays, .ref a_p0_fewest, .ref a_p0_bowls, .ref a_p0_has, .ref a_p0_goesOn, .ref a_p0_isThere, .ref a_p0_isThereThen, .ref a_p0_bestRow, .ref a_p0_lanes, .ref a_p0_sizes, .ref a_p0_cells, .int i_p0_torn])), (a_p0_st, .inl (G 1, 152, .inl o_v_p0_st))] (va_A [(a_p0, .inr (12, [.ref a_p0_st, .ref a_p0_isKept, .int i_p0_seats, .int i_p0_stirs, .ref a_p0_brings, .ref a_p0_need, .ref a_p0_draft, .int i_p0_dSeats, .int i_p0_dStirs, .ref a_p0_dStir, .ref a_p0_dNeed, .int i_p0_told, .int i_p0_highest, .ref a_p0_tape, .int i_p0_taped, .int i_p0_pos, .int i_p0_from, .int i_p0_sort, .int i_p0_value, .int i_p0_fault, .int i_p0_wrongAt, .ref a_p0_places, .ref a_p0_stirred, .ref a_p0_ways, .ref a_p0_waysThen, .ref a_p0_stays, .ref a_p0_fewest, .ref a_p0_bowls, .ref a_p0_has, .ref a_p0_goesOn, .ref a_p0_isThere, .ref a_p0_isThereThen, .ref a_p0_bestRow, .ref a_p0_lanes, .ref a_p0_sizes, .ref a_p0_cells, .int i_p0_torn])), (a_p0_st, .inl (G 1, 152, .inl v_p0_st))] sz)) 0 0 (va_A [(a_p0, .inr (12, [.ref a_p0_st, .ref a_p0_isKept, .int i_p0_seats, .int i_p0_stirs, .ref a_p0_brings, .ref a_p0_need, .ref a_p0_draft, .int i_p0_dSeats, .int i_p0_dStirs, .ref a_p0_dStir, .ref a_p0_dNeed, .int i_p0_told, .int i_p0_highest, .ref a_p0_tape, .int i_p0_taped, .int i_p0_pos, .int i_p0_from, .int i_p0_sort, .int i_p0_value, .int i_p0_fault, .int i_p0_wrongAt, .ref a_p0_places, .ref a_p0_stirred, .ref a_p0_ways, .ref a_p0_waysThen, .ref a_p0_stays, .ref a_p0_fewest, .ref a_p0_bowls, .ref a_p0_has, .ref a_p0_goesOn, .ref a_p0_isThere, .ref a_p0_isThereThen, .ref a_p0_bestRow, .ref a_p0_lanes, .ref a_p0_sizes, .ref a_p0_cells, .int i_p0_torn])), (a_p0_st, .inl (G 1, 152, .inl v_p0_st))] sz) := by
  refine Met.ofW (cc := cX12_befriend) (maxL := 5) (ret := (some .int)) (by decide) rfl ?_
  intro p e s m args below meth c s₁ B hml hv
  obtain ⟨rfl, hsz, hP, hK, hD0⟩ := hv
  have hx := B.exec
  have hb := B.bytes
  have hr := B.returns
  have hts := atoms_spec (ws := wsX12_befriend) B.pre
  have hown : s.vm.findClass RX12 = some m.cls := findClass_of_methodNamed B.named
  have hlocks := B.notSynchronized
  subst hsz
  have hD := hD0.self (sz := s.heap.size)
  generalize hAe : va_A [(a_p0, .inr (12, [.ref a_p0_st, .ref a_p0_isKept, .int i_p0_seats, .int i_p0_stirs, .ref a_p0_brings, .ref a_p0_need, .ref a_p0_draft, .int i_p0_dSeats, .int i_p0_dStirs, .ref a_p0_dStir, .ref a_p0_dNeed, .int i_p0_told, .int i_p0_highest, .ref a_p0_tape, .int i_p0_taped, .int i_p0_pos, .int i_p0_from, .int i_p0_sort, .int i_p0_value, .int i_p0_fault, .int i_p0_wrongAt, .ref a_p0_places, .ref a_p0_stirred, .ref a_p0_ways, .ref a_p0_waysThen, .ref a_p0_stays, .ref a_p0_fewest, .ref a_p0_bowls, .ref a_p0_has, .ref a_p0_goesOn, .ref a_p0_isThere, .ref a_p0_isThereThen, .ref a_p0_bestRow, .ref a_p0_lanes, .ref a_p0_sizes, .ref a_p0_cells, .int i_p0_torn])), (a_p0_st, .inl (G 1, 152, .inl v_p0_st))] s.heap.size = A at hD ⊢
  have hA : ∀ q : Nat, s.heap.size ≤ q → A q := fun q h => by rw [← hAe]; exact Or.inr h
  clear hAe hD0
  have hS : va_S A s.heap s.heap [] := va_S.rf
  have hl := lv_entry ([.ref a_p0, .int x1, .int x2, .int x3]) (n := 5) (Nat.le_of_ble_eq_true rfl)
  rw [lg_entry_eq]
  generalize (lg_sl ([.ref a_p0, .int x1, .int x2, .int x3]) ++ List.replicate (5 - (lg_sl ([.ref a_p0, .int x1, .int x2, .int x3])).length) Slot.unset).toArray = ls at hl ⊢
  have hl : lv_has ls 5 [(0, .ref a_p0), (1, .int x1), (2, .int x2), (3, .int x3)] := hl
  refine W_nameQ (fun Q hQ => ?_)
  obtain ⟨H, hH⟩ : ∃ H, H = s.heap := ⟨_, rfl⟩
  replace hS : va_S A s.heap H [] := by rw [hH]; exact hS
  replace hP : va_P D vwCl [(a_p0, .inr (12, [.ref a_p0_st, .ref a_p0_isKept, .int i_p0_seats, .int i_p0_stirs, .ref a_p0_brings, .ref a_p0_need, .ref a_p0_draft, .int i_p0_dSeats, .int i_p0_dStirs, .ref a_p0_dStir, .ref a_p0_dNeed, .int i_p0_told, .int i_p0_highest, .ref a_p0_tape, .int i_p0_taped, .int i_p0_pos, .int i_p0_from, .int i_p0_sort, .int i_p0_value, .int i_p0_fault, .int i_p0_wrongAt, .ref a_p0_places, .ref a_p0_stirred, .ref a_p0_ways, .ref a_p0_waysThen, .ref a_p0_stays, .ref a_p0_fewest, .ref a_p0_bowls, .ref a_p0_has, .ref a_p0_goesOn, .ref a_p0_isThere, .ref a_p0_isThereThen, .ref a_p0_bestRow, .ref a_p0_lanes, .ref a_p0_sizes, .ref a_p0_cells, .int i_p0_torn])), (a_p0_st, .inl (G 1, 152, .inl v_p0_st))] H := by rw [hH]; exact hP
  rw [← hH]
  clear hH
  unfold f_X12_befriend at hf
  refine lv_aload_n hx hb dX12_befriend_0 rfl (lv_at hl 0 rfl) ?_
  refine lv_iload_n hx hb dX12_befriend_1 rfl (lv_at hl 1 rfl) ?_
  have hq := bd1_s hf
  clear hf
  obtain ⟨z1, hcall, hf⟩ := hq
  refine gcI (ws' := [(a_p0, .inr (12, [.ref a_p0_st, .ref a_p0_isKept, .int i_p0_seats, .int i_p0_stirs, .ref a_p0_brings, .ref a_p0_need, .ref a_p0_draft, .int i_p0_dSeats, .int i_p0_dStirs, .ref a_p0_dStir, .ref a_p0_dNeed, .int i_p0_told, .int i_p0_highest, .ref a_p0_tape, .int i_p0_taped, .int i_p0_pos, .int i_p0_from, .int i_p0_sort, .int i_p0_value, .int i_p0_fault, .int i_p0_wrongAt, .ref a_p0_places, .ref a_p0_stirred, .ref a_p0_ways, .ref a_p0_waysThen, .ref a_p0_stays, .ref a_p0_fewest, .ref a_p0_bowls, .ref a_p0_has, .ref a_p0_goesOn, .ref a_p0_isThere, .ref a_p0_isThereThen, .ref a_p0_bestRow, .ref a_p0_lanes, .ref a_p0_sizes, .ref a_p0_cells, .int i_p0_torn])), (a_p0_st, .inl (G 1, 152, .inl v_p0_st))]) (va_runV (As := [.int x1]) (rest := []) ⟨hx, hb, hml, hown, hts⟩ (c_X12_isSeat (l := l) (D := D) (G := G) (sz := H.size) (a_p0 := a_p0) (a_p0_st := a_p0_st) (a_p0_isKept := a_p0_isKept) (a_p0_brings := a_p0_brings) (a_p0_need := a_p0_need) (a_p0_draft := a_p0_draft) (a_p0_dStir := a_p0_dStir) (a_p0_dNeed := a_p0_dNeed) (a_p0_tape := a_p0_tape) (a_p0_places := a_p0_places) (a_p0_stirred := a_p0_stirred) (a_p0_ways := a_p0_ways) (a_p0_waysThen := a_p0_waysThen) (a_p0_stays := a_p0_stays) (a_p0_fewest := a_p0_fewest) (a_p0_bowls := a_p0_bowls) (a_p0_has := a_p0_has) (a_p0_goesOn := a_p0_goesOn) (a_p0_isThere := a_p0_isThere) (a_p0_isThereThen := a_p0_isThereThen) (a_p0_bestRow := a_p0_bestRow) (a_p0_lanes := a_p0_lanes) (a_p0_sizes := a_p0_sizes) (a_p0_cells := a_p0_cells) (i_p0_seats := i_p0_seats) (i_p0_stirs := i_p0_stirs) (i_p0_dSeats := i_p0_dSeats) (i_p0_dStirs := i_p0_dStirs) (i_p0_told := i_p0_told) (i_p0_highest := i_p0_highest) (i_p0_taped := i_p0_taped) (i_p0_pos := i_p0_pos) (i_p0_from := i_p0_from) (i_p0_sort := i_p0_sort) (i_p0_value := i_p0_value) (i_p0_fault := i_p0_fault) (i_p0_wrongAt := i_p0_wrongAt) (i_p0_torn := i_p0_torn) (x1 := x1) (r := z1) (hf := hcall)) (cwV 1 hts gX12_befriend_X12_isSeat rfl rfl rfl (by decide +kernel) ⟨Nat.le_of_ble_eq_true rfl, Nat.le_of_ble_eq_true rfl⟩) (preG_V (ci := 12) (hP.sub [0] rfl) (hD.sub [0] rfl rfl) hK rfl rfl) rfl rfl hl.1 rfl (lv_room (Nat.le_of_ble_eq_true rfl)) dX12_befriend_2 ⟨Nat.le_of_ble_eq_true rfl, Nat.le_of_ble_eq_true rfl⟩) hP hD hS hA [0] [1] [1, 0] rfl rfl rfl (by decide) rfl rfl rfl (fun H locs hP hD hS => ?_)
  clear hcall
  refine lv_if_eq (tgt := 21) hx hb dX12_befriend_5 (by decide) (fun cc => ?_) (fun cc => ?_)
  ·
    replace hf := ite_t cc hf
    clear cc
    refine lv_iconst (v := (-1 : Int32)) hx hb dX12_befriend_21 (by decide) ?_
    obtain ⟨rfl, rfl⟩ := ou2 hf
    rw [hQ]
    exact W.iret hx hb hr (fun t ht hW => ⟨⟨_, (), rfl, rfl, by rw [ht]; exact hP, va_K.moved hW.alike hK, hD⟩, hS.F ht⟩) hS.2.2 dX12_befriend_22
  ·
    replace hf := ite_f cc hf
    clear cc
    refine lv_aload_n hx hb dX12_befriend_8 rfl (lv_at hl 0 rfl) ?_
    refine lv_iload_n hx hb dX12_befriend_9 rfl (lv_at hl 2 rfl) ?_
    have hq := bd1_s hf
    clear hf
    obtain ⟨z2, hcall, hf⟩ := hq
    refine gcI (ws' := [(a_p0, .inr (12, [.ref a_p0_st, .ref a_p0_isKept, .int i_p0_seats, .int i_p0_stirs, .ref a_p0_brings, .ref a_p0_need, .ref a_p0_draft, .int i_p0_dSeats, .int i_p0_dStirs, .ref a_p0_dStir, .ref a_p0_dNeed, .int i_p0_told, .int i_p0_highest, .ref a_p0_tape, .int i_p0_taped, .int i_p0_pos, .int i_p0_from, .int i_p0_sort, .int i_p0_value, .int i_p0_fault, .int i_p0_wrongAt, .ref a_p0_places, .ref a_p0_stirred, .ref a_p0_ways, .ref a_p0_waysThen, .ref a_p0_stays, .ref a_p0_fewest, .ref a_p0_bowls, .ref a_p0_has, .ref a_p0_goesOn, .ref a_p0_isThere, .ref a_p0_isThereThen, .ref a_p0_bestRow, .ref a_p0_lanes, .ref a_p0_sizes, .ref a_p0_cells, .int i_p0_torn])), (a_p0_st, .inl (G 1, 152, .inl v_p0_st))]) (va_runV (As := [.int x2]) (rest := []) ⟨hx, hb, hml, hown, hts⟩ (c_X12_isSeat (l := l) (D := D) (G := G) (sz := H.size) (a_p0 := a_p0) (a_p0_st := a_p0_st) (a_p0_isKept := a_p0_isKept) (a_p0_brings := a_p0_brings) (a_p0_need := a_p0_need) (a_p0_draft := a_p0_draft) (a_p0_dStir := a_p0_dStir) (a_p0_dNeed := a_p0_dNeed) (a_p0_tape := a_p0_tape) (a_p0_places := a_p0_places) (a_p0_stirred := a_p0_stirred) (a_p0_ways := a_p0_ways) (a_p0_waysThen := a_p0_waysThen) (a_p0_stays := a_p0_stays) (a_p0_fewest := a_p0_fewest) (a_p0_bowls := a_p0_bowls) (a_p0_has := a_p0_has) (a_p0_goesOn := a_p0_goesOn) (a_p0_isThere := a_p0_isThere) (a_p0_isThereThen := a_p0_isThereThen) (a_p0_bestRow := a_p0_bestRow) (a_p0_lanes := a_p0_lanes) (a_p0_sizes := a_p0_sizes) (a_p0_cells := a_p0_cells) (i_p0_seats := i_p0_seats) (i_p0_stirs := i_p0_stirs) (i_p0_dSeats := i_p0_dSeats) (i_p0_dStirs := i_p0_dStirs) (i_p0_told := i_p0_told) (i_p0_highest := i_p0_highest) (i_p0_taped := i_p0_taped) (i_p0_pos := i_p0_pos) (i_p0_from := i_p0_from) (i_p0_sort := i_p0_sort) (i_p0_value := i_p0_value) (i_p0_fault := i_p0_fault) (i_p0_wrongAt := i_p0_wrongAt) (i_p0_torn := i_p0_torn) (x1 := x2) (r := z2) (hf := hcall)) (cwV 1 hts gX12_befriend_X12_isSeat rfl rfl rfl (by decide +kernel) ⟨Nat.le_of_ble_eq_true rfl, Nat.le_of_ble_eq_true rfl⟩) (preG_V (ci := 12) (hP.sub [0] rfl) (hD.sub [0] rfl rfl) hK rfl rfl) rfl rfl hl.1 rfl (lv_room (Nat.le_of_ble_eq_true rfl)) dX12_befriend_10 ⟨Nat.le_of_ble_eq_true rfl, Nat.le_of_ble_eq_true rfl⟩) hP hD hS hA [0] [1] [1, 0] rfl rfl rfl (by decide) rfl rfl rfl (fun H locs hP hD hS => ?_)
    clear hcall
    refine lv_if_eq (tgt := 21) hx hb dX12_befriend_13 (by decide) (fun cc => ?_) (fun cc => ?_)
    ·
      replace hf := ite_t cc hf
      clear cc
      refine lv_iconst (v := (-1 : Int32)) hx hb dX12_befriend_21 (by decide) ?_
      obtain ⟨rfl, rfl⟩ := ou2 hf
      rw [hQ]
      exact W.iret hx hb hr (fun t ht hW => ⟨⟨_, (), rfl, rfl, by rw [ht]; exact hP, va_K.moved hW.alike hK, hD⟩, hS.F ht⟩) hS.2.2 dX12_befriend_22
    ·
      replace hf := ite_f cc hf
      clear cc
      refine lv_iload_n hx hb dX12_befriend_16 rfl (lv_at hl 1 rfl) ?_
      refine lv_iload_n hx hb dX12_befriend_17 rfl (lv_at hl 2 rfl) ?_
      refine lv_icmp_ne (tgt := 23) hx hb dX12_befriend_18 (by decide) (fun cc => ?_) (fun cc => ?_)
      ·
        replace hf := ite_f cc hf
        clear cc
        refine lv_aload_n hx hb dX12_befriend_23 rfl (lv_at hl 0 rfl) ?_
        refine va_get (D := D) (ci := 12) (v := .ref a_p0_st) (C := RX12) (T := TX12) (N := 37) hx hb hts inX12_befriend_X12 hown hK hP 0 rfl rfl 0 (by decide) (hts _ mwX12_befriend_1) (fun _ h9 => h9) rfl dX12_befriend_24 ?_
        refine lv_bipush (v := (9 : Int32)) hx hb dX12_befriend_27 (by decide) ?_
        refine lv_iload_n hx hb dX12_befriend_29 rfl (lv_at hl 1 rfl) ?_
        refine lv_iadd hx hb dX12_befriend_30 ?_
        have hc := ck_c hf
        replace hf := ck_r hf
        refine va_iald hx hb hK hP 1 1 rfl rfl (ixB_in hc) dX12_befriend_31 ?_
        clear hc
        refine lv_iload_n hx hb dX12_befriend_32 rfl (lv_at hl 2 rfl) ?_
        refine lv_ishr hx hb dX12_befriend_33 ?_
        refine lv_iconst (v := (1 : Int32)) hx hb dX12_befriend_34 (by decide) ?_
        refine lv_iand hx hb dX12_befriend_35 ?_
        refine lv_topi (fun z3 ez => ?_)
        replace hf := bnd_s hf ez
        clear ez
        refine lv_istore (lv' := [(4, .int z3), (0, .ref a_p0), (1, .int x1), (2, .int x2), (3, .int x3)]) hx hb dX12_befriend_36 hl (by decide) rfl (fun ls hl => ?_)
        refine lv_aload_n hx hb dX12_befriend_38 rfl (lv_at hl 1 rfl) ?_
        refine va_get (D := D) (ci := 12) (v := .ref a_p0_st) (C := RX12) (T := TX12) (N := 37) hx hb hts inX12_befriend_X12 hown hK hP 0 rfl rfl 0 (by decide) (hts _ mwX12_befriend_1) (fun _ h9 => h9) rfl dX12_befriend_39 ?_
        refine lv_bipush (v := (9 : Int32)) hx hb dX12_befriend_42 (by decide) ?_
        refine lv_iload_n hx hb dX12_befriend_44 rfl (lv_at hl 2 rfl) ?_
        refine lv_iadd hx hb dX12_befriend_45 ?_
        refine lv_iload_n hx hb dX12_befriend_46 rfl (lv_at hl 4 rfl) ?_
        refine lv_if_eq (tgt := 66) hx hb dX12_befriend_47 (by decide) (fun cc => ?_) (fun cc => ?_)
        ·
          replace hf := ite_t cc hf
          clear cc
          refine lv_aload_n hx hb dX12_befriend_66 rfl (lv_at hl 1 rfl) ?_
          refine va_get (D := D) (ci := 12) (v := .ref a_p0_st) (C := RX12) (T := TX12) (N := 37) hx hb hts inX12_befriend_X12 hown hK hP 0 rfl rfl 0 (by decide) (hts _ mwX12_befriend_1) (fun _ h9 => h9) rfl dX12_befriend_67 ?_
          refine lv_bipush (v := (9 : Int32)) hx hb dX12_befriend_70 (by decide) ?_
          refine lv_iload_n hx hb dX12_befriend_72 rfl (lv_at hl 2 rfl) ?_
          refine lv_iadd hx hb dX12_befriend_73 ?_
          have hc := ck_c hf
          replace hf := ck_r hf
          refine va_iald hx hb hK hP 1 1 rfl rfl (ixB_in hc) dX12_befriend_74 ?_
          clear hc
          refine lv_iconst (v := (1 : Int32)) hx hb dX12_befriend_75 (by decide) ?_
          refine lv_iload_n hx hb dX12_befriend_76 rfl (lv_at hl 3 rfl) ?_
          refine lv_ishl hx hb dX12_befriend_77 ?_
          refine lv_iconst (v := (-1 : Int32)) hx hb dX12_befriend_78 (by decide) ?_
          refine lv_ixor hx hb dX12_befriend_79 ?_
          refine lv_iand hx hb dX12_befriend_80 ?_
          have hc := ck_c hf
          replace hf := ck_r hf
          refine gs_iast (wf := fun w4 => [(a_p0, .inr (12, [.ref a_p0_st, .ref a_p0_isKept, .int i_p0_seats, .int i_p0_stirs, .ref a_p0_brings, .ref a_p0_need, .ref a_p0_draft, .int i_p0_dSeats, .int i_p0_dStirs, .ref a_p0_dStir, .ref a_p0_dNeed, .int i_p0_told, .int i_p0_highest, .ref a_p0_tape, .int i_p0_taped, .int i_p0_pos, .int i_p0_from, .int i_p0_sort, .int i_p0_value, .int i_p0_fault, .int i_p0_wrongAt, .ref a_p0_places, .ref a_p0_stirred, .ref a_p0_ways, .ref a_p0_waysThen, .ref a_p0_stays, .ref a_p0_fewest, .ref a_p0_bowls, .ref a_p0_has, .ref a_p0_goesOn, .ref a_p0_isThere, .ref a_p0_isThereThen, .ref a_p0_bestRow, .ref a_p0_lanes, .ref a_p0_sizes, .ref a_p0_cells, .int i_p0_torn])), (a_p0_st, .inl (G 1, 152, .inl w4))]) hx hb hK hP hD hS 1 1 rfl rfl (ixB_in hc) dX12_befriend_81 (fun _ => rfl) (fun w4 ez H locs hP hD hS => ?_)
          replace hf := bnd_s hf ez
          clear ez hc
          refine lv_iload hx hb dX12_befriend_82 (lv_at hl 0 rfl) ?_
          obtain ⟨rfl, rfl⟩ := ou2 hf
          rw [hQ]
          exact W.iret hx hb hr (fun t ht hW => ⟨⟨_, (), rfl, rfl, by rw [ht]; exact hP, va_K.moved hW.alike hK, hD⟩, hS.F ht⟩) hS.2.2 dX12_befriend_84
        ·
          replace hf := ite_f cc hf
          clear cc
          refine lv_aload_n hx hb dX12_befriend_50 rfl (lv_at hl 1 rfl) ?_
          refine va_get (D := D) (ci := 12) (v := .ref a_p0_st) (C := RX12) (T := TX12) (N := 37) hx hb hts inX12_befriend_X12 hown hK hP 0 rfl rfl 0 (by decide) (hts _ mwX12_befriend_1) (fun _ h9 => h9) rfl dX12_befriend_51 ?_
          refine lv_bipush (v := (9 : Int32)) hx hb dX12_befriend_54 (by decide) ?_
          refine lv_iload_n hx hb dX12_befriend_56 rfl (lv_at hl 2 rfl) ?_
          refine lv_iadd hx hb dX12_befriend_57 ?_
          have hc := ck_c hf
          replace hf := ck_r hf
          refine va_iald hx hb hK hP 1 1 rfl rfl (ixB_in hc) dX12_befriend_58 ?_
          clear hc
          refine lv_iconst (v := (1 : Int32)) hx hb dX12_befriend_59 (by decide) ?_
          refine lv_iload_n hx hb dX12_befriend_60 rfl (lv_at hl 3 rfl) ?_
          refine lv_ishl hx hb dX12_befriend_61 ?_
          refine lv_ior hx hb dX12_befriend_62 ?_
          refine lv_goto (tgt := 81) hx hb dX12_befriend_63 (by decide) ?_
          have hc := ck_c hf
          replace hf := ck_r hf
          refine gs_iast (wf := fun w5 => [(a_p0, .inr (12, [.ref a_p0_st, .ref a_p0_isKept, .int i_p0_seats, .int i_p0_stirs, .ref a_p0_brings, .ref a_p0_need, .ref a_p0_draft, .int i_p0_dSeats, .int i_p0_dStirs, .ref a_p0_dStir, .ref a_p0_dNeed, .int i_p0_told, .int i_p0_highest, .ref a_p0_tape, .int i_p0_taped, .int i_p0_pos, .int i_p0_from, .int i_p0_sort, .int i_p0_value, .int i_p0_fault, .int i_p0_wrongAt, .ref a_p0_places, .ref a_p0_stirred, .ref a_p0_ways, .ref a_p0_waysThen, .ref a_p0_stays, .ref a_p0_fewest, .ref a_p0_bowls, .ref a_p0_has, .ref a_p0_goesOn, .ref a_p0_isThere, .ref a_p0_isThereThen, .ref a_p0_bestRow, .ref a_p0_lanes, .ref a_p0_sizes, .ref a_p0_cells, .int i_p0_torn])), (a_p0_st, .inl (G 1, 152, .inl w5))]) hx hb hK hP hD hS 1 1 rfl rfl (ixB_in hc) dX12_befriend_81 (fun _ => rfl) (fun w5 ez H locs hP hD hS => ?_)
          replace hf := bnd_s hf ez
          clear ez hc
          refine lv_iload hx hb dX12_befriend_82 (lv_at hl 0 rfl) ?_
          obtain ⟨rfl, rfl⟩ := ou2 hf
          rw [hQ]
          exact W.iret hx hb hr (fun t ht hW => ⟨⟨_, (), rfl, rfl, by rw [ht]; exact hP, va_K.moved hW.alike hK, hD⟩, hS.F ht⟩) hS.2.2 dX12_befriend_84
      ·
        replace hf := ite_t cc hf
        clear cc
        refine lv_iconst (v := (-1 : Int32)) hx hb dX12_befriend_21 (by decide) ?_
        obtain ⟨rfl, rfl⟩ := ou2 hf
        rw [hQ]
        exact W.iret hx hb hr (fun t ht hW => ⟨⟨_, (), rfl, rfl, by rw [ht]; exact hP, va_K.moved hW.alike hK, hD⟩, hS.F ht⟩) hS.2.2 dX12_befriend_22

noncomputable def f_X12_spoon (i_p0_seats : Int32) (v_p0_st : (Nat → Int32)) (x1 : Int32) (x2 : Int32) : Option (Int32 × (Nat → Int32)) := (bd1 (f_X12_isSeat i_p0_seats x1) (fun (z1 : Int32) => (if z1 = 0 then (some ((-1 : Int32), v_p0_st)) else (bd1 (f_X12_in (x2).toInt64 (1 : Int64) (9 : Int64)) (fun (z2 : Int32) => (if z2 = 0 then (some ((-1 : Int32), v_p0_st)) else (ck (ixB ((16 : Int32) + x1) 152) (bnd (v_p0_st (((16 : Int32) + x1)).toNatClampNeg) (fun (z3 : Int32) => (ck (ixB ((16 : Int32) + x1) 152) (bnd (upd v_p0_st (((16 : Int32) + x1)).toNatClampNeg x2) (fun (w4 : (Nat → Int32)) => (some (z3, w4))))))))))))))
abbrev rm_X12_spoon : Room := { frames := 2, cells := 0, slots := 0, locals := 46 }
theorem mwX12_spoon_0 : Cond.constantLong RX12 210 (9) ∈ wsX12_spoon := by decide +kernel
theorem inX12_spoon_X12 : ∀ w ∈ wsX120, w ∈ wsX12_spoon := by decide +kernel
theorem mwX12_spoon_2 : Cond.fieldLink RX12 7 "LadleKingsModel" "st" "[I" ∈ wsX12_spoon := by decide +kernel
set_option maxHeartbeats 8000000 in
set_option maxRecDepth 100000 in
theorem c_X12_spoon (l : Launch) (D : va_G) (G : Nat → ClassId) (sz : Nat) (a_p0 : Nat) (a_p0_st : Nat) (a_p0_isKept : Nat) (a_p0_brings : Nat) (a_p0_need : Nat) (a_p0_draft : Nat) (a_p0_dStir : Nat) (a_p0_dNeed : Nat) (a_p0_tape : Nat) (a_p0_places : Nat) (a_p0_stirred : Nat) (a_p0_ways : Nat) (a_p0_waysThen : Nat) (a_p0_stays : Nat) (a_p0_fewest : Nat) (a_p0_bowls : Nat) (a_p0_has : Nat) (a_p0_goesOn : Nat) (a_p0_isThere : Nat) (a_p0_isThereThen : Nat) (a_p0_bestRow : Nat) (a_p0_lanes : Nat) (a_p0_sizes : Nat) (a_p0_cells : Nat) (i_p0_seats : Int32) (i_p0_stirs : Int32) (i_p0_dSeats : Int32) (i_p0_dStirs : Int32) (i_p0_told : Int32) (i_p0_highest : Int32) (i_p0_taped : Int32) (i_p0_pos : Int32) (i_p0_from : Int32) (i_p0_sort : Int32) (i_p0_value : Int32) (i_p0_fault : Int32) (i_p0_wrongAt : Int32) (i_p0_torn : Int32) (v_p0_st : (Nat → Int32)) (x1 : Int32) (x2 : Int32) (r : Int32) (o_v_p0_st : (Nat → Int32)) (hf : f_X12_spoon i_p0_seats v_p0_st x1 x2 = some (r, o_v_p0_st)) : Met l yX12_spoon wsX12_spoon rm_X12_spoon (pcG D G [.ref a_p0, .int x1, .int x2] sz [(a_p0, .inr (12, [.ref a_p0_st, .ref a_p0_isKept, .int i_p0_seats, .int i_p0_stirs, .ref a_p0_brings, .ref a_p0_need, .ref a_p0_draft, .int i_p0_dSeats, .int i_p0_dStirs, .ref a_p0_dStir, .ref a_p0_dNeed, .int i_p0_told, .int i_p0_highest, .ref a_p0_tape, .int i_p0_taped, .int i_p0_pos, .int i_p0_from, .int i_p0_sort, .int i_p0_value, .int i_p0_fault, .int i_p0_wrongAt, .ref a_p0_places, .ref a_p0_stirred, .ref a_p0_ways, .ref a_p0_waysThen, .ref a_p0_stays, .ref a_p0_fewest, .ref a_p0_bowls, .ref a_p0_has, .ref a_p0_goesOn, .ref a_p0_isThere, .ref a_p0_isThereThen, .ref a_p0_bestRow, .ref a_p0_lanes, .ref a_p0_sizes, .ref a_p0_cells, .int i_p0_torn])), (a_p0_st, .inl (G 1, 152, .inl v_p0_st))]) (qcI D G r [(a_p0, .inr (12, [.ref a_p0_st, .ref a_p0_isKept, .int i_p0_seats, .int i_p0_stirs, .ref a_p0_brings, .ref a_p0_need, .ref a_p0_draft, .int i_p0_dSeats, .int i_p0_dStirs, .ref a_p0_dStir, .ref a_p0_dNeed, .int i_p0_told, .int i_p0_highest, .ref a_p0_tape, .int i_p0_taped, .int i_p0_pos, .int i_p0_from, .int i_p0_sort, .int i_p0_value, .int i_p0_fault, .int i_p0_wrongAt, .ref a_p0_places, .ref a_p0_stirred, .ref a_p0_ways, .ref a_p0_waysThen, .ref a_p0_stays, .ref a_p0_fewest, .ref a_p0_bowls, .ref a_p0_has, .ref a_p0_goesOn, .ref a_p0_isThere, .ref a_p0_isThereThen, .ref a_p0_bestRow, .ref a_p0_lanes, .ref a_p0_sizes, .ref a_p0_cells, .int i_p0_torn])), (a_p0_st, .inl (G 1, 152, .inl o_v_p0_st))] (va_A [(a_p0, .inr (12, [.ref a_p0_st, .ref a_p0_isKept, .int i_p0_seats, .int i_p0_stirs, .ref a_p0_brings, .ref a_p0_need, .ref a_p0_draft, .int i_p0_dSeats, .int i_p0_dStirs, .ref a_p0_dStir, .ref a_p0_dNeed, .int i_p0_told, .int i_p0_highest, .ref a_p0_tape, .int i_p0_taped, .int i_p0_pos, .int i_p0_from, .int i_p0_sort, .int i_p0_value, .int i_p0_fault, .int i_p0_wrongAt, .ref a_p0_places, .ref a_p0_stirred, .ref a_p0_ways, .ref a_p0_waysThen, .ref a_p0_stays, .ref a_p0_fewest, .ref a_p0_bowls, .ref a_p0_has, .ref a_p0_goesOn, .ref a_p0_isThere, .ref a_p0_isThereThen, .ref a_p0_bestRow, .ref a_p0_lanes, .ref a_p0_sizes, .ref a_p0_cells, .int i_p0_torn])), (a_p0_st, .inl (G 1, 152, .inl v_p0_st))] sz)) 0 0 (va_A [(a_p0, .inr (12, [.ref a_p0_st, .ref a_p0_isKept, .int i_p0_seats, .int i_p0_stirs, .ref a_p0_brings, .ref a_p0_need, .ref a_p0_draft, .int i_p0_dSeats, .int i_p0_dStirs, .ref a_p0_dStir, .ref a_p0_dNeed, .int i_p0_told, .int i_p0_highest, .ref a_p0_tape, .int i_p0_taped, .int i_p0_pos, .int i_p0_from, .int i_p0_sort, .int i_p0_value, .int i_p0_fault, .int i_p0_wrongAt, .ref a_p0_places, .ref a_p0_stirred, .ref a_p0_ways, .ref a_p0_waysThen, .ref a_p0_stays, .ref a_p0_fewest, .ref a_p0_bowls, .ref a_p0_has, .ref a_p0_goesOn, .ref a_p0_isThere, .ref a_p0_isThereThen, .ref a_p0_bestRow, .ref a_p0_lanes, .ref a_p0_sizes, .ref a_p0_cells, .int i_p0_torn])), (a_p0_st, .inl (G 1, 152, .inl v_p0_st))] sz) := by
  refine Met.ofW (cc := cX12_spoon) (maxL := 4) (ret := (some .int)) (by decide) rfl ?_
  intro p e s m args below meth c s₁ B hml hv
  obtain ⟨rfl, hsz, hP, hK, hD0⟩ := hv
  have hx := B.exec
  have hb := B.bytes
  have hr := B.returns
  have hts := atoms_spec (ws := wsX12_spoon) B.pre
  have hown : s.vm.findClass RX12 = some m.cls := findClass_of_methodNamed B.named
  have hlocks := B.notSynchronized
  subst hsz
  have hD := hD0.self (sz := s.heap.size)
  generalize hAe : va_A [(a_p0, .inr (12, [.ref a_p0_st, .ref a_p0_isKept, .int i_p0_seats, .int i_p0_stirs, .ref a_p0_brings, .ref a_p0_need, .ref a_p0_draft, .int i_p0_dSeats, .int i_p0_dStirs, .ref a_p0_dStir, .ref a_p0_dNeed, .int i_p0_told, .int i_p0_highest, .ref a_p0_tape, .int i_p0_taped, .int i_p0_pos, .int i_p0_from, .int i_p0_sort, .int i_p0_value, .int i_p0_fault, .int i_p0_wrongAt, .ref a_p0_places, .ref a_p0_stirred, .ref a_p0_ways, .ref a_p0_waysThen, .ref a_p0_stays, .ref a_p0_fewest, .ref a_p0_bowls, .ref a_p0_has, .ref a_p0_goesOn, .ref a_p0_isThere, .ref a_p0_isThereThen, .ref a_p0_bestRow, .ref a_p0_lanes, .ref a_p0_sizes, .ref a_p0_cells, .int i_p0_torn])), (a_p0_st, .inl (G 1, 152, .inl v_p0_st))] s.heap.size = A at hD ⊢
  have hA : ∀ q : Nat, s.heap.size ≤ q → A q := fun q h => by rw [← hAe]; exact Or.inr h
  clear hAe hD0
  have hS : va_S A s.heap s.heap [] := va_S.rf
  have hl := lv_entry ([.ref a_p0, .int x1, .int x2]) (n := 4) (Nat.le_of_ble_eq_true rfl)
  rw [lg_entry_eq]
  generalize (lg_sl ([.ref a_p0, .int x1, .int x2]) ++ List.replicate (4 - (lg_sl ([.ref a_p0, .int x1, .int x2])).length) Slot.unset).toArray = ls at hl ⊢
  have hl : lv_has ls 4 [(0, .ref a_p0), (1, .int x1), (2, .int x2)] := hl
  refine W_nameQ (fun Q hQ => ?_)
  obtain ⟨H, hH⟩ : ∃ H, H = s.heap := ⟨_, rfl⟩
  replace hS : va_S A s.heap H [] := by rw [hH]; exact hS
  replace hP : va_P D vwCl [(a_p0, .inr (12, [.ref a_p0_st, .ref a_p0_isKept, .int i_p0_seats, .int i_p0_stirs, .ref a_p0_brings, .ref a_p0_need, .ref a_p0_draft, .int i_p0_dSeats, .int i_p0_dStirs, .ref a_p0_dStir, .ref a_p0_dNeed, .int i_p0_told, .int i_p0_highest, .ref a_p0_tape, .int i_p0_taped, .int i_p0_pos, .int i_p0_from, .int i_p0_sort, .int i_p0_value, .int i_p0_fault, .int i_p0_wrongAt, .ref a_p0_places, .ref a_p0_stirred, .ref a_p0_ways, .ref a_p0_waysThen, .ref a_p0_stays, .ref a_p0_fewest, .ref a_p0_bowls, .ref a_p0_has, .ref a_p0_goesOn, .ref a_p0_isThere, .ref a_p0_isThereThen, .ref a_p0_bestRow, .ref a_p0_lanes, .ref a_p0_sizes, .ref a_p0_cells, .int i_p0_torn])), (a_p0_st, .inl (G 1, 152, .inl v_p0_st))] H := by rw [hH]; exact hP
  rw [← hH]
  clear hH
  unfold f_X12_spoon at hf
  refine lv_aload_n hx hb dX12_spoon_0 rfl (lv_at hl 0 rfl) ?_
  refine lv_iload_n hx hb dX12_spoon_1 rfl (lv_at hl 1 rfl) ?_
  have hq := bd1_s hf
  clear hf
  obtain ⟨z1, hcall, hf⟩ := hq
  refine gcI (ws' := [(a_p0, .inr (12, [.ref a_p0_st, .ref a_p0_isKept, .int i_p0_seats, .int i_p0_stirs, .ref a_p0_brings, .ref a_p0_need, .ref a_p0_draft, .int i_p0_dSeats, .int i_p0_dStirs, .ref a_p0_dStir, .ref a_p0_dNeed, .int i_p0_told, .int i_p0_highest, .ref a_p0_tape, .int i_p0_taped, .int i_p0_pos, .int i_p0_from, .int i_p0_sort, .int i_p0_value, .int i_p0_fault, .int i_p0_wrongAt, .ref a_p0_places, .ref a_p0_stirred, .ref a_p0_ways, .ref a_p0_waysThen, .ref a_p0_stays, .ref a_p0_fewest, .ref a_p0_bowls, .ref a_p0_has, .ref a_p0_goesOn, .ref a_p0_isThere, .ref a_p0_isThereThen, .ref a_p0_bestRow, .ref a_p0_lanes, .ref a_p0_sizes, .ref a_p0_cells, .int i_p0_torn])), (a_p0_st, .inl (G 1, 152, .inl v_p0_st))]) (va_runV (As := [.int x1]) (rest := []) ⟨hx, hb, hml, hown, hts⟩ (c_X12_isSeat (l := l) (D := D) (G := G) (sz := H.size) (a_p0 := a_p0) (a_p0_st := a_p0_st) (a_p0_isKept := a_p0_isKept) (a_p0_brings := a_p0_brings) (a_p0_need := a_p0_need) (a_p0_draft := a_p0_draft) (a_p0_dStir := a_p0_dStir) (a_p0_dNeed := a_p0_dNeed) (a_p0_tape := a_p0_tape) (a_p0_places := a_p0_places) (a_p0_stirred := a_p0_stirred) (a_p0_ways := a_p0_ways) (a_p0_waysThen := a_p0_waysThen) (a_p0_stays := a_p0_stays) (a_p0_fewest := a_p0_fewest) (a_p0_bowls := a_p0_bowls) (a_p0_has := a_p0_has) (a_p0_goesOn := a_p0_goesOn) (a_p0_isThere := a_p0_isThere) (a_p0_isThereThen := a_p0_isThereThen) (a_p0_bestRow := a_p0_bestRow) (a_p0_lanes := a_p0_lanes) (a_p0_sizes := a_p0_sizes) (a_p0_cells := a_p0_cells) (i_p0_seats := i_p0_seats) (i_p0_stirs := i_p0_stirs) (i_p0_dSeats := i_p0_dSeats) (i_p0_dStirs := i_p0_dStirs) (i_p0_told := i_p0_told) (i_p0_highest := i_p0_highest) (i_p0_taped := i_p0_taped) (i_p0_pos := i_p0_pos) (i_p0_from := i_p0_from) (i_p0_sort := i_p0_sort) (i_p0_value := i_p0_value) (i_p0_fault := i_p0_fault) (i_p0_wrongAt := i_p0_wrongAt) (i_p0_torn := i_p0_torn) (x1 := x1) (r := z1) (hf := hcall)) (cwV 1 hts gX12_spoon_X12_isSeat rfl rfl rfl (by decide +kernel) ⟨Nat.le_of_ble_eq_true rfl, Nat.le_of_ble_eq_true rfl⟩) (preG_V (ci := 12) (hP.sub [0] rfl) (hD.sub [0] rfl rfl) hK rfl rfl) rfl rfl hl.1 rfl (lv_room (Nat.le_of_ble_eq_true rfl)) dX12_spoon_2 ⟨Nat.le_of_ble_eq_true rfl, Nat.le_of_ble_eq_true rfl⟩) hP hD hS hA [0] [1] [1, 0] rfl rfl rfl (by decide) rfl rfl rfl (fun H locs hP hD hS => ?_)
  clear hcall
  refine lv_if_eq (tgt := 20) hx hb dX12_spoon_5 (by decide) (fun cc => ?_) (fun cc => ?_)
  ·
    replace hf := ite_t cc hf
    clear cc
    refine lv_iconst (v := (-1 : Int32)) hx hb dX12_spoon_20 (by decide) ?_
    obtain ⟨rfl, rfl⟩ := ou2 hf
    rw [hQ]
    exact W.iret hx hb hr (fun t ht hW => ⟨⟨_, (), rfl, rfl, by rw [ht]; exact hP, va_K.moved hW.alike hK, hD⟩, hS.F ht⟩) hS.2.2 dX12_spoon_21
  ·
    replace hf := ite_f cc hf
    clear cc
    refine lv_iload_n hx hb dX12_spoon_8 rfl (lv_at hl 2 rfl) ?_
    refine lv_i2l hx hb dX12_spoon_9 rfl ?_
    refine lv_lconst (v := (1 : Int64)) hx hb dX12_spoon_10 (by decide) ?_
    refine lv_ldc2 (v := (9 : Int64)) hx hb hown (hts _ mwX12_spoon_0) dX12_spoon_11 ?_
    have hq := bd1_s hf
    clear hf
    obtain ⟨z2, hcall, hf⟩ := hq
    refine gcI (ws' := [(a_p0, .inr (12, [.ref a_p0_st, .ref a_p0_isKept, .int i_p0_seats, .int i_p0_stirs, .ref a_p0_brings, .ref a_p0_need, .ref a_p0_draft, .int i_p0_dSeats, .int i_p0_dStirs, .ref a_p0_dStir, .ref a_p0_dNeed, .int i_p0_told, .int i_p0_highest, .ref a_p0_tape, .int i_p0_taped, .int i_p0_pos, .int i_p0_from, .int i_p0_sort, .int i_p0_value, .int i_p0_fault, .int i_p0_wrongAt, .ref a_p0_places, .ref a_p0_stirred, .ref a_p0_ways, .ref a_p0_waysThen, .ref a_p0_stays, .ref a_p0_fewest, .ref a_p0_bowls, .ref a_p0_has, .ref a_p0_goesOn, .ref a_p0_isThere, .ref a_p0_isThereThen, .ref a_p0_bestRow, .ref a_p0_lanes, .ref a_p0_sizes, .ref a_p0_cells, .int i_p0_torn])), (a_p0_st, .inl (G 1, 152, .inl v_p0_st))]) (va_runS (As := [.long (x2).toInt64, .long (1 : Int64), .long (9 : Int64)]) (rest := []) ⟨hx, hb, hml, hown, hts⟩ (c_X12_in (l := l) (D := D) (G := G) (sz := H.size) (x0 := (x2).toInt64) (x2 := (1 : Int64)) (x4 := (9 : Int64)) (r := z2) (hf := hcall)) (va_cwS 3 hts gX12_spoon_X12_in rfl rfl rfl (by decide +kernel) ⟨Nat.le_of_ble_eq_true rfl, Nat.le_of_ble_eq_true rfl⟩) (preG_S (hP.sub [] rfl) (hD.sub [] rfl rfl) hK) rfl rfl hl.1 rfl (lv_room (Nat.le_of_ble_eq_true rfl)) dX12_spoon_14 ⟨Nat.le_of_ble_eq_true rfl, Nat.le_of_ble_eq_true rfl⟩) hP hD hS hA [] [0, 1] [0, 1] rfl rfl rfl (by decide) rfl rfl rfl (fun H locs hP hD hS => ?_)
    clear hcall
    refine lv_if_ne (tgt := 22) hx hb dX12_spoon_17 (by decide) (fun cc => ?_) (fun cc => ?_)
    ·
      replace hf := ite_f cc hf
      clear cc
      refine lv_aload_n hx hb dX12_spoon_22 rfl (lv_at hl 0 rfl) ?_
      refine va_get (D := D) (ci := 12) (v := .ref a_p0_st) (C := RX12) (T := TX12) (N := 37) hx hb hts inX12_spoon_X12 hown hK hP 0 rfl rfl 0 (by decide) (hts _ mwX12_spoon_2) (fun _ h9 => h9) rfl dX12_spoon_23 ?_
      refine lv_bipush (v := (16 : Int32)) hx hb dX12_spoon_26 (by decide) ?_
      refine lv_iload_n hx hb dX12_spoon_28 rfl (lv_at hl 1 rfl) ?_
      refine lv_iadd hx hb dX12_spoon_29 ?_
      have hc := ck_c hf
      replace hf := ck_r hf
      refine va_iald hx hb hK hP 1 1 rfl rfl (ixB_in hc) dX12_spoon_30 ?_
      clear hc
      refine lv_topi (fun z3 ez => ?_)
      replace hf := bnd_s hf ez
      clear ez
      refine lv_istore_n (lv' := [(3, .int z3), (0, .ref a_p0), (1, .int x1), (2, .int x2)]) hx hb dX12_spoon_31 rfl hl (by decide) rfl (fun ls hl => ?_)
      refine lv_aload_n hx hb dX12_spoon_32 rfl (lv_at hl 1 rfl) ?_
      refine va_get (D := D) (ci := 12) (v := .ref a_p0_st) (C := RX12) (T := TX12) (N := 37) hx hb hts inX12_spoon_X12 hown hK hP 0 rfl rfl 0 (by decide) (hts _ mwX12_spoon_2) (fun _ h9 => h9) rfl dX12_spoon_33 ?_
      refine lv_bipush (v := (16 : Int32)) hx hb dX12_spoon_36 (by decide) ?_
      refine lv_iload_n hx hb dX12_spoon_38 rfl (lv_at hl 2 rfl) ?_
      refine lv_iadd hx hb dX12_spoon_39 ?_
      refine lv_iload_n hx hb dX12_spoon_40 rfl (lv_at hl 3 rfl) ?_
      have hc := ck_c hf
      replace hf := ck_r hf
      refine gs_iast (wf := fun w4 => [(a_p0, .inr (12, [.ref a_p0_st, .ref a_p0_isKept, .int i_p0_seats, .int i_p0_stirs, .ref a_p0_brings, .ref a_p0_need, .ref a_p0_draft, .int i_p0_dSeats, .int i_p0_dStirs, .ref a_p0_dStir, .ref a_p0_dNeed, .int i_p0_told, .int i_p0_highest, .ref a_p0_tape, .int i_p0_taped, .int i_p0_pos, .int i_p0_from, .int i_p0_sort, .int i_p0_value, .int i_p0_fault, .int i_p0_wrongAt, .ref a_p0_places, .ref a_p0_stirred, .ref a_p0_ways, .ref a_p0_waysThen, .ref a_p0_stays, .ref a_p0_fewest, .ref a_p0_bowls, .ref a_p0_has, .ref a_p0_goesOn, .ref a_p0_isThere, .ref a_p0_isThereThen, .ref a_p0_bestRow, .ref a_p0_lanes, .ref a_p0_sizes, .ref a_p0_cells, .int i_p0_torn])), (a_p0_st, .inl (G 1, 152, .inl w4))]) hx hb hK hP hD hS 1 1 rfl rfl (ixB_in hc) dX12_spoon_41 (fun _ => rfl) (fun w4 ez H locs hP hD hS => ?_)
      replace hf := bnd_s hf ez
      clear ez hc
      refine lv_iload_n hx hb dX12_spoon_42 rfl (lv_at hl 0 rfl) ?_
      obtain ⟨rfl, rfl⟩ := ou2 hf
      rw [hQ]
      exact W.iret hx hb hr (fun t ht hW => ⟨⟨_, (), rfl, rfl, by rw [ht]; exact hP, va_K.moved hW.alike hK, hD⟩, hS.F ht⟩) hS.2.2 dX12_spoon_43
    ·
      replace hf := ite_t cc hf
      clear cc
      refine lv_iconst (v := (-1 : Int32)) hx hb dX12_spoon_20 (by decide) ?_
      obtain ⟨rfl, rfl⟩ := ou2 hf
      rw [hQ]
      exact W.iret hx hb hr (fun t ht hW => ⟨⟨_, (), rfl, rfl, by rw [ht]; exact hP, va_K.moved hW.alike hK, hD⟩, hS.F ht⟩) hS.2.2 dX12_spoon_21

noncomputable def f_X12_crown (i_p0_seats : Int32) (v_p0_st : (Nat → Int32)) (x1 : Int32) : Option (Int32 × (Nat → Int32)) := (bd1 (f_X12_isSeat i_p0_seats x1) (fun (z1 : Int32) => (if z1 = 0 then (some ((-1 : Int32), v_p0_st)) else (ck (ixB (8 : Int32) 152) (bnd (v_p0_st ((8 : Int32)).toNatClampNeg) (fun (z2 : Int32) => (ck (ixB (8 : Int32) 152) (bnd (upd v_p0_st ((8 : Int32)).toNatClampNeg x1) (fun (w3 : (Nat → Int32)) => (some (z2, w3)))))))))))
abbrev rm_X12_crown : Room := { frames := 2, cells := 0, slots := 0, locals := 46 }
theorem inX12_crown_X12 : ∀ w ∈ wsX120, w ∈ wsX12_crown := by decide +kernel
theorem mwX12_crown_1 : Cond.fieldLink RX12 7 "LadleKingsModel" "st" "[I" ∈ wsX12_crown := by decide +kernel
set_option maxHeartbeats 8000000 in
set_option maxRecDepth 100000 in
theorem c_X12_crown (l : Launch) (D : va_G) (G : Nat → ClassId) (sz : Nat) (a_p0 : Nat) (a_p0_st : Nat) (a_p0_isKept : Nat) (a_p0_brings : Nat) (a_p0_need : Nat) (a_p0_draft : Nat) (a_p0_dStir : Nat) (a_p0_dNeed : Nat) (a_p0_tape : Nat) (a_p0_places : Nat) (a_p0_stirred : Nat) (a_p0_ways : Nat) (a_p0_waysThen : Nat) (a_p0_stays : Nat) (a_p0_fewest : Nat) (a_p0_bowls : Nat) (a_p0_has : Nat) (a_p0_goesOn : Nat) (a_p0_isThere : Nat) (a_p0_isThereThen : Nat) (a_p0_bestRow : Nat) (a_p0_lanes : Nat) (a_p0_sizes : Nat) (a_p0_cells : Nat) (i_p0_seats : Int32) (i_p0_stirs : Int32) (i_p0_dSeats : Int32) (i_p0_dStirs : Int32) (i_p0_told : Int32) (i_p0_highest : Int32) (i_p0_taped : Int32) (i_p0_pos : Int32) (i_p0_from : Int32) (i_p0_sort : Int32) (i_p0_value : Int32) (i_p0_fault : Int32) (i_p0_wrongAt : Int32) (i_p0_torn : Int32) (v_p0_st : (Nat → Int32)) (x1 : Int32) (r : Int32) (o_v_p0_st : (Nat → Int32)) (hf : f_X12_crown i_p0_seats v_p0_st x1 = some (r, o_v_p0_st)) : Met l yX12_crown wsX12_crown rm_X12_crown (pcG D G [.ref a_p0, .int x1] sz [(a_p0, .inr (12, [.ref a_p0_st, .ref a_p0_isKept, .int i_p0_seats, .int i_p0_stirs, .ref a_p0_brings, .ref a_p0_need, .ref a_p0_draft, .int i_p0_dSeats, .int i_p0_dStirs, .ref a_p0_dStir, .ref a_p0_dNeed, .int i_p0_told, .int i_p0_highest, .ref a_p0_tape, .int i_p0_taped, .int i_p0_pos, .int i_p0_from, .int i_p0_sort, .int i_p0_value, .int i_p0_fault, .int i_p0_wrongAt, .ref a_p0_places, .ref a_p0_stirred, .ref a_p0_ways, .ref a_p0_waysThen, .ref a_p0_stays, .ref a_p0_fewest, .ref a_p0_bowls, .ref a_p0_has, .ref a_p0_goesOn, .ref a_p0_isThere, .ref a_p0_isThereThen, .ref a_p0_bestRow, .ref a_p0_lanes, .ref a_p0_sizes, .ref a_p0_cells, .int i_p0_torn])), (a_p0_st, .inl (G 1, 152, .inl v_p0_st))]) (qcI D G r [(a_p0, .inr (12, [.ref a_p0_st, .ref a_p0_isKept, .int i_p0_seats, .int i_p0_stirs, .ref a_p0_brings, .ref a_p0_need, .ref a_p0_draft, .int i_p0_dSeats, .int i_p0_dStirs, .ref a_p0_dStir, .ref a_p0_dNeed, .int i_p0_told, .int i_p0_highest, .ref a_p0_tape, .int i_p0_taped, .int i_p0_pos, .int i_p0_from, .int i_p0_sort, .int i_p0_value, .int i_p0_fault, .int i_p0_wrongAt, .ref a_p0_places, .ref a_p0_stirred, .ref a_p0_ways, .ref a_p0_waysThen, .ref a_p0_stays, .ref a_p0_fewest, .ref a_p0_bowls, .ref a_p0_has, .ref a_p0_goesOn, .ref a_p0_isThere, .ref a_p0_isThereThen, .ref a_p0_bestRow, .ref a_p0_lanes, .ref a_p0_sizes, .ref a_p0_cells, .int i_p0_torn])), (a_p0_st, .inl (G 1, 152, .inl o_v_p0_st))] (va_A [(a_p0, .inr (12, [.ref a_p0_st, .ref a_p0_isKept, .int i_p0_seats, .int i_p0_stirs, .ref a_p0_brings, .ref a_p0_need, .ref a_p0_draft, .int i_p0_dSeats, .int i_p0_dStirs, .ref a_p0_dStir, .ref a_p0_dNeed, .int i_p0_told, .int i_p0_highest, .ref a_p0_tape, .int i_p0_taped, .int i_p0_pos, .int i_p0_from, .int i_p0_sort, .int i_p0_value, .int i_p0_fault, .int i_p0_wrongAt, .ref a_p0_places, .ref a_p0_stirred, .ref a_p0_ways, .ref a_p0_waysThen, .ref a_p0_stays, .ref a_p0_fewest, .ref a_p0_bowls, .ref a_p0_has, .ref a_p0_goesOn, .ref a_p0_isThere, .ref a_p0_isThereThen, .ref a_p0_bestRow, .ref a_p0_lanes, .ref a_p0_sizes, .ref a_p0_cells, .int i_p0_torn])), (a_p0_st, .inl (G 1, 152, .inl v_p0_st))] sz)) 0 0 (va_A [(a_p0, .inr (12, [.ref a_p0_st, .ref a_p0_isKept, .int i_p0_seats, .int i_p0_stirs, .ref a_p0_brings, .ref a_p0_need, .ref a_p0_draft, .int i_p0_dSeats, .int i_p0_dStirs, .ref a_p0_dStir, .ref a_p0_dNeed, .int i_p0_told, .int i_p0_highest, .ref a_p0_tape, .int i_p0_taped, .int i_p0_pos, .int i_p0_from, .int i_p0_sort, .int i_p0_value, .int i_p0_fault, .int i_p0_wrongAt, .ref a_p0_places, .ref a_p0_stirred, .ref a_p0_ways, .ref a_p0_waysThen, .ref a_p0_stays, .ref a_p0_fewest, .ref a_p0_bowls, .ref a_p0_has, .ref a_p0_goesOn, .ref a_p0_isThere, .ref a_p0_isThereThen, .ref a_p0_bestRow, .ref a_p0_lanes, .ref a_p0_sizes, .ref a_p0_cells, .int i_p0_torn])), (a_p0_st, .inl (G 1, 152, .inl v_p0_st))] sz) := by
  refine Met.ofW (cc := cX12_crown) (maxL := 3) (ret := (some .int)) (by decide) rfl ?_
  intro p e s m args below meth c s₁ B hml hv
  obtain ⟨rfl, hsz, hP, hK, hD0⟩ := hv
  have hx := B.exec
  have hb := B.bytes
  have hr := B.returns
  have hts := atoms_spec (ws := wsX12_crown) B.pre
  have hown : s.vm.findClass RX12 = some m.cls := findClass_of_methodNamed B.named
  have hlocks := B.notSynchronized
  subst hsz
  have hD := hD0.self (sz := s.heap.size)
  generalize hAe : va_A [(a_p0, .inr (12, [.ref a_p0_st, .ref a_p0_isKept, .int i_p0_seats, .int i_p0_stirs, .ref a_p0_brings, .ref a_p0_need, .ref a_p0_draft, .int i_p0_dSeats, .int i_p0_dStirs, .ref a_p0_dStir, .ref a_p0_dNeed, .int i_p0_told, .int i_p0_highest, .ref a_p0_tape, .int i_p0_taped, .int i_p0_pos, .int i_p0_from, .int i_p0_sort, .int i_p0_value, .int i_p0_fault, .int i_p0_wrongAt, .ref a_p0_places, .ref a_p0_stirred, .ref a_p0_ways, .ref a_p0_waysThen, .ref a_p0_stays, .ref a_p0_fewest, .ref a_p0_bowls, .ref a_p0_has, .ref a_p0_goesOn, .ref a_p0_isThere, .ref a_p0_isThereThen, .ref a_p0_bestRow, .ref a_p0_lanes, .ref a_p0_sizes, .ref a_p0_cells, .int i_p0_torn])), (a_p0_st, .inl (G 1, 152, .inl v_p0_st))] s.heap.size = A at hD ⊢
  have hA : ∀ q : Nat, s.heap.size ≤ q → A q := fun q h => by rw [← hAe]; exact Or.inr h
  clear hAe hD0
  have hS : va_S A s.heap s.heap [] := va_S.rf
  have hl := lv_entry ([.ref a_p0, .int x1]) (n := 3) (Nat.le_of_ble_eq_true rfl)
  rw [lg_entry_eq]
  generalize (lg_sl ([.ref a_p0, .int x1]) ++ List.replicate (3 - (lg_sl ([.ref a_p0, .int x1])).length) Slot.unset).toArray = ls at hl ⊢
  have hl : lv_has ls 3 [(0, .ref a_p0), (1, .int x1)] := hl
  refine W_nameQ (fun Q hQ => ?_)
  obtain ⟨H, hH⟩ : ∃ H, H = s.heap := ⟨_, rfl⟩
  replace hS : va_S A s.heap H [] := by rw [hH]; exact hS
  replace hP : va_P D vwCl [(a_p0, .inr (12, [.ref a_p0_st, .ref a_p0_isKept, .int i_p0_seats, .int i_p0_stirs, .ref a_p0_brings, .ref a_p0_need, .ref a_p0_draft, .int i_p0_dSeats, .int i_p0_dStirs, .ref a_p0_dStir, .ref a_p0_dNeed, .int i_p0_told, .int i_p0_highest, .ref a_p0_tape, .int i_p0_taped, .int i_p0_pos, .int i_p0_from, .int i_p0_sort, .int i_p0_value, .int i_p0_fault, .int i_p0_wrongAt, .ref a_p0_places, .ref a_p0_stirred, .ref a_p0_ways, .ref a_p0_waysThen, .ref a_p0_stays, .ref a_p0_fewest, .ref a_p0_bowls, .ref a_p0_has, .ref a_p0_goesOn, .ref a_p0_isThere, .ref a_p0_isThereThen, .ref a_p0_bestRow, .ref a_p0_lanes, .ref a_p0_sizes, .ref a_p0_cells, .int i_p0_torn])), (a_p0_st, .inl (G 1, 152, .inl v_p0_st))] H := by rw [hH]; exact hP
  rw [← hH]
  clear hH
  unfold f_X12_crown at hf
  refine lv_aload_n hx hb dX12_crown_0 rfl (lv_at hl 0 rfl) ?_
  refine lv_iload_n hx hb dX12_crown_1 rfl (lv_at hl 1 rfl) ?_
  have hq := bd1_s hf
  clear hf
  obtain ⟨z1, hcall, hf⟩ := hq
  refine gcI (ws' := [(a_p0, .inr (12, [.ref a_p0_st, .ref a_p0_isKept, .int i_p0_seats, .int i_p0_stirs, .ref a_p0_brings, .ref a_p0_need, .ref a_p0_draft, .int i_p0_dSeats, .int i_p0_dStirs, .ref a_p0_dStir, .ref a_p0_dNeed, .int i_p0_told, .int i_p0_highest, .ref a_p0_tape, .int i_p0_taped, .int i_p0_pos, .int i_p0_from, .int i_p0_sort, .int i_p0_value, .int i_p0_fault, .int i_p0_wrongAt, .ref a_p0_places, .ref a_p0_stirred, .ref a_p0_ways, .ref a_p0_waysThen, .ref a_p0_stays, .ref a_p0_fewest, .ref a_p0_bowls, .ref a_p0_has, .ref a_p0_goesOn, .ref a_p0_isThere, .ref a_p0_isThereThen, .ref a_p0_bestRow, .ref a_p0_lanes, .ref a_p0_sizes, .ref a_p0_cells, .int i_p0_torn])), (a_p0_st, .inl (G 1, 152, .inl v_p0_st))]) (va_runV (As := [.int x1]) (rest := []) ⟨hx, hb, hml, hown, hts⟩ (c_X12_isSeat (l := l) (D := D) (G := G) (sz := H.size) (a_p0 := a_p0) (a_p0_st := a_p0_st) (a_p0_isKept := a_p0_isKept) (a_p0_brings := a_p0_brings) (a_p0_need := a_p0_need) (a_p0_draft := a_p0_draft) (a_p0_dStir := a_p0_dStir) (a_p0_dNeed := a_p0_dNeed) (a_p0_tape := a_p0_tape) (a_p0_places := a_p0_places) (a_p0_stirred := a_p0_stirred) (a_p0_ways := a_p0_ways) (a_p0_waysThen := a_p0_waysThen) (a_p0_stays := a_p0_stays) (a_p0_fewest := a_p0_fewest) (a_p0_bowls := a_p0_bowls) (a_p0_has := a_p0_has) (a_p0_goesOn := a_p0_goesOn) (a_p0_isThere := a_p0_isThere) (a_p0_isThereThen := a_p0_isThereThen) (a_p0_bestRow := a_p0_bestRow) (a_p0_lanes := a_p0_lanes) (a_p0_sizes := a_p0_sizes) (a_p0_cells := a_p0_cells) (i_p0_seats := i_p0_seats) (i_p0_stirs := i_p0_stirs) (i_p0_dSeats := i_p0_dSeats) (i_p0_dStirs := i_p0_dStirs) (i_p0_told := i_p0_told) (i_p0_highest := i_p0_highest) (i_p0_taped := i_p0_taped) (i_p0_pos := i_p0_pos) (i_p0_from := i_p0_from) (i_p0_sort := i_p0_sort) (i_p0_value := i_p0_value) (i_p0_fault := i_p0_fault) (i_p0_wrongAt := i_p0_wrongAt) (i_p0_torn := i_p0_torn) (x1 := x1) (r := z1) (hf := hcall)) (cwV 1 hts gX12_crown_X12_isSeat rfl rfl rfl (by decide +kernel) ⟨Nat.le_of_ble_eq_true rfl, Nat.le_of_ble_eq_true rfl⟩) (preG_V (ci := 12) (hP.sub [0] rfl) (hD.sub [0] rfl rfl) hK rfl rfl) rfl rfl hl.1 rfl (lv_room (Nat.le_of_ble_eq_true rfl)) dX12_crown_2 ⟨Nat.le_of_ble_eq_true rfl, Nat.le_of_ble_eq_true rfl⟩) hP hD hS hA [0] [1] [1, 0] rfl rfl rfl (by decide) rfl rfl rfl (fun H locs hP hD hS => ?_)
  clear hcall
  refine lv_if_ne (tgt := 10) hx hb dX12_crown_5 (by decide) (fun cc => ?_) (fun cc => ?_)
  ·
    replace hf := ite_f cc hf
    clear cc
    refine lv_aload_n hx hb dX12_crown_10 rfl (lv_at hl 0 rfl) ?_
    refine va_get (D := D) (ci := 12) (v := .ref a_p0_st) (C := RX12) (T := TX12) (N := 37) hx hb hts inX12_crown_X12 hown hK hP 0 rfl rfl 0 (by decide) (hts _ mwX12_crown_1) (fun _ h9 => h9) rfl dX12_crown_11 ?_
    refine lv_bipush (v := (8 : Int32)) hx hb dX12_crown_14 (by decide) ?_
    have hc := ck_c hf
    replace hf := ck_r hf
    refine va_iald hx hb hK hP 1 1 rfl rfl (ixB_in hc) dX12_crown_16 ?_
    clear hc
    refine lv_topi (fun z2 ez => ?_)
    replace hf := bnd_s hf ez
    clear ez
    refine lv_istore_n (lv' := [(2, .int z2), (0, .ref a_p0), (1, .int x1)]) hx hb dX12_crown_17 rfl hl (by decide) rfl (fun ls hl => ?_)
    refine lv_aload_n hx hb dX12_crown_18 rfl (lv_at hl 1 rfl) ?_
    refine va_get (D := D) (ci := 12) (v := .ref a_p0_st) (C := RX12) (T := TX12) (N := 37) hx hb hts inX12_crown_X12 hown hK hP 0 rfl rfl 0 (by decide) (hts _ mwX12_crown_1) (fun _ h9 => h9) rfl dX12_crown_19 ?_
    refine lv_bipush (v := (8 : Int32)) hx hb dX12_crown_22 (by decide) ?_
    refine lv_iload_n hx hb dX12_crown_24 rfl (lv_at hl 2 rfl) ?_
    have hc := ck_c hf
    replace hf := ck_r hf
    refine gs_iast (wf := fun w3 => [(a_p0, .inr (12, [.ref a_p0_st, .ref a_p0_isKept, .int i_p0_seats, .int i_p0_stirs, .ref a_p0_brings, .ref a_p0_need, .ref a_p0_draft, .int i_p0_dSeats, .int i_p0_dStirs, .ref a_p0_dStir, .ref a_p0_dNeed, .int i_p0_told, .int i_p0_highest, .ref a_p0_tape, .int i_p0_taped, .int i_p0_pos, .int i_p0_from, .int i_p0_sort, .int i_p0_value, .int i_p0_fault, .int i_p0_wrongAt, .ref a_p0_places, .ref a_p0_stirred, .ref a_p0_ways, .ref a_p0_waysThen, .ref a_p0_stays, .ref a_p0_fewest, .ref a_p0_bowls, .ref a_p0_has, .ref a_p0_goesOn, .ref a_p0_isThere, .ref a_p0_isThereThen, .ref a_p0_bestRow, .ref a_p0_lanes, .ref a_p0_sizes, .ref a_p0_cells, .int i_p0_torn])), (a_p0_st, .inl (G 1, 152, .inl w3))]) hx hb hK hP hD hS 1 1 rfl rfl (ixB_in hc) dX12_crown_25 (fun _ => rfl) (fun w3 ez H locs hP hD hS => ?_)
    replace hf := bnd_s hf ez
    clear ez hc
    refine lv_iload_n hx hb dX12_crown_26 rfl (lv_at hl 0 rfl) ?_
    obtain ⟨rfl, rfl⟩ := ou2 hf
    rw [hQ]
    exact W.iret hx hb hr (fun t ht hW => ⟨⟨_, (), rfl, rfl, by rw [ht]; exact hP, va_K.moved hW.alike hK, hD⟩, hS.F ht⟩) hS.2.2 dX12_crown_27
  ·
    replace hf := ite_t cc hf
    clear cc
    refine lv_iconst (v := (-1 : Int32)) hx hb dX12_crown_8 (by decide) ?_
    obtain ⟨rfl, rfl⟩ := ou2 hf
    rw [hQ]
    exact W.iret hx hb hr (fun t ht hW => ⟨⟨_, (), rfl, rfl, by rw [ht]; exact hP, va_K.moved hW.alike hK, hD⟩, hS.F ht⟩) hS.2.2 dX12_crown_9

noncomputable def f_X12_fill (i_p0_seats : Int32) (v_p0_st : (Nat → Int32)) (x1 : Int32) (x2 : Int32) : Option (Int32 × (Nat → Int32)) := (bd1 (f_X12_isSeat i_p0_seats x1) (fun (z1 : Int32) => (if z1 = 0 then (some ((-1 : Int32), v_p0_st)) else (bd1 (f_X12_in (x2).toInt64 (0 : Int64) (9 : Int64)) (fun (z2 : Int32) => (if z2 = 0 then (some ((-1 : Int32), v_p0_st)) else (ck (ixB x1 152) (bnd (v_p0_st (x1).toNatClampNeg) (fun (z3 : Int32) => (ck (ixB x1 152) (bnd (upd v_p0_st (x1).toNatClampNeg x2) (fun (w4 : (Nat → Int32)) => (some (z3, w4))))))))))))))
abbrev rm_X12_fill : Room := { frames := 2, cells := 0, slots := 0, locals := 46 }
theorem mwX12_fill_0 : Cond.constantLong RX12 210 (9) ∈ wsX12_fill := by decide +kernel
theorem inX12_fill_X12 : ∀ w ∈ wsX120, w ∈ wsX12_fill := by decide +kernel
theorem mwX12_fill_2 : Cond.fieldLink RX12 7 "LadleKingsModel" "st" "[I" ∈ wsX12_fill := by decide +kernel
set_option maxHeartbeats 8000000 in
set_option maxRecDepth 100000 in
theorem c_X12_fill (l : Launch) (D : va_G) (G : Nat → ClassId) (sz : Nat) (a_p0 : Nat) (a_p0_st : Nat) (a_p0_isKept : Nat) (a_p0_brings : Nat) (a_p0_need : Nat) (a_p0_draft : Nat) (a_p0_dStir : Nat) (a_p0_dNeed : Nat) (a_p0_tape : Nat) (a_p0_places : Nat) (a_p0_stirred : Nat) (a_p0_ways : Nat) (a_p0_waysThen : Nat) (a_p0_stays : Nat) (a_p0_fewest : Nat) (a_p0_bowls : Nat) (a_p0_has : Nat) (a_p0_goesOn : Nat) (a_p0_isThere : Nat) (a_p0_isThereThen : Nat) (a_p0_bestRow : Nat) (a_p0_lanes : Nat) (a_p0_sizes : Nat) (a_p0_cells : Nat) (i_p0_seats : Int32) (i_p0_stirs : Int32) (i_p0_dSeats : Int32) (i_p0_dStirs : Int32) (i_p0_told : Int32) (i_p0_highest : Int32) (i_p0_taped : Int32) (i_p0_pos : Int32) (i_p0_from : Int32) (i_p0_sort : Int32) (i_p0_value : Int32) (i_p0_fault : Int32) (i_p0_wrongAt : Int32) (i_p0_torn : Int32) (v_p0_st : (Nat → Int32)) (x1 : Int32) (x2 : Int32) (r : Int32) (o_v_p0_st : (Nat → Int32)) (hf : f_X12_fill i_p0_seats v_p0_st x1 x2 = some (r, o_v_p0_st)) : Met l yX12_fill wsX12_fill rm_X12_fill (pcG D G [.ref a_p0, .int x1, .int x2] sz [(a_p0, .inr (12, [.ref a_p0_st, .ref a_p0_isKept, .int i_p0_seats, .int i_p0_stirs, .ref a_p0_brings, .ref a_p0_need, .ref a_p0_draft, .int i_p0_dSeats, .int i_p0_dStirs, .ref a_p0_dStir, .ref a_p0_dNeed, .int i_p0_told, .int i_p0_highest, .ref a_p0_tape, .int i_p0_taped, .int i_p0_pos, .int i_p0_from, .int i_p0_sort, .int i_p0_value, .int i_p0_fault, .int i_p0_wrongAt, .ref a_p0_places, .ref a_p0_stirred, .ref a_p0_ways, .ref a_p0_waysThen, .ref a_p0_stays, .ref a_p0_fewest, .ref a_p0_bowls, .ref a_p0_has, .ref a_p0_goesOn, .ref a_p0_isThere, .ref a_p0_isThereThen, .ref a_p0_bestRow, .ref a_p0_lanes, .ref a_p0_sizes, .ref a_p0_cells, .int i_p0_torn])), (a_p0_st, .inl (G 1, 152, .inl v_p0_st))]) (qcI D G r [(a_p0, .inr (12, [.ref a_p0_st, .ref a_p0_isKept, .int i_p0_seats, .int i_p0_stirs, .ref a_p0_brings, .ref a_p0_need, .ref a_p0_draft, .int i_p0_dSeats, .int i_p0_dStirs, .ref a_p0_dStir, .ref a_p0_dNeed, .int i_p0_told, .int i_p0_highest, .ref a_p0_tape, .int i_p0_taped, .int i_p0_pos, .int i_p0_from, .int i_p0_sort, .int i_p0_value, .int i_p0_fault, .int i_p0_wrongAt, .ref a_p0_places, .ref a_p0_stirred, .ref a_p0_ways, .ref a_p0_waysThen, .ref a_p0_stays, .ref a_p0_fewest, .ref a_p0_bowls, .ref a_p0_has, .ref a_p0_goesOn, .ref a_p0_isThere, .ref a_p0_isThereThen, .ref a_p0_bestRow, .ref a_p0_lanes, .ref a_p0_sizes, .ref a_p0_cells, .int i_p0_torn])), (a_p0_st, .inl (G 1, 152, .inl o_v_p0_st))] (va_A [(a_p0, .inr (12, [.ref a_p0_st, .ref a_p0_isKept, .int i_p0_seats, .int i_p0_stirs, .ref a_p0_brings, .ref a_p0_need, .ref a_p0_draft, .int i_p0_dSeats, .int i_p0_dStirs, .ref a_p0_dStir, .ref a_p0_dNeed, .int i_p0_told, .int i_p0_highest, .ref a_p0_tape, .int i_p0_taped, .int i_p0_pos, .int i_p0_from, .int i_p0_sort, .int i_p0_value, .int i_p0_fault, .int i_p0_wrongAt, .ref a_p0_places, .ref a_p0_stirred, .ref a_p0_ways, .ref a_p0_waysThen, .ref a_p0_stays, .ref a_p0_fewest, .ref a_p0_bowls, .ref a_p0_has, .ref a_p0_goesOn, .ref a_p0_isThere, .ref a_p0_isThereThen, .ref a_p0_bestRow, .ref a_p0_lanes, .ref a_p0_sizes, .ref a_p0_cells, .int i_p0_torn])), (a_p0_st, .inl (G 1, 152, .inl v_p0_st))] sz)) 0 0 (va_A [(a_p0, .inr (12, [.ref a_p0_st, .ref a_p0_isKept, .int i_p0_seats, .int i_p0_stirs, .ref a_p0_brings, .ref a_p0_need, .ref a_p0_draft, .int i_p0_dSeats, .int i_p0_dStirs, .ref a_p0_dStir, .ref a_p0_dNeed, .int i_p0_told, .int i_p0_highest, .ref a_p0_tape, .int i_p0_taped, .int i_p0_pos, .int i_p0_from, .int i_p0_sort, .int i_p0_value, .int i_p0_fault, .int i_p0_wrongAt, .ref a_p0_places, .ref a_p0_stirred, .ref a_p0_ways, .ref a_p0_waysThen, .ref a_p0_stays, .ref a_p0_fewest, .ref a_p0_bowls, .ref a_p0_has, .ref a_p0_goesOn, .ref a_p0_isThere, .ref a_p0_isThereThen, .ref a_p0_bestRow, .ref a_p0_lanes, .ref a_p0_sizes, .ref a_p0_cells, .int i_p0_torn])), (a_p0_st, .inl (G 1, 152, .inl v_p0_st))] sz) := by
  refine Met.ofW (cc := cX12_fill) (maxL := 4) (ret := (some .int)) (by decide) rfl ?_
  intro p e s m args below meth c s₁ B hml hv
  obtain ⟨rfl, hsz, hP, hK, hD0⟩ := hv
  have hx := B.exec
  have hb := B.bytes
  have hr := B.returns
  have hts := atoms_spec (ws := wsX12_fill) B.pre
  have hown : s.vm.findClass RX12 = some m.cls := findClass_of_methodNamed B.named
  have hlocks := B.notSynchronized
  subst hsz
  have hD := hD0.self (sz := s.heap.size)
  generalize hAe : va_A [(a_p0, .inr (12, [.ref a_p0_st, .ref a_p0_isKept, .int i_p0_seats, .int i_p0_stirs, .ref a_p0_brings, .ref a_p0_need, .ref a_p0_draft, .int i_p0_dSeats, .int i_p0_dStirs, .ref a_p0_dStir, .ref a_p0_dNeed, .int i_p0_told, .int i_p0_highest, .ref a_p0_tape, .int i_p0_taped, .int i_p0_pos, .int i_p0_from, .int i_p0_sort, .int i_p0_value, .int i_p0_fault, .int i_p0_wrongAt, .ref a_p0_places, .ref a_p0_stirred, .ref a_p0_ways, .ref a_p0_waysThen, .ref a_p0_stays, .ref a_p0_fewest, .ref a_p0_bowls, .ref a_p0_has, .ref a_p0_goesOn, .ref a_p0_isThere, .ref a_p0_isThereThen, .ref a_p0_bestRow, .ref a_p0_lanes, .ref a_p0_sizes, .ref a_p0_cells, .int i_p0_torn])), (a_p0_st, .inl (G 1, 152, .inl v_p0_st))] s.heap.size = A at hD ⊢
  have hA : ∀ q : Nat, s.heap.size ≤ q → A q := fun q h => by rw [← hAe]; exact Or.inr h
  clear hAe hD0
  have hS : va_S A s.heap s.heap [] := va_S.rf
  have hl := lv_entry ([.ref a_p0, .int x1, .int x2]) (n := 4) (Nat.le_of_ble_eq_true rfl)
  rw [lg_entry_eq]
  generalize (lg_sl ([.ref a_p0, .int x1, .int x2]) ++ List.replicate (4 - (lg_sl ([.ref a_p0, .int x1, .int x2])).length) Slot.unset).toArray = ls at hl ⊢
  have hl : lv_has ls 4 [(0, .ref a_p0), (1, .int x1), (2, .int x2)] := hl
  refine W_nameQ (fun Q hQ => ?_)
  obtain ⟨H, hH⟩ : ∃ H, H = s.heap := ⟨_, rfl⟩
  replace hS : va_S A s.heap H [] := by rw [hH]; exact hS
  replace hP : va_P D vwCl [(a_p0, .inr (12, [.ref a_p0_st, .ref a_p0_isKept, .int i_p0_seats, .int i_p0_stirs, .ref a_p0_brings, .ref a_p0_need, .ref a_p0_draft, .int i_p0_dSeats, .int i_p0_dStirs, .ref a_p0_dStir, .ref a_p0_dNeed, .int i_p0_told, .int i_p0_highest, .ref a_p0_tape, .int i_p0_taped, .int i_p0_pos, .int i_p0_from, .int i_p0_sort, .int i_p0_value, .int i_p0_fault, .int i_p0_wrongAt, .ref a_p0_places, .ref a_p0_stirred, .ref a_p0_ways, .ref a_p0_waysThen, .ref a_p0_stays, .ref a_p0_fewest, .ref a_p0_bowls, .ref a_p0_has, .ref a_p0_goesOn, .ref a_p0_isThere, .ref a_p0_isThereThen, .ref a_p0_bestRow, .ref a_p0_lanes, .ref a_p0_sizes, .ref a_p0_cells, .int i_p0_torn])), (a_p0_st, .inl (G 1, 152, .inl v_p0_st))] H := by rw [hH]; exact hP
  rw [← hH]
  clear hH
  unfold f_X12_fill at hf
  refine lv_aload_n hx hb dX12_fill_0 rfl (lv_at hl 0 rfl) ?_
  refine lv_iload_n hx hb dX12_fill_1 rfl (lv_at hl 1 rfl) ?_
  have hq := bd1_s hf
  clear hf
  obtain ⟨z1, hcall, hf⟩ := hq
  refine gcI (ws' := [(a_p0, .inr (12, [.ref a_p0_st, .ref a_p0_isKept, .int i_p0_seats, .int i_p0_stirs, .ref a_p0_brings, .ref a_p0_need, .ref a_p0_draft, .int i_p0_dSeats, .int i_p0_dStirs, .ref a_p0_dStir, .ref a_p0_dNeed, .int i_p0_told, .int i_p0_highest, .ref a_p0_tape, .int i_p0_taped, .int i_p0_pos, .int i_p0_from, .int i_p0_sort, .int i_p0_value, .int i_p0_fault, .int i_p0_wrongAt, .ref a_p0_places, .ref a_p0_stirred, .ref a_p0_ways, .ref a_p0_waysThen, .ref a_p0_stays, .ref a_p0_fewest, .ref a_p0_bowls, .ref a_p0_has, .ref a_p0_goesOn, .ref a_p0_isThere, .ref a_p0_isThereThen, .ref a_p0_bestRow, .ref a_p0_lanes, .ref a_p0_sizes, .ref a_p0_cells, .int i_p0_torn])), (a_p0_st, .inl (G 1, 152, .inl v_p0_st))]) (va_runV (As := [.int x1]) (rest := []) ⟨hx, hb, hml, hown, hts⟩ (c_X12_isSeat (l := l) (D := D) (G := G) (sz := H.size) (a_p0 := a_p0) (a_p0_st := a_p0_st) (a_p0_isKept := a_p0_isKept) (a_p0_brings := a_p0_brings) (a_p0_need := a_p0_need) (a_p0_draft := a_p0_draft) (a_p0_dStir := a_p0_dStir) (a_p0_dNeed := a_p0_dNeed) (a_p0_tape := a_p0_tape) (a_p0_places := a_p0_places) (a_p0_stirred := a_p0_stirred) (a_p0_ways := a_p0_ways) (a_p0_waysThen := a_p0_waysThen) (a_p0_stays := a_p0_stays) (a_p0_fewest := a_p0_fewest) (a_p0_bowls := a_p0_bowls) (a_p0_has := a_p0_has) (a_p0_goesOn := a_p0_goesOn) (a_p0_isThere := a_p0_isThere) (a_p0_isThereThen := a_p0_isThereThen) (a_p0_bestRow := a_p0_bestRow) (a_p0_lanes := a_p0_lanes) (a_p0_sizes := a_p0_sizes) (a_p0_cells := a_p0_cells) (i_p0_seats := i_p0_seats) (i_p0_stirs := i_p0_stirs) (i_p0_dSeats := i_p0_dSeats) (i_p0_dStirs := i_p0_dStirs) (i_p0_told := i_p0_told) (i_p0_highest := i_p0_highest) (i_p0_taped := i_p0_taped) (i_p0_pos := i_p0_pos) (i_p0_from := i_p0_from) (i_p0_sort := i_p0_sort) (i_p0_value := i_p0_value) (i_p0_fault := i_p0_fault) (i_p0_wrongAt := i_p0_wrongAt) (i_p0_torn := i_p0_torn) (x1 := x1) (r := z1) (hf := hcall)) (cwV 1 hts gX12_fill_X12_isSeat rfl rfl rfl (by decide +kernel) ⟨Nat.le_of_ble_eq_true rfl, Nat.le_of_ble_eq_true rfl⟩) (preG_V (ci := 12) (hP.sub [0] rfl) (hD.sub [0] rfl rfl) hK rfl rfl) rfl rfl hl.1 rfl (lv_room (Nat.le_of_ble_eq_true rfl)) dX12_fill_2 ⟨Nat.le_of_ble_eq_true rfl, Nat.le_of_ble_eq_true rfl⟩) hP hD hS hA [0] [1] [1, 0] rfl rfl rfl (by decide) rfl rfl rfl (fun H locs hP hD hS => ?_)
  clear hcall
  refine lv_if_eq (tgt := 20) hx hb dX12_fill_5 (by decide) (fun cc => ?_) (fun cc => ?_)
  ·
    replace hf := ite_t cc hf
    clear cc
    refine lv_iconst (v := (-1 : Int32)) hx hb dX12_fill_20 (by decide) ?_
    obtain ⟨rfl, rfl⟩ := ou2 hf
    rw [hQ]
    exact W.iret hx hb hr (fun t ht hW => ⟨⟨_, (), rfl, rfl, by rw [ht]; exact hP, va_K.moved hW.alike hK, hD⟩, hS.F ht⟩) hS.2.2 dX12_fill_21
  ·
    replace hf := ite_f cc hf
    clear cc
    refine lv_iload_n hx hb dX12_fill_8 rfl (lv_at hl 2 rfl) ?_
    refine lv_i2l hx hb dX12_fill_9 rfl ?_
    refine lv_lconst (v := (0 : Int64)) hx hb dX12_fill_10 (by decide) ?_
    refine lv_ldc2 (v := (9 : Int64)) hx hb hown (hts _ mwX12_fill_0) dX12_fill_11 ?_
    have hq := bd1_s hf
    clear hf
    obtain ⟨z2, hcall, hf⟩ := hq
    refine gcI (ws' := [(a_p0, .inr (12, [.ref a_p0_st, .ref a_p0_isKept, .int i_p0_seats, .int i_p0_stirs, .ref a_p0_brings, .ref a_p0_need, .ref a_p0_draft, .int i_p0_dSeats, .int i_p0_dStirs, .ref a_p0_dStir, .ref a_p0_dNeed, .int i_p0_told, .int i_p0_highest, .ref a_p0_tape, .int i_p0_taped, .int i_p0_pos, .int i_p0_from, .int i_p0_sort, .int i_p0_value, .int i_p0_fault, .int i_p0_wrongAt, .ref a_p0_places, .ref a_p0_stirred, .ref a_p0_ways, .ref a_p0_waysThen, .ref a_p0_stays, .ref a_p0_fewest, .ref a_p0_bowls, .ref a_p0_has, .ref a_p0_goesOn, .ref a_p0_isThere, .ref a_p0_isThereThen, .ref a_p0_bestRow, .ref a_p0_lanes, .ref a_p0_sizes, .ref a_p0_cells, .int i_p0_torn])), (a_p0_st, .inl (G 1, 152, .inl v_p0_st))]) (va_runS (As := [.long (x2).toInt64, .long (0 : Int64), .long (9 : Int64)]) (rest := []) ⟨hx, hb, hml, hown, hts⟩ (c_X12_in (l := l) (D := D) (G := G) (sz := H.size) (x0 := (x2).toInt64) (x2 := (0 : Int64)) (x4 := (9 : Int64)) (r := z2) (hf := hcall)) (va_cwS 3 hts gX12_fill_X12_in rfl rfl rfl (by decide +kernel) ⟨Nat.le_of_ble_eq_true rfl, Nat.le_of_ble_eq_true rfl⟩) (preG_S (hP.sub [] rfl) (hD.sub [] rfl rfl) hK) rfl rfl hl.1 rfl (lv_room (Nat.le_of_ble_eq_true rfl)) dX12_fill_14 ⟨Nat.le_of_ble_eq_true rfl, Nat.le_of_ble_eq_true rfl⟩) hP hD hS hA [] [0, 1] [0, 1] rfl rfl rfl (by decide) rfl rfl rfl (fun H locs hP hD hS => ?_)
    clear hcall
    refine lv_if_ne (tgt := 22) hx hb dX12_fill_17 (by decide) (fun cc => ?_) (fun cc => ?_)
    ·
      replace hf := ite_f cc hf
      clear cc
      refine lv_aload_n hx hb dX12_fill_22 rfl (lv_at hl 0 rfl) ?_
      refine va_get (D := D) (ci := 12) (v := .ref a_p0_st) (C := RX12) (T := TX12) (N := 37) hx hb hts inX12_fill_X12 hown hK hP 0 rfl rfl 0 (by decide) (hts _ mwX12_fill_2) (fun _ h9 => h9) rfl dX12_fill_23 ?_
      refine lv_iload_n hx hb dX12_fill_26 rfl (lv_at hl 1 rfl) ?_
      have hc := ck_c hf
      replace hf := ck_r hf
      refine va_iald hx hb hK hP 1 1 rfl rfl (ixB_in hc) dX12_fill_27 ?_
      clear hc
      refine lv_topi (fun z3 ez => ?_)
      replace hf := bnd_s hf ez
      clear ez
      refine lv_istore_n (lv' := [(3, .int z3), (0, .ref a_p0), (1, .int x1), (2, .int x2)]) hx hb dX12_fill_28 rfl hl (by decide) rfl (fun ls hl => ?_)
      refine lv_aload_n hx hb dX12_fill_29 rfl (lv_at hl 1 rfl) ?_
      refine va_get (D := D) (ci := 12) (v := .ref a_p0_st) (C := RX12) (T := TX12) (N := 37) hx hb hts inX12_fill_X12 hown hK hP 0 rfl rfl 0 (by decide) (hts _ mwX12_fill_2) (fun _ h9 => h9) rfl dX12_fill_30 ?_
      refine lv_iload_n hx hb dX12_fill_33 rfl (lv_at hl 2 rfl) ?_
      refine lv_iload_n hx hb dX12_fill_34 rfl (lv_at hl 3 rfl) ?_
      have hc := ck_c hf
      replace hf := ck_r hf
      refine gs_iast (wf := fun w4 => [(a_p0, .inr (12, [.ref a_p0_st, .ref a_p0_isKept, .int i_p0_seats, .int i_p0_stirs, .ref a_p0_brings, .ref a_p0_need, .ref a_p0_draft, .int i_p0_dSeats, .int i_p0_dStirs, .ref a_p0_dStir, .ref a_p0_dNeed, .int i_p0_told, .int i_p0_highest, .ref a_p0_tape, .int i_p0_taped, .int i_p0_pos, .int i_p0_from, .int i_p0_sort, .int i_p0_value, .int i_p0_fault, .int i_p0_wrongAt, .ref a_p0_places, .ref a_p0_stirred, .ref a_p0_ways, .ref a_p0_waysThen, .ref a_p0_stays, .ref a_p0_fewest, .ref a_p0_bowls, .ref a_p0_has, .ref a_p0_goesOn, .ref a_p0_isThere, .ref a_p0_isThereThen, .ref a_p0_bestRow, .ref a_p0_lanes, .ref a_p0_sizes, .ref a_p0_cells, .int i_p0_torn])), (a_p0_st, .inl (G 1, 152, .inl w4))]) hx hb hK hP hD hS 1 1 rfl rfl (ixB_in hc) dX12_fill_35 (fun _ => rfl) (fun w4 ez H locs hP hD hS => ?_)
      replace hf := bnd_s hf ez
      clear ez hc
      refine lv_iload_n hx hb dX12_fill_36 rfl (lv_at hl 0 rfl) ?_
      obtain ⟨rfl, rfl⟩ := ou2 hf
      rw [hQ]
      exact W.iret hx hb hr (fun t ht hW => ⟨⟨_, (), rfl, rfl, by rw [ht]; exact hP, va_K.moved hW.alike hK, hD⟩, hS.F ht⟩) hS.2.2 dX12_fill_37
    ·
      replace hf := ite_t cc hf
      clear cc
      refine lv_iconst (v := (-1 : Int32)) hx hb dX12_fill_20 (by decide) ?_
      obtain ⟨rfl, rfl⟩ := ou2 hf
      rw [hQ]
      exact W.iret hx hb hr (fun t ht hW => ⟨⟨_, (), rfl, rfl, by rw [ht]; exact hP, va_K.moved hW.alike hK, hD⟩, hS.F ht⟩) hS.2.2 dX12_fill_21

noncomputable def f_X12_bowl (i_p0_seats : Int32) (i_p0_stirs : Int32) (x1 : Int32) (x2 : Int32) (x3 : Int32) : Option (Int32) := (bd1 (f_X12_isSeat i_p0_seats x1) (fun (z1 : Int32) => (if z1 = 0 then (some (-1 : Int32)) else (bd1 (f_X12_isSeat i_p0_seats x2) (fun (z2 : Int32) => (if z2 = 0 then (some (-1 : Int32)) else (bd1 (f_X12_isStir i_p0_stirs x3) (fun (z3 : Int32) => (if z3 = 0 then (some (-1 : Int32)) else none)))))))))
abbrev rm_X12_bowl : Room := { frames := 2, cells := 0, slots := 0, locals := 46 }
set_option maxHeartbeats 8000000 in
set_option maxRecDepth 100000 in
theorem c_X12_bowl (l : Launch) (D : va_G) (G : Nat → ClassId) (sz : Nat) (a_p0 : Nat) (a_p0_st : Nat) (a_p0_isKept : Nat) (a_p0_brings : Nat) (a_p0_need : Nat) (a_p0_draft : Nat) (a_p0_dStir : Nat) (a_p0_dNeed : Nat) (a_p0_tape : Nat) (a_p0_places : Nat) (a_p0_stirred : Nat) (a_p0_ways : Nat) (a_p0_waysThen : Nat) (a_p0_stays : Nat) (a_p0_fewest : Nat) (a_p0_bowls : Nat) (a_p0_has : Nat) (a_p0_goesOn : Nat) (a_p0_isThere : Nat) (a_p0_isThereThen : Nat) (a_p0_bestRow : Nat) (a_p0_lanes : Nat) (a_p0_sizes : Nat) (a_p0_cells : Nat) (i_p0_seats : Int32) (i_p0_stirs : Int32) (i_p0_dSeats : Int32) (i_p0_dStirs : Int32) (i_p0_told : Int32) (i_p0_highest : Int32) (i_p0_taped : Int32) (i_p0_pos : Int32) (i_p0_from : Int32) (i_p0_sort : Int32) (i_p0_value : Int32) (i_p0_fault : Int32) (i_p0_wrongAt : Int32) (i_p0_torn : Int32) (x1 : Int32) (x2 : Int32) (x3 : Int32) (r : Int32) (hf : f_X12_bowl i_p0_seats i_p0_stirs x1 x2 x3 = some r) : Met l yX12_bowl wsX12_bowl rm_X12_bowl (pcG D G [.ref a_p0, .int x1, .int x2, .int x3] sz [(a_p0, .inr (12, [.ref a_p0_st, .ref a_p0_isKept, .int i_p0_seats, .int i_p0_stirs, .ref a_p0_brings, .ref a_p0_need, .ref a_p0_draft, .int i_p0_dSeats, .int i_p0_dStirs, .ref a_p0_dStir, .ref a_p0_dNeed, .int i_p0_told, .int i_p0_highest, .ref a_p0_tape, .int i_p0_taped, .int i_p0_pos, .int i_p0_from, .int i_p0_sort, .int i_p0_value, .int i_p0_fault, .int i_p0_wrongAt, .ref a_p0_places, .ref a_p0_stirred, .ref a_p0_ways, .ref a_p0_waysThen, .ref a_p0_stays, .ref a_p0_fewest, .ref a_p0_bowls, .ref a_p0_has, .ref a_p0_goesOn, .ref a_p0_isThere, .ref a_p0_isThereThen, .ref a_p0_bestRow, .ref a_p0_lanes, .ref a_p0_sizes, .ref a_p0_cells, .int i_p0_torn]))]) (qcI D G r [(a_p0, .inr (12, [.ref a_p0_st, .ref a_p0_isKept, .int i_p0_seats, .int i_p0_stirs, .ref a_p0_brings, .ref a_p0_need, .ref a_p0_draft, .int i_p0_dSeats, .int i_p0_dStirs, .ref a_p0_dStir, .ref a_p0_dNeed, .int i_p0_told, .int i_p0_highest, .ref a_p0_tape, .int i_p0_taped, .int i_p0_pos, .int i_p0_from, .int i_p0_sort, .int i_p0_value, .int i_p0_fault, .int i_p0_wrongAt, .ref a_p0_places, .ref a_p0_stirred, .ref a_p0_ways, .ref a_p0_waysThen, .ref a_p0_stays, .ref a_p0_fewest, .ref a_p0_bowls, .ref a_p0_has, .ref a_p0_goesOn, .ref a_p0_isThere, .ref a_p0_isThereThen, .ref a_p0_bestRow, .ref a_p0_lanes, .ref a_p0_sizes, .ref a_p0_cells, .int i_p0_torn]))] (va_A [(a_p0, .inr (12, [.ref a_p0_st, .ref a_p0_isKept, .int i_p0_seats, .int i_p0_stirs, .ref a_p0_brings, .ref a_p0_need, .ref a_p0_draft, .int i_p0_dSeats, .int i_p0_dStirs, .ref a_p0_dStir, .ref a_p0_dNeed, .int i_p0_told, .int i_p0_highest, .ref a_p0_tape, .int i_p0_taped, .int i_p0_pos, .int i_p0_from, .int i_p0_sort, .int i_p0_value, .int i_p0_fault, .int i_p0_wrongAt, .ref a_p0_places, .ref a_p0_stirred, .ref a_p0_ways, .ref a_p0_waysThen, .ref a_p0_stays, .ref a_p0_fewest, .ref a_p0_bowls, .ref a_p0_has, .ref a_p0_goesOn, .ref a_p0_isThere, .ref a_p0_isThereThen, .ref a_p0_bestRow, .ref a_p0_lanes, .ref a_p0_sizes, .ref a_p0_cells, .int i_p0_torn]))] sz)) 0 0 (va_A [(a_p0, .inr (12, [.ref a_p0_st, .ref a_p0_isKept, .int i_p0_seats, .int i_p0_stirs, .ref a_p0_brings, .ref a_p0_need, .ref a_p0_draft, .int i_p0_dSeats, .int i_p0_dStirs, .ref a_p0_dStir, .ref a_p0_dNeed, .int i_p0_told, .int i_p0_highest, .ref a_p0_tape, .int i_p0_taped, .int i_p0_pos, .int i_p0_from, .int i_p0_sort, .int i_p0_value, .int i_p0_fault, .int i_p0_wrongAt, .ref a_p0_places, .ref a_p0_stirred, .ref a_p0_ways, .ref a_p0_waysThen, .ref a_p0_stays, .ref a_p0_fewest, .ref a_p0_bowls, .ref a_p0_has, .ref a_p0_goesOn, .ref a_p0_isThere, .ref a_p0_isThereThen, .ref a_p0_bestRow, .ref a_p0_lanes, .ref a_p0_sizes, .ref a_p0_cells, .int i_p0_torn]))] sz) := by
  refine Met.ofW (cc := cX12_bowl) (maxL := 4) (ret := (some .int)) (by decide) rfl ?_
  intro p e s m args below meth c s₁ B hml hv
  obtain ⟨rfl, hsz, hP, hK, hD0⟩ := hv
  have hx := B.exec
  have hb := B.bytes
  have hr := B.returns
  have hts := atoms_spec (ws := wsX12_bowl) B.pre
  have hown : s.vm.findClass RX12 = some m.cls := findClass_of_methodNamed B.named
  have hlocks := B.notSynchronized
  subst hsz
  have hD := hD0.self (sz := s.heap.size)
  generalize hAe : va_A [(a_p0, .inr (12, [.ref a_p0_st, .ref a_p0_isKept, .int i_p0_seats, .int i_p0_stirs, .ref a_p0_brings, .ref a_p0_need, .ref a_p0_draft, .int i_p0_dSeats, .int i_p0_dStirs, .ref a_p0_dStir, .ref a_p0_dNeed, .int i_p0_told, .int i_p0_highest, .ref a_p0_tape, .int i_p0_taped, .int i_p0_pos, .int i_p0_from, .int i_p0_sort, .int i_p0_value, .int i_p0_fault, .int i_p0_wrongAt, .ref a_p0_places, .ref a_p0_stirred, .ref a_p0_ways, .ref a_p0_waysThen, .ref a_p0_stays, .ref a_p0_fewest, .ref a_p0_bowls, .ref a_p0_has, .ref a_p0_goesOn, .ref a_p0_isThere, .ref a_p0_isThereThen, .ref a_p0_bestRow, .ref a_p0_lanes, .ref a_p0_sizes, .ref a_p0_cells, .int i_p0_torn]))] s.heap.size = A at hD ⊢
  have hA : ∀ q : Nat, s.heap.size ≤ q → A q := fun q h => by rw [← hAe]; exact Or.inr h
  clear hAe hD0
  have hS : va_S A s.heap s.heap [] := va_S.rf
  have hl := lv_entry ([.ref a_p0, .int x1, .int x2, .int x3]) (n := 4) (Nat.le_of_ble_eq_true rfl)
  rw [lg_entry_eq]
  generalize (lg_sl ([.ref a_p0, .int x1, .int x2, .int x3]) ++ List.replicate (4 - (lg_sl ([.ref a_p0, .int x1, .int x2, .int x3])).length) Slot.unset).toArray = ls at hl ⊢
  have hl : lv_has ls 4 [(0, .ref a_p0), (1, .int x1), (2, .int x2), (3, .int x3)] := hl
  refine W_nameQ (fun Q hQ => ?_)
  obtain ⟨H, hH⟩ : ∃ H, H = s.heap := ⟨_, rfl⟩
  replace hS : va_S A s.heap H [] := by rw [hH]; exact hS
  replace hP : va_P D vwCl [(a_p0, .inr (12, [.ref a_p0_st, .ref a_p0_isKept, .int i_p0_seats, .int i_p0_stirs, .ref a_p0_brings, .ref a_p0_need, .ref a_p0_draft, .int i_p0_dSeats, .int i_p0_dStirs, .ref a_p0_dStir, .ref a_p0_dNeed, .int i_p0_told, .int i_p0_highest, .ref a_p0_tape, .int i_p0_taped, .int i_p0_pos, .int i_p0_from, .int i_p0_sort, .int i_p0_value, .int i_p0_fault, .int i_p0_wrongAt, .ref a_p0_places, .ref a_p0_stirred, .ref a_p0_ways, .ref a_p0_waysThen, .ref a_p0_stays, .ref a_p0_fewest, .ref a_p0_bowls, .ref a_p0_has, .ref a_p0_goesOn, .ref a_p0_isThere, .ref a_p0_isThereThen, .ref a_p0_bestRow, .ref a_p0_lanes, .ref a_p0_sizes, .ref a_p0_cells, .int i_p0_torn]))] H := by rw [hH]; exact hP
  rw [← hH]
  clear hH
  unfold f_X12_bowl at hf
  refine lv_aload_n hx hb dX12_bowl_0 rfl (lv_at hl 0 rfl) ?_
  refine lv_iload_n hx hb dX12_bowl_1 rfl (lv_at hl 1 rfl) ?_
  have hq := bd1_s hf
  clear hf
  obtain ⟨z1, hcall, hf⟩ := hq
  refine gcI (ws' := [(a_p0, .inr (12, [.ref a_p0_st, .ref a_p0_isKept, .int i_p0_seats, .int i_p0_stirs, .ref a_p0_brings, .ref a_p0_need, .ref a_p0_draft, .int i_p0_dSeats, .int i_p0_dStirs, .ref a_p0_dStir, .ref a_p0_dNeed, .int i_p0_told, .int i_p0_highest, .ref a_p0_tape, .int i_p0_taped, .int i_p0_pos, .int i_p0_from, .int i_p0_sort, .int i_p0_value, .int i_p0_fault, .int i_p0_wrongAt, .ref a_p0_places, .ref a_p0_stirred, .ref a_p0_ways, .ref a_p0_waysThen, .ref a_p0_stays, .ref a_p0_fewest, .ref a_p0_bowls, .ref a_p0_has, .ref a_p0_goesOn, .ref a_p0_isThere, .ref a_p0_isThereThen, .ref a_p0_bestRow, .ref a_p0_lanes, .ref a_p0_sizes, .ref a_p0_cells, .int i_p0_torn]))]) (va_runV (As := [.int x1]) (rest := []) ⟨hx, hb, hml, hown, hts⟩ (c_X12_isSeat (l := l) (D := D) (G := G) (sz := H.size) (a_p0 := a_p0) (a_p0_st := a_p0_st) (a_p0_isKept := a_p0_isKept) (a_p0_brings := a_p0_brings) (a_p0_need := a_p0_need) (a_p0_draft := a_p0_draft) (a_p0_dStir := a_p0_dStir) (a_p0_dNeed := a_p0_dNeed) (a_p0_tape := a_p0_tape) (a_p0_places := a_p0_places) (a_p0_stirred := a_p0_stirred) (a_p0_ways := a_p0_ways) (a_p0_waysThen := a_p0_waysThen) (a_p0_stays := a_p0_stays) (a_p0_fewest := a_p0_fewest) (a_p0_bowls := a_p0_bowls) (a_p0_has := a_p0_has) (a_p0_goesOn := a_p0_goesOn) (a_p0_isThere := a_p0_isThere) (a_p0_isThereThen := a_p0_isThereThen) (a_p0_bestRow := a_p0_bestRow) (a_p0_lanes := a_p0_lanes) (a_p0_sizes := a_p0_sizes) (a_p0_cells := a_p0_cells) (i_p0_seats := i_p0_seats) (i_p0_stirs := i_p0_stirs) (i_p0_dSeats := i_p0_dSeats) (i_p0_dStirs := i_p0_dStirs) (i_p0_told := i_p0_told) (i_p0_highest := i_p0_highest) (i_p0_taped := i_p0_taped) (i_p0_pos := i_p0_pos) (i_p0_from := i_p0_from) (i_p0_sort := i_p0_sort) (i_p0_value := i_p0_value) (i_p0_fault := i_p0_fault) (i_p0_wrongAt := i_p0_wrongAt) (i_p0_torn := i_p0_torn) (x1 := x1) (r := z1) (hf := hcall)) (cwV 1 hts gX12_bowl_X12_isSeat rfl rfl rfl (by decide +kernel) ⟨Nat.le_of_ble_eq_true rfl, Nat.le_of_ble_eq_true rfl⟩) (preG_V (ci := 12) (hP.sub [0] rfl) (hD.sub [0] rfl rfl) hK rfl rfl) rfl rfl hl.1 rfl (lv_room (Nat.le_of_ble_eq_true rfl)) dX12_bowl_2 ⟨Nat.le_of_ble_eq_true rfl, Nat.le_of_ble_eq_true rfl⟩) hP hD hS hA [0] [] [0] rfl rfl rfl (by decide) rfl rfl rfl (fun H locs hP hD hS => ?_)
  clear hcall
  refine lv_if_eq (tgt := 24) hx hb dX12_bowl_5 (by decide) (fun cc => ?_) (fun cc => ?_)
  ·
    replace hf := ite_t cc hf
    clear cc
    refine lv_iconst (v := (-1 : Int32)) hx hb dX12_bowl_24 (by decide) ?_
    obtain rfl := ou1 hf
    rw [hQ]
    exact W.iret hx hb hr (fun t ht hW => ⟨⟨_, (), rfl, rfl, by rw [ht]; exact hP, va_K.moved hW.alike hK, hD⟩, hS.F ht⟩) hS.2.2 dX12_bowl_25
  ·
    replace hf := ite_f cc hf
    clear cc
    refine lv_aload_n hx hb dX12_bowl_8 rfl (lv_at hl 0 rfl) ?_
    refine lv_iload_n hx hb dX12_bowl_9 rfl (lv_at hl 2 rfl) ?_
    have hq := bd1_s hf
    clear hf
    obtain ⟨z2, hcall, hf⟩ := hq
    refine gcI (ws' := [(a_p0, .inr (12, [.ref a_p0_st, .ref a_p0_isKept, .int i_p0_seats, .int i_p0_stirs, .ref a_p0_brings, .ref a_p0_need, .ref a_p0_draft, .int i_p0_dSeats, .int i_p0_dStirs, .ref a_p0_dStir, .ref a_p0_dNeed, .int i_p0_told, .int i_p0_highest, .ref a_p0_tape, .int i_p0_taped, .int i_p0_pos, .int i_p0_from, .int i_p0_sort, .int i_p0_value, .int i_p0_fault, .int i_p0_wrongAt, .ref a_p0_places, .ref a_p0_stirred, .ref a_p0_ways, .ref a_p0_waysThen, .ref a_p0_stays, .ref a_p0_fewest, .ref a_p0_bowls, .ref a_p0_has, .ref a_p0_goesOn, .ref a_p0_isThere, .ref a_p0_isThereThen, .ref a_p0_bestRow, .ref a_p0_lanes, .ref a_p0_sizes, .ref a_p0_cells, .int i_p0_torn]))]) (va_runV (As := [.int x2]) (rest := []) ⟨hx, hb, hml, hown, hts⟩ (c_X12_isSeat (l := l) (D := D) (G := G) (sz := H.size) (a_p0 := a_p0) (a_p0_st := a_p0_st) (a_p0_isKept := a_p0_isKept) (a_p0_brings := a_p0_brings) (a_p0_need := a_p0_need) (a_p0_draft := a_p0_draft) (a_p0_dStir := a_p0_dStir) (a_p0_dNeed := a_p0_dNeed) (a_p0_tape := a_p0_tape) (a_p0_places := a_p0_places) (a_p0_stirred := a_p0_stirred) (a_p0_ways := a_p0_ways) (a_p0_waysThen := a_p0_waysThen) (a_p0_stays := a_p0_stays) (a_p0_fewest := a_p0_fewest) (a_p0_bowls := a_p0_bowls) (a_p0_has := a_p0_has) (a_p0_goesOn := a_p0_goesOn) (a_p0_isThere := a_p0_isThere) (a_p0_isThereThen := a_p0_isThereThen) (a_p0_bestRow := a_p0_bestRow) (a_p0_lanes := a_p0_lanes) (a_p0_sizes := a_p0_sizes) (a_p0_cells := a_p0_cells) (i_p0_seats := i_p0_seats) (i_p0_stirs := i_p0_stirs) (i_p0_dSeats := i_p0_dSeats) (i_p0_dStirs := i_p0_dStirs) (i_p0_told := i_p0_told) (i_p0_highest := i_p0_highest) (i_p0_taped := i_p0_taped) (i_p0_pos := i_p0_pos) (i_p0_from := i_p0_from) (i_p0_sort := i_p0_sort) (i_p0_value := i_p0_value) (i_p0_fault := i_p0_fault) (i_p0_wrongAt := i_p0_wrongAt) (i_p0_torn := i_p0_torn) (x1 := x2) (r := z2) (hf := hcall)) (cwV 1 hts gX12_bowl_X12_isSeat rfl rfl rfl (by decide +kernel) ⟨Nat.le_of_ble_eq_true rfl, Nat.le_of_ble_eq_true rfl⟩) (preG_V (ci := 12) (hP.sub [0] rfl) (hD.sub [0] rfl rfl) hK rfl rfl) rfl rfl hl.1 rfl (lv_room (Nat.le_of_ble_eq_true rfl)) dX12_bowl_10 ⟨Nat.le_of_ble_eq_true rfl, Nat.le_of_ble_eq_true rfl⟩) hP hD hS hA [0] [] [0] rfl rfl rfl (by decide) rfl rfl rfl (fun H locs hP hD hS => ?_)
    clear hcall
    refine lv_if_eq (tgt := 24) hx hb dX12_bowl_13 (by decide) (fun cc => ?_) (fun cc => ?_)
    ·
      replace hf := ite_t cc hf
      clear cc
      refine lv_iconst (v := (-1 : Int32)) hx hb dX12_bowl_24 (by decide) ?_
      obtain rfl := ou1 hf
      rw [hQ]
      exact W.iret hx hb hr (fun t ht hW => ⟨⟨_, (), rfl, rfl, by rw [ht]; exact hP, va_K.moved hW.alike hK, hD⟩, hS.F ht⟩) hS.2.2 dX12_bowl_25
    ·
      replace hf := ite_f cc hf
      clear cc
      refine lv_aload_n hx hb dX12_bowl_16 rfl (lv_at hl 0 rfl) ?_
      refine lv_iload_n hx hb dX12_bowl_17 rfl (lv_at hl 3 rfl) ?_
      have hq := bd1_s hf
      clear hf
      obtain ⟨z3, hcall, hf⟩ := hq
      refine gcI (ws' := [(a_p0, .inr (12, [.ref a_p0_st, .ref a_p0_isKept, .int i_p0_seats, .int i_p0_stirs, .ref a_p0_brings, .ref a_p0_need, .ref a_p0_draft, .int i_p0_dSeats, .int i_p0_dStirs, .ref a_p0_dStir, .ref a_p0_dNeed, .int i_p0_told, .int i_p0_highest, .ref a_p0_tape, .int i_p0_taped, .int i_p0_pos, .int i_p0_from, .int i_p0_sort, .int i_p0_value, .int i_p0_fault, .int i_p0_wrongAt, .ref a_p0_places, .ref a_p0_stirred, .ref a_p0_ways, .ref a_p0_waysThen, .ref a_p0_stays, .ref a_p0_fewest, .ref a_p0_bowls, .ref a_p0_has, .ref a_p0_goesOn, .ref a_p0_isThere, .ref a_p0_isThereThen, .ref a_p0_bestRow, .ref a_p0_lanes, .ref a_p0_sizes, .ref a_p0_cells, .int i_p0_torn]))]) (va_runV (As := [.int x3]) (rest := []) ⟨hx, hb, hml, hown, hts⟩ (c_X12_isStir (l := l) (D := D) (G := G) (sz := H.size) (a_p0 := a_p0) (a_p0_st := a_p0_st) (a_p0_isKept := a_p0_isKept) (a_p0_brings := a_p0_brings) (a_p0_need := a_p0_need) (a_p0_draft := a_p0_draft) (a_p0_dStir := a_p0_dStir) (a_p0_dNeed := a_p0_dNeed) (a_p0_tape := a_p0_tape) (a_p0_places := a_p0_places) (a_p0_stirred := a_p0_stirred) (a_p0_ways := a_p0_ways) (a_p0_waysThen := a_p0_waysThen) (a_p0_stays := a_p0_stays) (a_p0_fewest := a_p0_fewest) (a_p0_bowls := a_p0_bowls) (a_p0_has := a_p0_has) (a_p0_goesOn := a_p0_goesOn) (a_p0_isThere := a_p0_isThere) (a_p0_isThereThen := a_p0_isThereThen) (a_p0_bestRow := a_p0_bestRow) (a_p0_lanes := a_p0_lanes) (a_p0_sizes := a_p0_sizes) (a_p0_cells := a_p0_cells) (i_p0_seats := i_p0_seats) (i_p0_stirs := i_p0_stirs) (i_p0_dSeats := i_p0_dSeats) (i_p0_dStirs := i_p0_dStirs) (i_p0_told := i_p0_told) (i_p0_highest := i_p0_highest) (i_p0_taped := i_p0_taped) (i_p0_pos := i_p0_pos) (i_p0_from := i_p0_from) (i_p0_sort := i_p0_sort) (i_p0_value := i_p0_value) (i_p0_fault := i_p0_fault) (i_p0_wrongAt := i_p0_wrongAt) (i_p0_torn := i_p0_torn) (x1 := x3) (r := z3) (hf := hcall)) (cwV 1 hts gX12_bowl_X12_isStir rfl rfl rfl (by decide +kernel) ⟨Nat.le_of_ble_eq_true rfl, Nat.le_of_ble_eq_true rfl⟩) (preG_V (ci := 12) (hP.sub [0] rfl) (hD.sub [0] rfl rfl) hK rfl rfl) rfl rfl hl.1 rfl (lv_room (Nat.le_of_ble_eq_true rfl)) dX12_bowl_18 ⟨Nat.le_of_ble_eq_true rfl, Nat.le_of_ble_eq_true rfl⟩) hP hD hS hA [0] [] [0] rfl rfl rfl (by decide) rfl rfl rfl (fun H locs hP hD hS => ?_)
      clear hcall
      refine lv_if_ne (tgt := 26) hx hb dX12_bowl_21 (by decide) (fun cc => ?_) (fun cc => ?_)
      ·
        replace hf := ite_f cc hf
        clear cc
        refine lv_aload_n hx hb dX12_bowl_26 rfl (lv_at hl 0 rfl) ?_
        refine lv_iload_n hx hb dX12_bowl_27 rfl (lv_at hl 1 rfl) ?_
        cases hf
      ·
        replace hf := ite_t cc hf
        clear cc
        refine lv_iconst (v := (-1 : Int32)) hx hb dX12_bowl_24 (by decide) ?_
        obtain rfl := ou1 hf
        rw [hQ]
        exact W.iret hx hb hr (fun t ht hW => ⟨⟨_, (), rfl, rfl, by rw [ht]; exact hP, va_K.moved hW.alike hK, hD⟩, hS.F ht⟩) hS.2.2 dX12_bowl_25

noncomputable def f_X12_ladle (i_p0_seats : Int32) (i_p0_stirs : Int32) (x1 : Int32) (x2 : Int32) (x3 : Int32) : Option (Int32) := (bd1 (f_X12_isSeat i_p0_seats x1) (fun (z1 : Int32) => (if z1 = 0 then (some (-1 : Int32)) else (bd1 (f_X12_isSeat i_p0_seats x2) (fun (z2 : Int32) => (if z2 = 0 then (some (-1 : Int32)) else (bd1 (f_X12_isStir i_p0_stirs x3) (fun (z3 : Int32) => (if z3 = 0 then (some (-1 : Int32)) else none)))))))))
abbrev rm_X12_ladle : Room := { frames := 2, cells := 0, slots := 0, locals := 46 }
set_option maxHeartbeats 8000000 in
set_option maxRecDepth 100000 in
theorem c_X12_ladle (l : Launch) (D : va_G) (G : Nat → ClassId) (sz : Nat) (a_p0 : Nat) (a_p0_st : Nat) (a_p0_isKept : Nat) (a_p0_brings : Nat) (a_p0_need : Nat) (a_p0_draft : Nat) (a_p0_dStir : Nat) (a_p0_dNeed : Nat) (a_p0_tape : Nat) (a_p0_places : Nat) (a_p0_stirred : Nat) (a_p0_ways : Nat) (a_p0_waysThen : Nat) (a_p0_stays : Nat) (a_p0_fewest : Nat) (a_p0_bowls : Nat) (a_p0_has : Nat) (a_p0_goesOn : Nat) (a_p0_isThere : Nat) (a_p0_isThereThen : Nat) (a_p0_bestRow : Nat) (a_p0_lanes : Nat) (a_p0_sizes : Nat) (a_p0_cells : Nat) (i_p0_seats : Int32) (i_p0_stirs : Int32) (i_p0_dSeats : Int32) (i_p0_dStirs : Int32) (i_p0_told : Int32) (i_p0_highest : Int32) (i_p0_taped : Int32) (i_p0_pos : Int32) (i_p0_from : Int32) (i_p0_sort : Int32) (i_p0_value : Int32) (i_p0_fault : Int32) (i_p0_wrongAt : Int32) (i_p0_torn : Int32) (x1 : Int32) (x2 : Int32) (x3 : Int32) (r : Int32) (hf : f_X12_ladle i_p0_seats i_p0_stirs x1 x2 x3 = some r) : Met l yX12_ladle wsX12_ladle rm_X12_ladle (pcG D G [.ref a_p0, .int x1, .int x2, .int x3] sz [(a_p0, .inr (12, [.ref a_p0_st, .ref a_p0_isKept, .int i_p0_seats, .int i_p0_stirs, .ref a_p0_brings, .ref a_p0_need, .ref a_p0_draft, .int i_p0_dSeats, .int i_p0_dStirs, .ref a_p0_dStir, .ref a_p0_dNeed, .int i_p0_told, .int i_p0_highest, .ref a_p0_tape, .int i_p0_taped, .int i_p0_pos, .int i_p0_from, .int i_p0_sort, .int i_p0_value, .int i_p0_fault, .int i_p0_wrongAt, .ref a_p0_places, .ref a_p0_stirred, .ref a_p0_ways, .ref a_p0_waysThen, .ref a_p0_stays, .ref a_p0_fewest, .ref a_p0_bowls, .ref a_p0_has, .ref a_p0_goesOn, .ref a_p0_isThere, .ref a_p0_isThereThen, .ref a_p0_bestRow, .ref a_p0_lanes, .ref a_p0_sizes, .ref a_p0_cells, .int i_p0_torn]))]) (qcI D G r [(a_p0, .inr (12, [.ref a_p0_st, .ref a_p0_isKept, .int i_p0_seats, .int i_p0_stirs, .ref a_p0_brings, .ref a_p0_need, .ref a_p0_draft, .int i_p0_dSeats, .int i_p0_dStirs, .ref a_p0_dStir, .ref a_p0_dNeed, .int i_p0_told, .int i_p0_highest, .ref a_p0_tape, .int i_p0_taped, .int i_p0_pos, .int i_p0_from, .int i_p0_sort, .int i_p0_value, .int i_p0_fault, .int i_p0_wrongAt, .ref a_p0_places, .ref a_p0_stirred, .ref a_p0_ways, .ref a_p0_waysThen, .ref a_p0_stays, .ref a_p0_fewest, .ref a_p0_bowls, .ref a_p0_has, .ref a_p0_goesOn, .ref a_p0_isThere, .ref a_p0_isThereThen, .ref a_p0_bestRow, .ref a_p0_lanes, .ref a_p0_sizes, .ref a_p0_cells, .int i_p0_torn]))] (va_A [(a_p0, .inr (12, [.ref a_p0_st, .ref a_p0_isKept, .int i_p0_seats, .int i_p0_stirs, .ref a_p0_brings, .ref a_p0_need, .ref a_p0_draft, .int i_p0_dSeats, .int i_p0_dStirs, .ref a_p0_dStir, .ref a_p0_dNeed, .int i_p0_told, .int i_p0_highest, .ref a_p0_tape, .int i_p0_taped, .int i_p0_pos, .int i_p0_from, .int i_p0_sort, .int i_p0_value, .int i_p0_fault, .int i_p0_wrongAt, .ref a_p0_places, .ref a_p0_stirred, .ref a_p0_ways, .ref a_p0_waysThen, .ref a_p0_stays, .ref a_p0_fewest, .ref a_p0_bowls, .ref a_p0_has, .ref a_p0_goesOn, .ref a_p0_isThere, .ref a_p0_isThereThen, .ref a_p0_bestRow, .ref a_p0_lanes, .ref a_p0_sizes, .ref a_p0_cells, .int i_p0_torn]))] sz)) 0 0 (va_A [(a_p0, .inr (12, [.ref a_p0_st, .ref a_p0_isKept, .int i_p0_seats, .int i_p0_stirs, .ref a_p0_brings, .ref a_p0_need, .ref a_p0_draft, .int i_p0_dSeats, .int i_p0_dStirs, .ref a_p0_dStir, .ref a_p0_dNeed, .int i_p0_told, .int i_p0_highest, .ref a_p0_tape, .int i_p0_taped, .int i_p0_pos, .int i_p0_from, .int i_p0_sort, .int i_p0_value, .int i_p0_fault, .int i_p0_wrongAt, .ref a_p0_places, .ref a_p0_stirred, .ref a_p0_ways, .ref a_p0_waysThen, .ref a_p0_stays, .ref a_p0_fewest, .ref a_p0_bowls, .ref a_p0_has, .ref a_p0_goesOn, .ref a_p0_isThere, .ref a_p0_isThereThen, .ref a_p0_bestRow, .ref a_p0_lanes, .ref a_p0_sizes, .ref a_p0_cells, .int i_p0_torn]))] sz) := by
  refine Met.ofW (cc := cX12_ladle) (maxL := 4) (ret := (some .int)) (by decide) rfl ?_
  intro p e s m args below meth c s₁ B hml hv
  obtain ⟨rfl, hsz, hP, hK, hD0⟩ := hv
  have hx := B.exec
  have hb := B.bytes
  have hr := B.returns
  have hts := atoms_spec (ws := wsX12_ladle) B.pre
  have hown : s.vm.findClass RX12 = some m.cls := findClass_of_methodNamed B.named
  have hlocks := B.notSynchronized
  subst hsz
  have hD := hD0.self (sz := s.heap.size)
  generalize hAe : va_A [(a_p0, .inr (12, [.ref a_p0_st, .ref a_p0_isKept, .int i_p0_seats, .int i_p0_stirs, .ref a_p0_brings, .ref a_p0_need, .ref a_p0_draft, .int i_p0_dSeats, .int i_p0_dStirs, .ref a_p0_dStir, .ref a_p0_dNeed, .int i_p0_told, .int i_p0_highest, .ref a_p0_tape, .int i_p0_taped, .int i_p0_pos, .int i_p0_from, .int i_p0_sort, .int i_p0_value, .int i_p0_fault, .int i_p0_wrongAt, .ref a_p0_places, .ref a_p0_stirred, .ref a_p0_ways, .ref a_p0_waysThen, .ref a_p0_stays, .ref a_p0_fewest, .ref a_p0_bowls, .ref a_p0_has, .ref a_p0_goesOn, .ref a_p0_isThere, .ref a_p0_isThereThen, .ref a_p0_bestRow, .ref a_p0_lanes, .ref a_p0_sizes, .ref a_p0_cells, .int i_p0_torn]))] s.heap.size = A at hD ⊢
  have hA : ∀ q : Nat, s.heap.size ≤ q → A q := fun q h => by rw [← hAe]; exact Or.inr h
  clear hAe hD0
  have hS : va_S A s.heap s.heap [] := va_S.rf
  have hl := lv_entry ([.ref a_p0, .int x1, .int x2, .int x3]) (n := 4) (Nat.le_of_ble_eq_true rfl)
  rw [lg_entry_eq]
  generalize (lg_sl ([.ref a_p0, .int x1, .int x2, .int x3]) ++ List.replicate (4 - (lg_sl ([.ref a_p0, .int x1, .int x2, .int x3])).length) Slot.unset).toArray = ls at hl ⊢
  have hl : lv_has ls 4 [(0, .ref a_p0), (1, .int x1), (2, .int x2), (3, .int x3)] := hl
  refine W_nameQ (fun Q hQ => ?_)
  obtain ⟨H, hH⟩ : ∃ H, H = s.heap := ⟨_, rfl⟩
  replace hS : va_S A s.heap H [] := by rw [hH]; exact hS
  replace hP : va_P D vwCl [(a_p0, .inr (12, [.ref a_p0_st, .ref a_p0_isKept, .int i_p0_seats, .int i_p0_stirs, .ref a_p0_brings, .ref a_p0_need, .ref a_p0_draft, .int i_p0_dSeats, .int i_p0_dStirs, .ref a_p0_dStir, .ref a_p0_dNeed, .int i_p0_told, .int i_p0_highest, .ref a_p0_tape, .int i_p0_taped, .int i_p0_pos, .int i_p0_from, .int i_p0_sort, .int i_p0_value, .int i_p0_fault, .int i_p0_wrongAt, .ref a_p0_places, .ref a_p0_stirred, .ref a_p0_ways, .ref a_p0_waysThen, .ref a_p0_stays, .ref a_p0_fewest, .ref a_p0_bowls, .ref a_p0_has, .ref a_p0_goesOn, .ref a_p0_isThere, .ref a_p0_isThereThen, .ref a_p0_bestRow, .ref a_p0_lanes, .ref a_p0_sizes, .ref a_p0_cells, .int i_p0_torn]))] H := by rw [hH]; exact hP
  rw [← hH]
  clear hH
  unfold f_X12_ladle at hf
  refine lv_aload_n hx hb dX12_ladle_0 rfl (lv_at hl 0 rfl) ?_
  refine lv_iload_n hx hb dX12_ladle_1 rfl (lv_at hl 1 rfl) ?_
  have hq := bd1_s hf
  clear hf
  obtain ⟨z1, hcall, hf⟩ := hq
  refine gcI (ws' := [(a_p0, .inr (12, [.ref a_p0_st, .ref a_p0_isKept, .int i_p0_seats, .int i_p0_stirs, .ref a_p0_brings, .ref a_p0_need, .ref a_p0_draft, .int i_p0_dSeats, .int i_p0_dStirs, .ref a_p0_dStir, .ref a_p0_dNeed, .int i_p0_told, .int i_p0_highest, .ref a_p0_tape, .int i_p0_taped, .int i_p0_pos, .int i_p0_from, .int i_p0_sort, .int i_p0_value, .int i_p0_fault, .int i_p0_wrongAt, .ref a_p0_places, .ref a_p0_stirred, .ref a_p0_ways, .ref a_p0_waysThen, .ref a_p0_stays, .ref a_p0_fewest, .ref a_p0_bowls, .ref a_p0_has, .ref a_p0_goesOn, .ref a_p0_isThere, .ref a_p0_isThereThen, .ref a_p0_bestRow, .ref a_p0_lanes, .ref a_p0_sizes, .ref a_p0_cells, .int i_p0_torn]))]) (va_runV (As := [.int x1]) (rest := []) ⟨hx, hb, hml, hown, hts⟩ (c_X12_isSeat (l := l) (D := D) (G := G) (sz := H.size) (a_p0 := a_p0) (a_p0_st := a_p0_st) (a_p0_isKept := a_p0_isKept) (a_p0_brings := a_p0_brings) (a_p0_need := a_p0_need) (a_p0_draft := a_p0_draft) (a_p0_dStir := a_p0_dStir) (a_p0_dNeed := a_p0_dNeed) (a_p0_tape := a_p0_tape) (a_p0_places := a_p0_places) (a_p0_stirred := a_p0_stirred) (a_p0_ways := a_p0_ways) (a_p0_waysThen := a_p0_waysThen) (a_p0_stays := a_p0_stays) (a_p0_fewest := a_p0_fewest) (a_p0_bowls := a_p0_bowls) (a_p0_has := a_p0_has) (a_p0_goesOn := a_p0_goesOn) (a_p0_isThere := a_p0_isThere) (a_p0_isThereThen := a_p0_isThereThen) (a_p0_bestRow := a_p0_bestRow) (a_p0_lanes := a_p0_lanes) (a_p0_sizes := a_p0_sizes) (a_p0_cells := a_p0_cells) (i_p0_seats := i_p0_seats) (i_p0_stirs := i_p0_stirs) (i_p0_dSeats := i_p0_dSeats) (i_p0_dStirs := i_p0_dStirs) (i_p0_told := i_p0_told) (i_p0_highest := i_p0_highest) (i_p0_taped := i_p0_taped) (i_p0_pos := i_p0_pos) (i_p0_from := i_p0_from) (i_p0_sort := i_p0_sort) (i_p0_value := i_p0_value) (i_p0_fault := i_p0_fault) (i_p0_wrongAt := i_p0_wrongAt) (i_p0_torn := i_p0_torn) (x1 := x1) (r := z1) (hf := hcall)) (cwV 1 hts gX12_ladle_X12_isSeat rfl rfl rfl (by decide +kernel) ⟨Nat.le_of_ble_eq_true rfl, Nat.le_of_ble_eq_true rfl⟩) (preG_V (ci := 12) (hP.sub [0] rfl) (hD.sub [0] rfl rfl) hK rfl rfl) rfl rfl hl.1 rfl (lv_room (Nat.le_of_ble_eq_true rfl)) dX12_ladle_2 ⟨Nat.le_of_ble_eq_true rfl, Nat.le_of_ble_eq_true rfl⟩) hP hD hS hA [0] [] [0] rfl rfl rfl (by decide) rfl rfl rfl (fun H locs hP hD hS => ?_)
  clear hcall
  refine lv_if_eq (tgt := 24) hx hb dX12_ladle_5 (by decide) (fun cc => ?_) (fun cc => ?_)
  ·
    replace hf := ite_t cc hf
    clear cc
    refine lv_iconst (v := (-1 : Int32)) hx hb dX12_ladle_24 (by decide) ?_
    obtain rfl := ou1 hf
    rw [hQ]
    exact W.iret hx hb hr (fun t ht hW => ⟨⟨_, (), rfl, rfl, by rw [ht]; exact hP, va_K.moved hW.alike hK, hD⟩, hS.F ht⟩) hS.2.2 dX12_ladle_25
  ·
    replace hf := ite_f cc hf
    clear cc
    refine lv_aload_n hx hb dX12_ladle_8 rfl (lv_at hl 0 rfl) ?_
    refine lv_iload_n hx hb dX12_ladle_9 rfl (lv_at hl 2 rfl) ?_
    have hq := bd1_s hf
    clear hf
    obtain ⟨z2, hcall, hf⟩ := hq
    refine gcI (ws' := [(a_p0, .inr (12, [.ref a_p0_st, .ref a_p0_isKept, .int i_p0_seats, .int i_p0_stirs, .ref a_p0_brings, .ref a_p0_need, .ref a_p0_draft, .int i_p0_dSeats, .int i_p0_dStirs, .ref a_p0_dStir, .ref a_p0_dNeed, .int i_p0_told, .int i_p0_highest, .ref a_p0_tape, .int i_p0_taped, .int i_p0_pos, .int i_p0_from, .int i_p0_sort, .int i_p0_value, .int i_p0_fault, .int i_p0_wrongAt, .ref a_p0_places, .ref a_p0_stirred, .ref a_p0_ways, .ref a_p0_waysThen, .ref a_p0_stays, .ref a_p0_fewest, .ref a_p0_bowls, .ref a_p0_has, .ref a_p0_goesOn, .ref a_p0_isThere, .ref a_p0_isThereThen, .ref a_p0_bestRow, .ref a_p0_lanes, .ref a_p0_sizes, .ref a_p0_cells, .int i_p0_torn]))]) (va_runV (As := [.int x2]) (rest := []) ⟨hx, hb, hml, hown, hts⟩ (c_X12_isSeat (l := l) (D := D) (G := G) (sz := H.size) (a_p0 := a_p0) (a_p0_st := a_p0_st) (a_p0_isKept := a_p0_isKept) (a_p0_brings := a_p0_brings) (a_p0_need := a_p0_need) (a_p0_draft := a_p0_draft) (a_p0_dStir := a_p0_dStir) (a_p0_dNeed := a_p0_dNeed) (a_p0_tape := a_p0_tape) (a_p0_places := a_p0_places) (a_p0_stirred := a_p0_stirred) (a_p0_ways := a_p0_ways) (a_p0_waysThen := a_p0_waysThen) (a_p0_stays := a_p0_stays) (a_p0_fewest := a_p0_fewest) (a_p0_bowls := a_p0_bowls) (a_p0_has := a_p0_has) (a_p0_goesOn := a_p0_goesOn) (a_p0_isThere := a_p0_isThere) (a_p0_isThereThen := a_p0_isThereThen) (a_p0_bestRow := a_p0_bestRow) (a_p0_lanes := a_p0_lanes) (a_p0_sizes := a_p0_sizes) (a_p0_cells := a_p0_cells) (i_p0_seats := i_p0_seats) (i_p0_stirs := i_p0_stirs) (i_p0_dSeats := i_p0_dSeats) (i_p0_dStirs := i_p0_dStirs) (i_p0_told := i_p0_told) (i_p0_highest := i_p0_highest) (i_p0_taped := i_p0_taped) (i_p0_pos := i_p0_pos) (i_p0_from := i_p0_from) (i_p0_sort := i_p0_sort) (i_p0_value := i_p0_value) (i_p0_fault := i_p0_fault) (i_p0_wrongAt := i_p0_wrongAt) (i_p0_torn := i_p0_torn) (x1 := x2) (r := z2) (hf := hcall)) (cwV 1 hts gX12_ladle_X12_isSeat rfl rfl rfl (by decide +kernel) ⟨Nat.le_of_ble_eq_true rfl, Nat.le_of_ble_eq_true rfl⟩) (preG_V (ci := 12) (hP.sub [0] rfl) (hD.sub [0] rfl rfl) hK rfl rfl) rfl rfl hl.1 rfl (lv_room (Nat.le_of_ble_eq_true rfl)) dX12_ladle_10 ⟨Nat.le_of_ble_eq_true rfl, Nat.le_of_ble_eq_true rfl⟩) hP hD hS hA [0] [] [0] rfl rfl rfl (by decide) rfl rfl rfl (fun H locs hP hD hS => ?_)
    clear hcall
    refine lv_if_eq (tgt := 24) hx hb dX12_ladle_13 (by decide) (fun cc => ?_) (fun cc => ?_)
    ·
      replace hf := ite_t cc hf
      clear cc
      refine lv_iconst (v := (-1 : Int32)) hx hb dX12_ladle_24 (by decide) ?_
      obtain rfl := ou1 hf
      rw [hQ]
      exact W.iret hx hb hr (fun t ht hW => ⟨⟨_, (), rfl, rfl, by rw [ht]; exact hP, va_K.moved hW.alike hK, hD⟩, hS.F ht⟩) hS.2.2 dX12_ladle_25
    ·
      replace hf := ite_f cc hf
      clear cc
      refine lv_aload_n hx hb dX12_ladle_16 rfl (lv_at hl 0 rfl) ?_
      refine lv_iload_n hx hb dX12_ladle_17 rfl (lv_at hl 3 rfl) ?_
      have hq := bd1_s hf
      clear hf
      obtain ⟨z3, hcall, hf⟩ := hq
      refine gcI (ws' := [(a_p0, .inr (12, [.ref a_p0_st, .ref a_p0_isKept, .int i_p0_seats, .int i_p0_stirs, .ref a_p0_brings, .ref a_p0_need, .ref a_p0_draft, .int i_p0_dSeats, .int i_p0_dStirs, .ref a_p0_dStir, .ref a_p0_dNeed, .int i_p0_told, .int i_p0_highest, .ref a_p0_tape, .int i_p0_taped, .int i_p0_pos, .int i_p0_from, .int i_p0_sort, .int i_p0_value, .int i_p0_fault, .int i_p0_wrongAt, .ref a_p0_places, .ref a_p0_stirred, .ref a_p0_ways, .ref a_p0_waysThen, .ref a_p0_stays, .ref a_p0_fewest, .ref a_p0_bowls, .ref a_p0_has, .ref a_p0_goesOn, .ref a_p0_isThere, .ref a_p0_isThereThen, .ref a_p0_bestRow, .ref a_p0_lanes, .ref a_p0_sizes, .ref a_p0_cells, .int i_p0_torn]))]) (va_runV (As := [.int x3]) (rest := []) ⟨hx, hb, hml, hown, hts⟩ (c_X12_isStir (l := l) (D := D) (G := G) (sz := H.size) (a_p0 := a_p0) (a_p0_st := a_p0_st) (a_p0_isKept := a_p0_isKept) (a_p0_brings := a_p0_brings) (a_p0_need := a_p0_need) (a_p0_draft := a_p0_draft) (a_p0_dStir := a_p0_dStir) (a_p0_dNeed := a_p0_dNeed) (a_p0_tape := a_p0_tape) (a_p0_places := a_p0_places) (a_p0_stirred := a_p0_stirred) (a_p0_ways := a_p0_ways) (a_p0_waysThen := a_p0_waysThen) (a_p0_stays := a_p0_stays) (a_p0_fewest := a_p0_fewest) (a_p0_bowls := a_p0_bowls) (a_p0_has := a_p0_has) (a_p0_goesOn := a_p0_goesOn) (a_p0_isThere := a_p0_isThere) (a_p0_isThereThen := a_p0_isThereThen) (a_p0_bestRow := a_p0_bestRow) (a_p0_lanes := a_p0_lanes) (a_p0_sizes := a_p0_sizes) (a_p0_cells := a_p0_cells) (i_p0_seats := i_p0_seats) (i_p0_stirs := i_p0_stirs) (i_p0_dSeats := i_p0_dSeats) (i_p0_dStirs := i_p0_dStirs) (i_p0_told := i_p0_told) (i_p0_highest := i_p0_highest) (i_p0_taped := i_p0_taped) (i_p0_pos := i_p0_pos) (i_p0_from := i_p0_from) (i_p0_sort := i_p0_sort) (i_p0_value := i_p0_value) (i_p0_fault := i_p0_fault) (i_p0_wrongAt := i_p0_wrongAt) (i_p0_torn := i_p0_torn) (x1 := x3) (r := z3) (hf := hcall)) (cwV 1 hts gX12_ladle_X12_isStir rfl rfl rfl (by decide +kernel) ⟨Nat.le_of_ble_eq_true rfl, Nat.le_of_ble_eq_true rfl⟩) (preG_V (ci := 12) (hP.sub [0] rfl) (hD.sub [0] rfl rfl) hK rfl rfl) rfl rfl hl.1 rfl (lv_room (Nat.le_of_ble_eq_true rfl)) dX12_ladle_18 ⟨Nat.le_of_ble_eq_true rfl, Nat.le_of_ble_eq_true rfl⟩) hP hD hS hA [0] [] [0] rfl rfl rfl (by decide) rfl rfl rfl (fun H locs hP hD hS => ?_)
      clear hcall
      refine lv_if_ne (tgt := 26) hx hb dX12_ladle_21 (by decide) (fun cc => ?_) (fun cc => ?_)
      ·
        replace hf := ite_f cc hf
        clear cc
        refine lv_aload_n hx hb dX12_ladle_26 rfl (lv_at hl 0 rfl) ?_
        refine lv_iload_n hx hb dX12_ladle_27 rfl (lv_at hl 1 rfl) ?_
        cases hf
      ·
        replace hf := ite_t cc hf
        clear cc
        refine lv_iconst (v := (-1 : Int32)) hx hb dX12_ladle_24 (by decide) ?_
        obtain rfl := ou1 hf
        rw [hQ]
        exact W.iret hx hb hr (fun t ht hW => ⟨⟨_, (), rfl, rfl, by rw [ht]; exact hP, va_K.moved hW.alike hK, hD⟩, hS.F ht⟩) hS.2.2 dX12_ladle_25

noncomputable def f_X12_next (i_p0_seats : Int32) (i_p0_stirs : Int32) (x1 : Int32) (x2 : Int32) : Option (Int32) := (bd1 (f_X12_isSeat i_p0_seats x1) (fun (z1 : Int32) => (if z1 = 0 then (some (-1 : Int32)) else (bd1 (f_X12_isStir i_p0_stirs x2) (fun (z2 : Int32) => (if z2 = 0 then (some (-1 : Int32)) else (ck (ixB (7 : Int32) 152) none)))))))
abbrev rm_X12_next : Room := { frames := 2, cells := 0, slots := 0, locals := 46 }
theorem inX12_next_X12 : ∀ w ∈ wsX120, w ∈ wsX12_next := by decide +kernel
theorem mwX12_next_1 : Cond.fieldLink RX12 7 "LadleKingsModel" "st" "[I" ∈ wsX12_next := by decide +kernel
set_option maxHeartbeats 8000000 in
set_option maxRecDepth 100000 in
theorem c_X12_next (l : Launch) (D : va_G) (G : Nat → ClassId) (sz : Nat) (a_p0 : Nat) (a_p0_st : Nat) (a_p0_isKept : Nat) (a_p0_brings : Nat) (a_p0_need : Nat) (a_p0_draft : Nat) (a_p0_dStir : Nat) (a_p0_dNeed : Nat) (a_p0_tape : Nat) (a_p0_places : Nat) (a_p0_stirred : Nat) (a_p0_ways : Nat) (a_p0_waysThen : Nat) (a_p0_stays : Nat) (a_p0_fewest : Nat) (a_p0_bowls : Nat) (a_p0_has : Nat) (a_p0_goesOn : Nat) (a_p0_isThere : Nat) (a_p0_isThereThen : Nat) (a_p0_bestRow : Nat) (a_p0_lanes : Nat) (a_p0_sizes : Nat) (a_p0_cells : Nat) (i_p0_seats : Int32) (i_p0_stirs : Int32) (i_p0_dSeats : Int32) (i_p0_dStirs : Int32) (i_p0_told : Int32) (i_p0_highest : Int32) (i_p0_taped : Int32) (i_p0_pos : Int32) (i_p0_from : Int32) (i_p0_sort : Int32) (i_p0_value : Int32) (i_p0_fault : Int32) (i_p0_wrongAt : Int32) (i_p0_torn : Int32) (v_p0_st : (Nat → Int32)) (x1 : Int32) (x2 : Int32) (r : Int32) (hf : f_X12_next i_p0_seats i_p0_stirs x1 x2 = some r) : Met l yX12_next wsX12_next rm_X12_next (pcG D G [.ref a_p0, .int x1, .int x2] sz [(a_p0, .inr (12, [.ref a_p0_st, .ref a_p0_isKept, .int i_p0_seats, .int i_p0_stirs, .ref a_p0_brings, .ref a_p0_need, .ref a_p0_draft, .int i_p0_dSeats, .int i_p0_dStirs, .ref a_p0_dStir, .ref a_p0_dNeed, .int i_p0_told, .int i_p0_highest, .ref a_p0_tape, .int i_p0_taped, .int i_p0_pos, .int i_p0_from, .int i_p0_sort, .int i_p0_value, .int i_p0_fault, .int i_p0_wrongAt, .ref a_p0_places, .ref a_p0_stirred, .ref a_p0_ways, .ref a_p0_waysThen, .ref a_p0_stays, .ref a_p0_fewest, .ref a_p0_bowls, .ref a_p0_has, .ref a_p0_goesOn, .ref a_p0_isThere, .ref a_p0_isThereThen, .ref a_p0_bestRow, .ref a_p0_lanes, .ref a_p0_sizes, .ref a_p0_cells, .int i_p0_torn])), (a_p0_st, .inl (G 1, 152, .inl v_p0_st))]) (qcI D G r [(a_p0, .inr (12, [.ref a_p0_st, .ref a_p0_isKept, .int i_p0_seats, .int i_p0_stirs, .ref a_p0_brings, .ref a_p0_need, .ref a_p0_draft, .int i_p0_dSeats, .int i_p0_dStirs, .ref a_p0_dStir, .ref a_p0_dNeed, .int i_p0_told, .int i_p0_highest, .ref a_p0_tape, .int i_p0_taped, .int i_p0_pos, .int i_p0_from, .int i_p0_sort, .int i_p0_value, .int i_p0_fault, .int i_p0_wrongAt, .ref a_p0_places, .ref a_p0_stirred, .ref a_p0_ways, .ref a_p0_waysThen, .ref a_p0_stays, .ref a_p0_fewest, .ref a_p0_bowls, .ref a_p0_has, .ref a_p0_goesOn, .ref a_p0_isThere, .ref a_p0_isThereThen, .ref a_p0_bestRow, .ref a_p0_lanes, .ref a_p0_sizes, .ref a_p0_cells, .int i_p0_torn])), (a_p0_st, .inl (G 1, 152, .inl v_p0_st))] (va_A [(a_p0, .inr (12, [.ref a_p0_st, .ref a_p0_isKept, .int i_p0_seats, .int i_p0_stirs, .ref a_p0_brings, .ref a_p0_need, .ref a_p0_draft, .int i_p0_dSeats, .int i_p0_dStirs, .ref a_p0_dStir, .ref a_p0_dNeed, .int i_p0_told, .int i_p0_highest, .ref a_p0_tape, .int i_p0_taped, .int i_p0_pos, .int i_p0_from, .int i_p0_sort, .int i_p0_value, .int i_p0_fault, .int i_p0_wrongAt, .ref a_p0_places, .ref a_p0_stirred, .ref a_p0_ways, .ref a_p0_waysThen, .ref a_p0_stays, .ref a_p0_fewest, .ref a_p0_bowls, .ref a_p0_has, .ref a_p0_goesOn, .ref a_p0_isThere, .ref a_p0_isThereThen, .ref a_p0_bestRow, .ref a_p0_lanes, .ref a_p0_sizes, .ref a_p0_cells, .int i_p0_torn])), (a_p0_st, .inl (G 1, 152, .inl v_p0_st))] sz)) 0 0 (va_A [(a_p0, .inr (12, [.ref a_p0_st, .ref a_p0_isKept, .int i_p0_seats, .int i_p0_stirs, .ref a_p0_brings, .ref a_p0_need, .ref a_p0_draft, .int i_p0_dSeats, .int i_p0_dStirs, .ref a_p0_dStir, .ref a_p0_dNeed, .int i_p0_told, .int i_p0_highest, .ref a_p0_tape, .int i_p0_taped, .int i_p0_pos, .int i_p0_from, .int i_p0_sort, .int i_p0_value, .int i_p0_fault, .int i_p0_wrongAt, .ref a_p0_places, .ref a_p0_stirred, .ref a_p0_ways, .ref a_p0_waysThen, .ref a_p0_stays, .ref a_p0_fewest, .ref a_p0_bowls, .ref a_p0_has, .ref a_p0_goesOn, .ref a_p0_isThere, .ref a_p0_isThereThen, .ref a_p0_bestRow, .ref a_p0_lanes, .ref a_p0_sizes, .ref a_p0_cells, .int i_p0_torn])), (a_p0_st, .inl (G 1, 152, .inl v_p0_st))] sz) := by
  refine Met.ofW (cc := cX12_next) (maxL := 3) (ret := (some .int)) (by decide) rfl ?_
  intro p e s m args below meth c s₁ B hml hv
  obtain ⟨rfl, hsz, hP, hK, hD0⟩ := hv
  have hx := B.exec
  have hb := B.bytes
  have hr := B.returns
  have hts := atoms_spec (ws := wsX12_next) B.pre
  have hown : s.vm.findClass RX12 = some m.cls := findClass_of_methodNamed B.named
  have hlocks := B.notSynchronized
  subst hsz
  have hD := hD0.self (sz := s.heap.size)
  generalize hAe : va_A [(a_p0, .inr (12, [.ref a_p0_st, .ref a_p0_isKept, .int i_p0_seats, .int i_p0_stirs, .ref a_p0_brings, .ref a_p0_need, .ref a_p0_draft, .int i_p0_dSeats, .int i_p0_dStirs, .ref a_p0_dStir, .ref a_p0_dNeed, .int i_p0_told, .int i_p0_highest, .ref a_p0_tape, .int i_p0_taped, .int i_p0_pos, .int i_p0_from, .int i_p0_sort, .int i_p0_value, .int i_p0_fault, .int i_p0_wrongAt, .ref a_p0_places, .ref a_p0_stirred, .ref a_p0_ways, .ref a_p0_waysThen, .ref a_p0_stays, .ref a_p0_fewest, .ref a_p0_bowls, .ref a_p0_has, .ref a_p0_goesOn, .ref a_p0_isThere, .ref a_p0_isThereThen, .ref a_p0_bestRow, .ref a_p0_lanes, .ref a_p0_sizes, .ref a_p0_cells, .int i_p0_torn])), (a_p0_st, .inl (G 1, 152, .inl v_p0_st))] s.heap.size = A at hD ⊢
  have hA : ∀ q : Nat, s.heap.size ≤ q → A q := fun q h => by rw [← hAe]; exact Or.inr h
  clear hAe hD0
  have hS : va_S A s.heap s.heap [] := va_S.rf
  have hl := lv_entry ([.ref a_p0, .int x1, .int x2]) (n := 3) (Nat.le_of_ble_eq_true rfl)
  rw [lg_entry_eq]
  generalize (lg_sl ([.ref a_p0, .int x1, .int x2]) ++ List.replicate (3 - (lg_sl ([.ref a_p0, .int x1, .int x2])).length) Slot.unset).toArray = ls at hl ⊢
  have hl : lv_has ls 3 [(0, .ref a_p0), (1, .int x1), (2, .int x2)] := hl
  refine W_nameQ (fun Q hQ => ?_)
  obtain ⟨H, hH⟩ : ∃ H, H = s.heap := ⟨_, rfl⟩
  replace hS : va_S A s.heap H [] := by rw [hH]; exact hS
  replace hP : va_P D vwCl [(a_p0, .inr (12, [.ref a_p0_st, .ref a_p0_isKept, .int i_p0_seats, .int i_p0_stirs, .ref a_p0_brings, .ref a_p0_need, .ref a_p0_draft, .int i_p0_dSeats, .int i_p0_dStirs, .ref a_p0_dStir, .ref a_p0_dNeed, .int i_p0_told, .int i_p0_highest, .ref a_p0_tape, .int i_p0_taped, .int i_p0_pos, .int i_p0_from, .int i_p0_sort, .int i_p0_value, .int i_p0_fault, .int i_p0_wrongAt, .ref a_p0_places, .ref a_p0_stirred, .ref a_p0_ways, .ref a_p0_waysThen, .ref a_p0_stays, .ref a_p0_fewest, .ref a_p0_bowls, .ref a_p0_has, .ref a_p0_goesOn, .ref a_p0_isThere, .ref a_p0_isThereThen, .ref a_p0_bestRow, .ref a_p0_lanes, .ref a_p0_sizes, .ref a_p0_cells, .int i_p0_torn])), (a_p0_st, .inl (G 1, 152, .inl v_p0_st))] H := by rw [hH]; exact hP
  rw [← hH]
  clear hH
  unfold f_X12_next at hf
  refine lv_aload_n hx hb dX12_next_0 rfl (lv_at hl 0 rfl) ?_
  refine lv_iload_n hx hb dX12_next_1 rfl (lv_at hl 1 rfl) ?_
  have hq := bd1_s hf
  clear hf
  obtain ⟨z1, hcall, hf⟩ := hq
  refine gcI (ws' := [(a_p0, .inr (12, [.ref a_p0_st, .ref a_p0_isKept, .int i_p0_seats, .int i_p0_stirs, .ref a_p0_brings, .ref a_p0_need, .ref a_p0_draft, .int i_p0_dSeats, .int i_p0_dStirs, .ref a_p0_dStir, .ref a_p0_dNeed, .int i_p0_told, .int i_p0_highest, .ref a_p0_tape, .int i_p0_taped, .int i_p0_pos, .int i_p0_from, .int i_p0_sort, .int i_p0_value, .int i_p0_fault, .int i_p0_wrongAt, .ref a_p0_places, .ref a_p0_stirred, .ref a_p0_ways, .ref a_p0_waysThen, .ref a_p0_stays, .ref a_p0_fewest, .ref a_p0_bowls, .ref a_p0_has, .ref a_p0_goesOn, .ref a_p0_isThere, .ref a_p0_isThereThen, .ref a_p0_bestRow, .ref a_p0_lanes, .ref a_p0_sizes, .ref a_p0_cells, .int i_p0_torn])), (a_p0_st, .inl (G 1, 152, .inl v_p0_st))]) (va_runV (As := [.int x1]) (rest := []) ⟨hx, hb, hml, hown, hts⟩ (c_X12_isSeat (l := l) (D := D) (G := G) (sz := H.size) (a_p0 := a_p0) (a_p0_st := a_p0_st) (a_p0_isKept := a_p0_isKept) (a_p0_brings := a_p0_brings) (a_p0_need := a_p0_need) (a_p0_draft := a_p0_draft) (a_p0_dStir := a_p0_dStir) (a_p0_dNeed := a_p0_dNeed) (a_p0_tape := a_p0_tape) (a_p0_places := a_p0_places) (a_p0_stirred := a_p0_stirred) (a_p0_ways := a_p0_ways) (a_p0_waysThen := a_p0_waysThen) (a_p0_stays := a_p0_stays) (a_p0_fewest := a_p0_fewest) (a_p0_bowls := a_p0_bowls) (a_p0_has := a_p0_has) (a_p0_goesOn := a_p0_goesOn) (a_p0_isThere := a_p0_isThere) (a_p0_isThereThen := a_p0_isThereThen) (a_p0_bestRow := a_p0_bestRow) (a_p0_lanes := a_p0_lanes) (a_p0_sizes := a_p0_sizes) (a_p0_cells := a_p0_cells) (i_p0_seats := i_p0_seats) (i_p0_stirs := i_p0_stirs) (i_p0_dSeats := i_p0_dSeats) (i_p0_dStirs := i_p0_dStirs) (i_p0_told := i_p0_told) (i_p0_highest := i_p0_highest) (i_p0_taped := i_p0_taped) (i_p0_pos := i_p0_pos) (i_p0_from := i_p0_from) (i_p0_sort := i_p0_sort) (i_p0_value := i_p0_value) (i_p0_fault := i_p0_fault) (i_p0_wrongAt := i_p0_wrongAt) (i_p0_torn := i_p0_torn) (x1 := x1) (r := z1) (hf := hcall)) (cwV 1 hts gX12_next_X12_isSeat rfl rfl rfl (by decide +kernel) ⟨Nat.le_of_ble_eq_true rfl, Nat.le_of_ble_eq_true rfl⟩) (preG_V (ci := 12) (hP.sub [0] rfl) (hD.sub [0] rfl rfl) hK rfl rfl) rfl rfl hl.1 rfl (lv_room (Nat.le_of_ble_eq_true rfl)) dX12_next_2 ⟨Nat.le_of_ble_eq_true rfl, Nat.le_of_ble_eq_true rfl⟩) hP hD hS hA [0] [1] [1, 0] rfl rfl rfl (by decide) rfl rfl rfl (fun H locs hP hD hS => ?_)
  clear hcall
  refine lv_if_eq (tgt := 32) hx hb dX12_next_5 (by decide) (fun cc => ?_) (fun cc => ?_)
  ·
    replace hf := ite_t cc hf
    clear cc
    refine lv_iconst (v := (-1 : Int32)) hx hb dX12_next_32 (by decide) ?_
    obtain rfl := ou1 hf
    rw [hQ]
    exact W.iret hx hb hr (fun t ht hW => ⟨⟨_, (), rfl, rfl, by rw [ht]; exact hP, va_K.moved hW.alike hK, hD⟩, hS.F ht⟩) hS.2.2 dX12_next_33
  ·
    replace hf := ite_f cc hf
    clear cc
    refine lv_aload_n hx hb dX12_next_8 rfl (lv_at hl 0 rfl) ?_
    refine lv_iload_n hx hb dX12_next_9 rfl (lv_at hl 2 rfl) ?_
    have hq := bd1_s hf
    clear hf
    obtain ⟨z2, hcall, hf⟩ := hq
    refine gcI (ws' := [(a_p0, .inr (12, [.ref a_p0_st, .ref a_p0_isKept, .int i_p0_seats, .int i_p0_stirs, .ref a_p0_brings, .ref a_p0_need, .ref a_p0_draft, .int i_p0_dSeats, .int i_p0_dStirs, .ref a_p0_dStir, .ref a_p0_dNeed, .int i_p0_told, .int i_p0_highest, .ref a_p0_tape, .int i_p0_taped, .int i_p0_pos, .int i_p0_from, .int i_p0_sort, .int i_p0_value, .int i_p0_fault, .int i_p0_wrongAt, .ref a_p0_places, .ref a_p0_stirred, .ref a_p0_ways, .ref a_p0_waysThen, .ref a_p0_stays, .ref a_p0_fewest, .ref a_p0_bowls, .ref a_p0_has, .ref a_p0_goesOn, .ref a_p0_isThere, .ref a_p0_isThereThen, .ref a_p0_bestRow, .ref a_p0_lanes, .ref a_p0_sizes, .ref a_p0_cells, .int i_p0_torn])), (a_p0_st, .inl (G 1, 152, .inl v_p0_st))]) (va_runV (As := [.int x2]) (rest := []) ⟨hx, hb, hml, hown, hts⟩ (c_X12_isStir (l := l) (D := D) (G := G) (sz := H.size) (a_p0 := a_p0) (a_p0_st := a_p0_st) (a_p0_isKept := a_p0_isKept) (a_p0_brings := a_p0_brings) (a_p0_need := a_p0_need) (a_p0_draft := a_p0_draft) (a_p0_dStir := a_p0_dStir) (a_p0_dNeed := a_p0_dNeed) (a_p0_tape := a_p0_tape) (a_p0_places := a_p0_places) (a_p0_stirred := a_p0_stirred) (a_p0_ways := a_p0_ways) (a_p0_waysThen := a_p0_waysThen) (a_p0_stays := a_p0_stays) (a_p0_fewest := a_p0_fewest) (a_p0_bowls := a_p0_bowls) (a_p0_has := a_p0_has) (a_p0_goesOn := a_p0_goesOn) (a_p0_isThere := a_p0_isThere) (a_p0_isThereThen := a_p0_isThereThen) (a_p0_bestRow := a_p0_bestRow) (a_p0_lanes := a_p0_lanes) (a_p0_sizes := a_p0_sizes) (a_p0_cells := a_p0_cells) (i_p0_seats := i_p0_seats) (i_p0_stirs := i_p0_stirs) (i_p0_dSeats := i_p0_dSeats) (i_p0_dStirs := i_p0_dStirs) (i_p0_told := i_p0_told) (i_p0_highest := i_p0_highest) (i_p0_taped := i_p0_taped) (i_p0_pos := i_p0_pos) (i_p0_from := i_p0_from) (i_p0_sort := i_p0_sort) (i_p0_value := i_p0_value) (i_p0_fault := i_p0_fault) (i_p0_wrongAt := i_p0_wrongAt) (i_p0_torn := i_p0_torn) (x1 := x2) (r := z2) (hf := hcall)) (cwV 1 hts gX12_next_X12_isStir rfl rfl rfl (by decide +kernel) ⟨Nat.le_of_ble_eq_true rfl, Nat.le_of_ble_eq_true rfl⟩) (preG_V (ci := 12) (hP.sub [0] rfl) (hD.sub [0] rfl rfl) hK rfl rfl) rfl rfl hl.1 rfl (lv_room (Nat.le_of_ble_eq_true rfl)) dX12_next_10 ⟨Nat.le_of_ble_eq_true rfl, Nat.le_of_ble_eq_true rfl⟩) hP hD hS hA [0] [1] [1, 0] rfl rfl rfl (by decide) rfl rfl rfl (fun H locs hP hD hS => ?_)
    clear hcall
    refine lv_if_eq (tgt := 32) hx hb dX12_next_13 (by decide) (fun cc => ?_) (fun cc => ?_)
    ·
      replace hf := ite_t cc hf
      clear cc
      refine lv_iconst (v := (-1 : Int32)) hx hb dX12_next_32 (by decide) ?_
      obtain rfl := ou1 hf
      rw [hQ]
      exact W.iret hx hb hr (fun t ht hW => ⟨⟨_, (), rfl, rfl, by rw [ht]; exact hP, va_K.moved hW.alike hK, hD⟩, hS.F ht⟩) hS.2.2 dX12_next_33
    ·
      replace hf := ite_f cc hf
      clear cc
      refine lv_aload_n hx hb dX12_next_16 rfl (lv_at hl 0 rfl) ?_
      refine lv_iload_n hx hb dX12_next_17 rfl (lv_at hl 1 rfl) ?_
      refine lv_iload_n hx hb dX12_next_18 rfl (lv_at hl 2 rfl) ?_
      refine lv_aload_n hx hb dX12_next_19 rfl (lv_at hl 0 rfl) ?_
      refine va_get (D := D) (ci := 12) (v := .ref a_p0_st) (C := RX12) (T := TX12) (N := 37) hx hb hts inX12_next_X12 hown hK hP 0 rfl rfl 0 (by decide) (hts _ mwX12_next_1) (fun _ h9 => h9) rfl dX12_next_20 ?_
      refine lv_bipush (v := (7 : Int32)) hx hb dX12_next_23 (by decide) ?_
      have hc := ck_c hf
      replace hf := ck_r hf
      refine va_iald hx hb hK hP 1 1 rfl rfl (ixB_in hc) dX12_next_25 ?_
      clear hc
      cases hf

noncomputable def f_X12_day (i_p0_stirs : Int32) (v_p0_st : (Nat → Int32)) (x1 : Int32) : Option (Int32) := (bd1 (f_X12_isStir i_p0_stirs x1) (fun (z1 : Int32) => (if z1 = 0 then (some (-1 : Int32)) else (ck (ixB (30 : Int32) 152) (if (v_p0_st ((30 : Int32)).toNatClampNeg) = (999 : Int32) then (some (-3 : Int32)) else none)))))
abbrev rm_X12_day : Room := { frames := 2, cells := 0, slots := 0, locals := 46 }
theorem inX12_day_X12 : ∀ w ∈ wsX120, w ∈ wsX12_day := by decide +kernel
theorem mwX12_day_1 : Cond.fieldLink RX12 7 "LadleKingsModel" "st" "[I" ∈ wsX12_day := by decide +kernel
set_option maxHeartbeats 8000000 in
set_option maxRecDepth 100000 in
theorem c_X12_day (l : Launch) (D : va_G) (G : Nat → ClassId) (sz : Nat) (a_p0 : Nat) (a_p0_st : Nat) (a_p0_isKept : Nat) (a_p0_brings : Nat) (a_p0_need : Nat) (a_p0_draft : Nat) (a_p0_dStir : Nat) (a_p0_dNeed : Nat) (a_p0_tape : Nat) (a_p0_places : Nat) (a_p0_stirred : Nat) (a_p0_ways : Nat) (a_p0_waysThen : Nat) (a_p0_stays : Nat) (a_p0_fewest : Nat) (a_p0_bowls : Nat) (a_p0_has : Nat) (a_p0_goesOn : Nat) (a_p0_isThere : Nat) (a_p0_isThereThen : Nat) (a_p0_bestRow : Nat) (a_p0_lanes : Nat) (a_p0_sizes : Nat) (a_p0_cells : Nat) (i_p0_seats : Int32) (i_p0_stirs : Int32) (i_p0_dSeats : Int32) (i_p0_dStirs : Int32) (i_p0_told : Int32) (i_p0_highest : Int32) (i_p0_taped : Int32) (i_p0_pos : Int32) (i_p0_from : Int32) (i_p0_sort : Int32) (i_p0_value : Int32) (i_p0_fault : Int32) (i_p0_wrongAt : Int32) (i_p0_torn : Int32) (v_p0_st : (Nat → Int32)) (x1 : Int32) (r : Int32) (hf : f_X12_day i_p0_stirs v_p0_st x1 = some r) : Met l yX12_day wsX12_day rm_X12_day (pcG D G [.ref a_p0, .int x1] sz [(a_p0, .inr (12, [.ref a_p0_st, .ref a_p0_isKept, .int i_p0_seats, .int i_p0_stirs, .ref a_p0_brings, .ref a_p0_need, .ref a_p0_draft, .int i_p0_dSeats, .int i_p0_dStirs, .ref a_p0_dStir, .ref a_p0_dNeed, .int i_p0_told, .int i_p0_highest, .ref a_p0_tape, .int i_p0_taped, .int i_p0_pos, .int i_p0_from, .int i_p0_sort, .int i_p0_value, .int i_p0_fault, .int i_p0_wrongAt, .ref a_p0_places, .ref a_p0_stirred, .ref a_p0_ways, .ref a_p0_waysThen, .ref a_p0_stays, .ref a_p0_fewest, .ref a_p0_bowls, .ref a_p0_has, .ref a_p0_goesOn, .ref a_p0_isThere, .ref a_p0_isThereThen, .ref a_p0_bestRow, .ref a_p0_lanes, .ref a_p0_sizes, .ref a_p0_cells, .int i_p0_torn])), (a_p0_st, .inl (G 1, 152, .inl v_p0_st))]) (qcI D G r [(a_p0, .inr (12, [.ref a_p0_st, .ref a_p0_isKept, .int i_p0_seats, .int i_p0_stirs, .ref a_p0_brings, .ref a_p0_need, .ref a_p0_draft, .int i_p0_dSeats, .int i_p0_dStirs, .ref a_p0_dStir, .ref a_p0_dNeed, .int i_p0_told, .int i_p0_highest, .ref a_p0_tape, .int i_p0_taped, .int i_p0_pos, .int i_p0_from, .int i_p0_sort, .int i_p0_value, .int i_p0_fault, .int i_p0_wrongAt, .ref a_p0_places, .ref a_p0_stirred, .ref a_p0_ways, .ref a_p0_waysThen, .ref a_p0_stays, .ref a_p0_fewest, .ref a_p0_bowls, .ref a_p0_has, .ref a_p0_goesOn, .ref a_p0_isThere, .ref a_p0_isThereThen, .ref a_p0_bestRow, .ref a_p0_lanes, .ref a_p0_sizes, .ref a_p0_cells, .int i_p0_torn])), (a_p0_st, .inl (G 1, 152, .inl v_p0_st))] (va_A [(a_p0, .inr (12, [.ref a_p0_st, .ref a_p0_isKept, .int i_p0_seats, .int i_p0_stirs, .ref a_p0_brings, .ref a_p0_need, .ref a_p0_draft, .int i_p0_dSeats, .int i_p0_dStirs, .ref a_p0_dStir, .ref a_p0_dNeed, .int i_p0_told, .int i_p0_highest, .ref a_p0_tape, .int i_p0_taped, .int i_p0_pos, .int i_p0_from, .int i_p0_sort, .int i_p0_value, .int i_p0_fault, .int i_p0_wrongAt, .ref a_p0_places, .ref a_p0_stirred, .ref a_p0_ways, .ref a_p0_waysThen, .ref a_p0_stays, .ref a_p0_fewest, .ref a_p0_bowls, .ref a_p0_has, .ref a_p0_goesOn, .ref a_p0_isThere, .ref a_p0_isThereThen, .ref a_p0_bestRow, .ref a_p0_lanes, .ref a_p0_sizes, .ref a_p0_cells, .int i_p0_torn])), (a_p0_st, .inl (G 1, 152, .inl v_p0_st))] sz)) 0 0 (va_A [(a_p0, .inr (12, [.ref a_p0_st, .ref a_p0_isKept, .int i_p0_seats, .int i_p0_stirs, .ref a_p0_brings, .ref a_p0_need, .ref a_p0_draft, .int i_p0_dSeats, .int i_p0_dStirs, .ref a_p0_dStir, .ref a_p0_dNeed, .int i_p0_told, .int i_p0_highest, .ref a_p0_tape, .int i_p0_taped, .int i_p0_pos, .int i_p0_from, .int i_p0_sort, .int i_p0_value, .int i_p0_fault, .int i_p0_wrongAt, .ref a_p0_places, .ref a_p0_stirred, .ref a_p0_ways, .ref a_p0_waysThen, .ref a_p0_stays, .ref a_p0_fewest, .ref a_p0_bowls, .ref a_p0_has, .ref a_p0_goesOn, .ref a_p0_isThere, .ref a_p0_isThereThen, .ref a_p0_bestRow, .ref a_p0_lanes, .ref a_p0_sizes, .ref a_p0_cells, .int i_p0_torn])), (a_p0_st, .inl (G 1, 152, .inl v_p0_st))] sz) := by
  refine Met.ofW (cc := cX12_day) (maxL := 2) (ret := (some .int)) (by decide) rfl ?_
  intro p e s m args below meth c s₁ B hml hv
  obtain ⟨rfl, hsz, hP, hK, hD0⟩ := hv
  have hx := B.exec
  have hb := B.bytes
  have hr := B.returns
  have hts := atoms_spec (ws := wsX12_day) B.pre
  have hown : s.vm.findClass RX12 = some m.cls := findClass_of_methodNamed B.named
  have hlocks := B.notSynchronized
  subst hsz
  have hD := hD0.self (sz := s.heap.size)
  generalize hAe : va_A [(a_p0, .inr (12, [.ref a_p0_st, .ref a_p0_isKept, .int i_p0_seats, .int i_p0_stirs, .ref a_p0_brings, .ref a_p0_need, .ref a_p0_draft, .int i_p0_dSeats, .int i_p0_dStirs, .ref a_p0_dStir, .ref a_p0_dNeed, .int i_p0_told, .int i_p0_highest, .ref a_p0_tape, .int i_p0_taped, .int i_p0_pos, .int i_p0_from, .int i_p0_sort, .int i_p0_value, .int i_p0_fault, .int i_p0_wrongAt, .ref a_p0_places, .ref a_p0_stirred, .ref a_p0_ways, .ref a_p0_waysThen, .ref a_p0_stays, .ref a_p0_fewest, .ref a_p0_bowls, .ref a_p0_has, .ref a_p0_goesOn, .ref a_p0_isThere, .ref a_p0_isThereThen, .ref a_p0_bestRow, .ref a_p0_lanes, .ref a_p0_sizes, .ref a_p0_cells, .int i_p0_torn])), (a_p0_st, .inl (G 1, 152, .inl v_p0_st))] s.heap.size = A at hD ⊢
  have hA : ∀ q : Nat, s.heap.size ≤ q → A q := fun q h => by rw [← hAe]; exact Or.inr h
  clear hAe hD0
  have hS : va_S A s.heap s.heap [] := va_S.rf
  have hl := lv_entry ([.ref a_p0, .int x1]) (n := 2) (Nat.le_of_ble_eq_true rfl)
  rw [lg_entry_eq]
  generalize (lg_sl ([.ref a_p0, .int x1]) ++ List.replicate (2 - (lg_sl ([.ref a_p0, .int x1])).length) Slot.unset).toArray = ls at hl ⊢
  have hl : lv_has ls 2 [(0, .ref a_p0), (1, .int x1)] := hl
  refine W_nameQ (fun Q hQ => ?_)
  obtain ⟨H, hH⟩ : ∃ H, H = s.heap := ⟨_, rfl⟩
  replace hS : va_S A s.heap H [] := by rw [hH]; exact hS
  replace hP : va_P D vwCl [(a_p0, .inr (12, [.ref a_p0_st, .ref a_p0_isKept, .int i_p0_seats, .int i_p0_stirs, .ref a_p0_brings, .ref a_p0_need, .ref a_p0_draft, .int i_p0_dSeats, .int i_p0_dStirs, .ref a_p0_dStir, .ref a_p0_dNeed, .int i_p0_told, .int i_p0_highest, .ref a_p0_tape, .int i_p0_taped, .int i_p0_pos, .int i_p0_from, .int i_p0_sort, .int i_p0_value, .int i_p0_fault, .int i_p0_wrongAt, .ref a_p0_places, .ref a_p0_stirred, .ref a_p0_ways, .ref a_p0_waysThen, .ref a_p0_stays, .ref a_p0_fewest, .ref a_p0_bowls, .ref a_p0_has, .ref a_p0_goesOn, .ref a_p0_isThere, .ref a_p0_isThereThen, .ref a_p0_bestRow, .ref a_p0_lanes, .ref a_p0_sizes, .ref a_p0_cells, .int i_p0_torn])), (a_p0_st, .inl (G 1, 152, .inl v_p0_st))] H := by rw [hH]; exact hP
  rw [← hH]
  clear hH
  unfold f_X12_day at hf
  refine lv_aload_n hx hb dX12_day_0 rfl (lv_at hl 0 rfl) ?_
  refine lv_iload_n hx hb dX12_day_1 rfl (lv_at hl 1 rfl) ?_
  have hq := bd1_s hf
  clear hf
  obtain ⟨z1, hcall, hf⟩ := hq
  refine gcI (ws' := [(a_p0, .inr (12, [.ref a_p0_st, .ref a_p0_isKept, .int i_p0_seats, .int i_p0_stirs, .ref a_p0_brings, .ref a_p0_need, .ref a_p0_draft, .int i_p0_dSeats, .int i_p0_dStirs, .ref a_p0_dStir, .ref a_p0_dNeed, .int i_p0_told, .int i_p0_highest, .ref a_p0_tape, .int i_p0_taped, .int i_p0_pos, .int i_p0_from, .int i_p0_sort, .int i_p0_value, .int i_p0_fault, .int i_p0_wrongAt, .ref a_p0_places, .ref a_p0_stirred, .ref a_p0_ways, .ref a_p0_waysThen, .ref a_p0_stays, .ref a_p0_fewest, .ref a_p0_bowls, .ref a_p0_has, .ref a_p0_goesOn, .ref a_p0_isThere, .ref a_p0_isThereThen, .ref a_p0_bestRow, .ref a_p0_lanes, .ref a_p0_sizes, .ref a_p0_cells, .int i_p0_torn])), (a_p0_st, .inl (G 1, 152, .inl v_p0_st))]) (va_runV (As := [.int x1]) (rest := []) ⟨hx, hb, hml, hown, hts⟩ (c_X12_isStir (l := l) (D := D) (G := G) (sz := H.size) (a_p0 := a_p0) (a_p0_st := a_p0_st) (a_p0_isKept := a_p0_isKept) (a_p0_brings := a_p0_brings) (a_p0_need := a_p0_need) (a_p0_draft := a_p0_draft) (a_p0_dStir := a_p0_dStir) (a_p0_dNeed := a_p0_dNeed) (a_p0_tape := a_p0_tape) (a_p0_places := a_p0_places) (a_p0_stirred := a_p0_stirred) (a_p0_ways := a_p0_ways) (a_p0_waysThen := a_p0_waysThen) (a_p0_stays := a_p0_stays) (a_p0_fewest := a_p0_fewest) (a_p0_bowls := a_p0_bowls) (a_p0_has := a_p0_has) (a_p0_goesOn := a_p0_goesOn) (a_p0_isThere := a_p0_isThere) (a_p0_isThereThen := a_p0_isThereThen) (a_p0_bestRow := a_p0_bestRow) (a_p0_lanes := a_p0_lanes) (a_p0_sizes := a_p0_sizes) (a_p0_cells := a_p0_cells) (i_p0_seats := i_p0_seats) (i_p0_stirs := i_p0_stirs) (i_p0_dSeats := i_p0_dSeats) (i_p0_dStirs := i_p0_dStirs) (i_p0_told := i_p0_told) (i_p0_highest := i_p0_highest) (i_p0_taped := i_p0_taped) (i_p0_pos := i_p0_pos) (i_p0_from := i_p0_from) (i_p0_sort := i_p0_sort) (i_p0_value := i_p0_value) (i_p0_fault := i_p0_fault) (i_p0_wrongAt := i_p0_wrongAt) (i_p0_torn := i_p0_torn) (x1 := x1) (r := z1) (hf := hcall)) (cwV 1 hts gX12_day_X12_isStir rfl rfl rfl (by decide +kernel) ⟨Nat.le_of_ble_eq_true rfl, Nat.le_of_ble_eq_true rfl⟩) (preG_V (ci := 12) (hP.sub [0] rfl) (hD.sub [0] rfl rfl) hK rfl rfl) rfl rfl hl.1 rfl (lv_room (Nat.le_of_ble_eq_true rfl)) dX12_day_2 ⟨Nat.le_of_ble_eq_true rfl, Nat.le_of_ble_eq_true rfl⟩) hP hD hS hA [0] [1] [1, 0] rfl rfl rfl (by decide) rfl rfl rfl (fun H locs hP hD hS => ?_)
  clear hcall
  refine lv_if_ne (tgt := 10) hx hb dX12_day_5 (by decide) (fun cc => ?_) (fun cc => ?_)
  ·
    replace hf := ite_f cc hf
    clear cc
    refine lv_aload_n hx hb dX12_day_10 rfl (lv_at hl 0 rfl) ?_
    refine va_get (D := D) (ci := 12) (v := .ref a_p0_st) (C := RX12) (T := TX12) (N := 37) hx hb hts inX12_day_X12 hown hK hP 0 rfl rfl 0 (by decide) (hts _ mwX12_day_1) (fun _ h9 => h9) rfl dX12_day_11 ?_
    refine lv_bipush (v := (30 : Int32)) hx hb dX12_day_14 (by decide) ?_
    have hc := ck_c hf
    replace hf := ck_r hf
    refine va_iald hx hb hK hP 1 1 rfl rfl (ixB_in hc) dX12_day_16 ?_
    clear hc
    refine lv_sipush (v := (999 : Int32)) hx hb dX12_day_17 (by decide) ?_
    refine lv_icmp_ne (tgt := 26) hx hb dX12_day_20 (by decide) (fun cc => ?_) (fun cc => ?_)
    ·
      replace hf := ite_f cc hf
      clear cc
      refine lv_aload_n hx hb dX12_day_26 rfl (lv_at hl 0 rfl) ?_
      refine lv_iload_n hx hb dX12_day_27 rfl (lv_at hl 1 rfl) ?_
      cases hf
    ·
      replace hf := ite_t cc hf
      clear cc
      refine lv_bipush (v := (-3 : Int32)) hx hb dX12_day_23 (by decide) ?_
      obtain rfl := ou1 hf
      rw [hQ]
      exact W.iret hx hb hr (fun t ht hW => ⟨⟨_, (), rfl, rfl, by rw [ht]; exact hP, va_K.moved hW.alike hK, hD⟩, hS.F ht⟩) hS.2.2 dX12_day_25
  ·
    replace hf := ite_t cc hf
    clear cc
    refine lv_iconst (v := (-1 : Int32)) hx hb dX12_day_8 (by decide) ?_
    obtain rfl := ou1 hf
    rw [hQ]
    exact W.iret hx hb hr (fun t ht hW => ⟨⟨_, (), rfl, rfl, by rw [ht]; exact hP, va_K.moved hW.alike hK, hD⟩, hS.F ht⟩) hS.2.2 dX12_day_9

noncomputable def B_X12_hungry_4 (i_p0_seats : Int32) (v_p0_need : (Nat → Int32)) (v_p0_st : (Nat → Int32)) (again4 : Int32 → Int32 → Option (Int32)) (z3 : Int32) (z4 : Int32) : Option (Int32) := (if i_p0_seats ≤ z3 then (some z4) else (ck (ixB ((23 : Int32) + z3) 152) (ck (ixB z3 7) (ck (ixB (30 : Int32) 152) (jn (fun (z6 : Int32) (z7 : Int32) => (bd1 (f_X12_flag z7) (fun (z9 : Int32) => (bnd (z6 ||| (z9 <<< (z3 &&& 31))) (fun (z10 : Int32) => (bnd (z3 + (1 : Int32)) (fun (z11 : Int32) => (again4 z11 z10)))))))) (fun (J8 : Int32 → Int32 → Option (Int32)) => (if ((v_p0_need (z3).toNatClampNeg) * (v_p0_st ((30 : Int32)).toNatClampNeg)) ≤ (v_p0_st (((23 : Int32) + z3)).toNatClampNeg) then (J8 z4 (0 : Int32)) else (J8 z4 (1 : Int32)))))))))
noncomputable def f_X12_hungry (i_p0_seats : Int32) (v_p0_st : (Nat → Int32)) (v_p0_need : (Nat → Int32)) : Option (Int32) := (bnd (0 : Int32) (fun (z1 : Int32) => (bnd (0 : Int32) (fun (z2 : Int32) => (lq2 (B_X12_hungry_4 i_p0_seats v_p0_need v_p0_st) 1000 z2 z1)))))
abbrev rm_X12_hungry : Room := { frames := 1, cells := 0, slots := 0, locals := 20 }
theorem inX12_hungry_X12 : ∀ w ∈ wsX120, w ∈ wsX12_hungry := by decide +kernel
theorem mwX12_hungry_1 : Cond.fieldLink RX12 100 "LadleKingsModel" "seats" "I" ∈ wsX12_hungry := by decide +kernel
theorem mwX12_hungry_2 : Cond.fieldLink RX12 7 "LadleKingsModel" "st" "[I" ∈ wsX12_hungry := by decide +kernel
theorem mwX12_hungry_3 : Cond.fieldLink RX12 20 "LadleKingsModel" "need" "[I" ∈ wsX12_hungry := by decide +kernel
set_option maxHeartbeats 8000000 in
set_option maxRecDepth 100000 in
theorem c_X12_hungry (l : Launch) (D : va_G) (G : Nat → ClassId) (sz : Nat) (a_p0 : Nat) (a_p0_st : Nat) (a_p0_isKept : Nat) (a_p0_brings : Nat) (a_p0_need : Nat) (a_p0_draft : Nat) (a_p0_dStir : Nat) (a_p0_dNeed : Nat) (a_p0_tape : Nat) (a_p0_places : Nat) (a_p0_stirred : Nat) (a_p0_ways : Nat) (a_p0_waysThen : Nat) (a_p0_stays : Nat) (a_p0_fewest : Nat) (a_p0_bowls : Nat) (a_p0_has : Nat) (a_p0_goesOn : Nat) (a_p0_isThere : Nat) (a_p0_isThereThen : Nat) (a_p0_bestRow : Nat) (a_p0_lanes : Nat) (a_p0_sizes : Nat) (a_p0_cells : Nat) (i_p0_seats : Int32) (i_p0_stirs : Int32) (i_p0_dSeats : Int32) (i_p0_dStirs : Int32) (i_p0_told : Int32) (i_p0_highest : Int32) (i_p0_taped : Int32) (i_p0_pos : Int32) (i_p0_from : Int32) (i_p0_sort : Int32) (i_p0_value : Int32) (i_p0_fault : Int32) (i_p0_wrongAt : Int32) (i_p0_torn : Int32) (v_p0_st : (Nat → Int32)) (v_p0_need : (Nat → Int32)) (r : Int32) (hf : f_X12_hungry i_p0_seats v_p0_st v_p0_need = some r) : Met l yX12_hungry wsX12_hungry rm_X12_hungry (pcG D G [.ref a_p0] sz [(a_p0, .inr (12, [.ref a_p0_st, .ref a_p0_isKept, .int i_p0_seats, .int i_p0_stirs, .ref a_p0_brings, .ref a_p0_need, .ref a_p0_draft, .int i_p0_dSeats, .int i_p0_dStirs, .ref a_p0_dStir, .ref a_p0_dNeed, .int i_p0_told, .int i_p0_highest, .ref a_p0_tape, .int i_p0_taped, .int i_p0_pos, .int i_p0_from, .int i_p0_sort, .int i_p0_value, .int i_p0_fault, .int i_p0_wrongAt, .ref a_p0_places, .ref a_p0_stirred, .ref a_p0_ways, .ref a_p0_waysThen, .ref a_p0_stays, .ref a_p0_fewest, .ref a_p0_bowls, .ref a_p0_has, .ref a_p0_goesOn, .ref a_p0_isThere, .ref a_p0_isThereThen, .ref a_p0_bestRow, .ref a_p0_lanes, .ref a_p0_sizes, .ref a_p0_cells, .int i_p0_torn])), (a_p0_st, .inl (G 1, 152, .inl v_p0_st)), (a_p0_need, .inl (G 1, 7, .inl v_p0_need))]) (qcI D G r [(a_p0, .inr (12, [.ref a_p0_st, .ref a_p0_isKept, .int i_p0_seats, .int i_p0_stirs, .ref a_p0_brings, .ref a_p0_need, .ref a_p0_draft, .int i_p0_dSeats, .int i_p0_dStirs, .ref a_p0_dStir, .ref a_p0_dNeed, .int i_p0_told, .int i_p0_highest, .ref a_p0_tape, .int i_p0_taped, .int i_p0_pos, .int i_p0_from, .int i_p0_sort, .int i_p0_value, .int i_p0_fault, .int i_p0_wrongAt, .ref a_p0_places, .ref a_p0_stirred, .ref a_p0_ways, .ref a_p0_waysThen, .ref a_p0_stays, .ref a_p0_fewest, .ref a_p0_bowls, .ref a_p0_has, .ref a_p0_goesOn, .ref a_p0_isThere, .ref a_p0_isThereThen, .ref a_p0_bestRow, .ref a_p0_lanes, .ref a_p0_sizes, .ref a_p0_cells, .int i_p0_torn])), (a_p0_st, .inl (G 1, 152, .inl v_p0_st)), (a_p0_need, .inl (G 1, 7, .inl v_p0_need))] (va_A [(a_p0, .inr (12, [.ref a_p0_st, .ref a_p0_isKept, .int i_p0_seats, .int i_p0_stirs, .ref a_p0_brings, .ref a_p0_need, .ref a_p0_draft, .int i_p0_dSeats, .int i_p0_dStirs, .ref a_p0_dStir, .ref a_p0_dNeed, .int i_p0_told, .int i_p0_highest, .ref a_p0_tape, .int i_p0_taped, .int i_p0_pos, .int i_p0_from, .int i_p0_sort, .int i_p0_value, .int i_p0_fault, .int i_p0_wrongAt, .ref a_p0_places, .ref a_p0_stirred, .ref a_p0_ways, .ref a_p0_waysThen, .ref a_p0_stays, .ref a_p0_fewest, .ref a_p0_bowls, .ref a_p0_has, .ref a_p0_goesOn, .ref a_p0_isThere, .ref a_p0_isThereThen, .ref a_p0_bestRow, .ref a_p0_lanes, .ref a_p0_sizes, .ref a_p0_cells, .int i_p0_torn])), (a_p0_st, .inl (G 1, 152, .inl v_p0_st)), (a_p0_need, .inl (G 1, 7, .inl v_p0_need))] sz)) 0 0 (va_A [(a_p0, .inr (12, [.ref a_p0_st, .ref a_p0_isKept, .int i_p0_seats, .int i_p0_stirs, .ref a_p0_brings, .ref a_p0_need, .ref a_p0_draft, .int i_p0_dSeats, .int i_p0_dStirs, .ref a_p0_dStir, .ref a_p0_dNeed, .int i_p0_told, .int i_p0_highest, .ref a_p0_tape, .int i_p0_taped, .int i_p0_pos, .int i_p0_from, .int i_p0_sort, .int i_p0_value, .int i_p0_fault, .int i_p0_wrongAt, .ref a_p0_places, .ref a_p0_stirred, .ref a_p0_ways, .ref a_p0_waysThen, .ref a_p0_stays, .ref a_p0_fewest, .ref a_p0_bowls, .ref a_p0_has, .ref a_p0_goesOn, .ref a_p0_isThere, .ref a_p0_isThereThen, .ref a_p0_bestRow, .ref a_p0_lanes, .ref a_p0_sizes, .ref a_p0_cells, .int i_p0_torn])), (a_p0_st, .inl (G 1, 152, .inl v_p0_st)), (a_p0_need, .inl (G 1, 7, .inl v_p0_need))] sz) := by
  refine Met.ofW (cc := cX12_hungry) (maxL := 3) (ret := (some .int)) (by decide) rfl ?_
  intro p e s m args below meth c s₁ B hml hv
  obtain ⟨rfl, hsz, hP, hK, hD0⟩ := hv
  have hx := B.exec
  have hb := B.bytes
  have hr := B.returns
  have hts := atoms_spec (ws := wsX12_hungry) B.pre
  have hown : s.vm.findClass RX12 = some m.cls := findClass_of_methodNamed B.named
  have hlocks := B.notSynchronized
  subst hsz
  have hD := hD0.self (sz := s.heap.size)
  generalize hAe : va_A [(a_p0, .inr (12, [.ref a_p0_st, .ref a_p0_isKept, .int i_p0_seats, .int i_p0_stirs, .ref a_p0_brings, .ref a_p0_need, .ref a_p0_draft, .int i_p0_dSeats, .int i_p0_dStirs, .ref a_p0_dStir, .ref a_p0_dNeed, .int i_p0_told, .int i_p0_highest, .ref a_p0_tape, .int i_p0_taped, .int i_p0_pos, .int i_p0_from, .int i_p0_sort, .int i_p0_value, .int i_p0_fault, .int i_p0_wrongAt, .ref a_p0_places, .ref a_p0_stirred, .ref a_p0_ways, .ref a_p0_waysThen, .ref a_p0_stays, .ref a_p0_fewest, .ref a_p0_bowls, .ref a_p0_has, .ref a_p0_goesOn, .ref a_p0_isThere, .ref a_p0_isThereThen, .ref a_p0_bestRow, .ref a_p0_lanes, .ref a_p0_sizes, .ref a_p0_cells, .int i_p0_torn])), (a_p0_st, .inl (G 1, 152, .inl v_p0_st)), (a_p0_need, .inl (G 1, 7, .inl v_p0_need))] s.heap.size = A at hD ⊢
  have hA : ∀ q : Nat, s.heap.size ≤ q → A q := fun q h => by rw [← hAe]; exact Or.inr h
  clear hAe hD0
  have hS : va_S A s.heap s.heap [] := va_S.rf
  have hl := lv_entry ([.ref a_p0]) (n := 3) (Nat.le_of_ble_eq_true rfl)
  rw [lg_entry_eq]
  generalize (lg_sl ([.ref a_p0]) ++ List.replicate (3 - (lg_sl ([.ref a_p0])).length) Slot.unset).toArray = ls at hl ⊢
  have hl : lv_has ls 3 [(0, .ref a_p0)] := hl
  refine W_nameQ (fun Q hQ => ?_)
  obtain ⟨H, hH⟩ : ∃ H, H = s.heap := ⟨_, rfl⟩
  replace hS : va_S A s.heap H [] := by rw [hH]; exact hS
  replace hP : va_P D vwCl [(a_p0, .inr (12, [.ref a_p0_st, .ref a_p0_isKept, .int i_p0_seats, .int i_p0_stirs, .ref a_p0_brings, .ref a_p0_need, .ref a_p0_draft, .int i_p0_dSeats, .int i_p0_dStirs, .ref a_p0_dStir, .ref a_p0_dNeed, .int i_p0_told, .int i_p0_highest, .ref a_p0_tape, .int i_p0_taped, .int i_p0_pos, .int i_p0_from, .int i_p0_sort, .int i_p0_value, .int i_p0_fault, .int i_p0_wrongAt, .ref a_p0_places, .ref a_p0_stirred, .ref a_p0_ways, .ref a_p0_waysThen, .ref a_p0_stays, .ref a_p0_fewest, .ref a_p0_bowls, .ref a_p0_has, .ref a_p0_goesOn, .ref a_p0_isThere, .ref a_p0_isThereThen, .ref a_p0_bestRow, .ref a_p0_lanes, .ref a_p0_sizes, .ref a_p0_cells, .int i_p0_torn])), (a_p0_st, .inl (G 1, 152, .inl v_p0_st)), (a_p0_need, .inl (G 1, 7, .inl v_p0_need))] H := by rw [hH]; exact hP
  rw [← hH]
  clear hH
  unfold f_X12_hungry at hf
  refine lv_iconst (v := (0 : Int32)) hx hb dX12_hungry_0 (by decide) ?_
  refine lv_topi (fun z1 ez => ?_)
  replace hf := bnd_s hf ez
  clear ez
  refine lv_istore_n (lv' := [(1, .int z1), (0, .ref a_p0)]) hx hb dX12_hungry_1 rfl hl (by decide) rfl (fun ls hl => ?_)
  refine lv_iconst (v := (0 : Int32)) hx hb dX12_hungry_2 (by decide) ?_
  refine lv_topi (fun z2 ez => ?_)
  replace hf := bnd_s hf ez
  clear ez
  refine lv_istore_n (lv' := [(2, .int z2), (1, .int z1), (0, .ref a_p0)]) hx hb dX12_hungry_3 rfl hl (by decide) rfl (fun ls hl => ?_)
  have hq := lq2_i hf
  clear hf
  obtain ⟨B5, eB5, NB5, hf⟩ := hq
  have hB5 : ∀ (n : Nat) (z3 : Int32) (z4 : Int32) (ls : Array Slot) (H : Heap) (locs : List Loc), lv_has ls 3 [(2, .int z3), (1, .int z4), (0, .ref a_p0)] → va_P D vwCl [(a_p0, .inr (12, [.ref a_p0_st, .ref a_p0_isKept, .int i_p0_seats, .int i_p0_stirs, .ref a_p0_brings, .ref a_p0_need, .ref a_p0_draft, .int i_p0_dSeats, .int i_p0_dStirs, .ref a_p0_dStir, .ref a_p0_dNeed, .int i_p0_told, .int i_p0_highest, .ref a_p0_tape, .int i_p0_taped, .int i_p0_pos, .int i_p0_from, .int i_p0_sort, .int i_p0_value, .int i_p0_fault, .int i_p0_wrongAt, .ref a_p0_places, .ref a_p0_stirred, .ref a_p0_ways, .ref a_p0_waysThen, .ref a_p0_stays, .ref a_p0_fewest, .ref a_p0_bowls, .ref a_p0_has, .ref a_p0_goesOn, .ref a_p0_isThere, .ref a_p0_isThereThen, .ref a_p0_bestRow, .ref a_p0_lanes, .ref a_p0_sizes, .ref a_p0_cells, .int i_p0_torn])), (a_p0_st, .inl (G 1, 152, .inl v_p0_st)), (a_p0_need, .inl (G 1, 7, .inl v_p0_need))] H → va_D A [(a_p0, .inr (12, [.ref a_p0_st, .ref a_p0_isKept, .int i_p0_seats, .int i_p0_stirs, .ref a_p0_brings, .ref a_p0_need, .ref a_p0_draft, .int i_p0_dSeats, .int i_p0_dStirs, .ref a_p0_dStir, .ref a_p0_dNeed, .int i_p0_told, .int i_p0_highest, .ref a_p0_tape, .int i_p0_taped, .int i_p0_pos, .int i_p0_from, .int i_p0_sort, .int i_p0_value, .int i_p0_fault, .int i_p0_wrongAt, .ref a_p0_places, .ref a_p0_stirred, .ref a_p0_ways, .ref a_p0_waysThen, .ref a_p0_stays, .ref a_p0_fewest, .ref a_p0_bowls, .ref a_p0_has, .ref a_p0_goesOn, .ref a_p0_isThere, .ref a_p0_isThereThen, .ref a_p0_bestRow, .ref a_p0_lanes, .ref a_p0_sizes, .ref a_p0_cells, .int i_p0_torn])), (a_p0_st, .inl (G 1, 152, .inl v_p0_st)), (a_p0_need, .inl (G 1, 7, .inl v_p0_need))] → va_S A s.heap H locs → lq2 B5 n z3 z4 = some r → W p l e rm_X12_hungry s m ([.ref a_p0] : List Value).toArray below meth c H locs 0 0 Q (F0 m 4 ls []) := by
    clear hf hl hP hD hS
    intro n
    induction n with
    | zero =>
      intro z3 z4 ls H locs hl hP hD hS hf
      exact (lq2_0 hf).elim
    | succ n ih4 =>
      intro z3 z4 ls H locs hl hP hD hS hf
      replace hf := lq2_s eB5 hf
      unfold B_X12_hungry_4 at hf
      refine lv_iload_n hx hb dX12_hungry_4 rfl (lv_at hl 0 rfl) ?_
      refine lv_aload_n hx hb dX12_hungry_5 rfl (lv_at hl 2 rfl) ?_
      refine va_get (D := D) (ci := 12) (v := .int i_p0_seats) (C := RX12) (T := TX12) (N := 37) hx hb hts inX12_hungry_X12 hown hK hP 0 rfl rfl 2 (by decide) (hts _ mwX12_hungry_1) (fun _ h9 => h9) rfl dX12_hungry_6 ?_
      refine lv_icmp_ge (tgt := 57) hx hb dX12_hungry_9 (by decide) (fun cc => ?_) (fun cc => ?_)
      ·
        replace hf := ite_t cc hf
        clear cc
        refine lv_iload_n hx hb dX12_hungry_57 rfl (lv_at hl 1 rfl) ?_
        obtain rfl := ou1 hf
        rw [hQ]
        exact W.iret hx hb hr (fun t ht hW => ⟨⟨_, (), rfl, rfl, by rw [ht]; exact hP, va_K.moved hW.alike hK, hD⟩, hS.F ht⟩) hS.2.2 dX12_hungry_58
      ·
        replace hf := ite_f cc hf
        clear cc
        refine lv_iload_n hx hb dX12_hungry_12 rfl (lv_at hl 1 rfl) ?_
        refine lv_aload_n hx hb dX12_hungry_13 rfl (lv_at hl 2 rfl) ?_
        refine va_get (D := D) (ci := 12) (v := .ref a_p0_st) (C := RX12) (T := TX12) (N := 37) hx hb hts inX12_hungry_X12 hown hK hP 0 rfl rfl 0 (by decide) (hts _ mwX12_hungry_2) (fun _ h9 => h9) rfl dX12_hungry_14 ?_
        refine lv_bipush (v := (23 : Int32)) hx hb dX12_hungry_17 (by decide) ?_
        refine lv_iload_n hx hb dX12_hungry_19 rfl (lv_at hl 0 rfl) ?_
        refine lv_iadd hx hb dX12_hungry_20 ?_
        have hc := ck_c hf
        replace hf := ck_r hf
        refine va_iald hx hb hK hP 1 1 rfl rfl (ixB_in hc) dX12_hungry_21 ?_
        clear hc
        refine lv_aload_n hx hb dX12_hungry_22 rfl (lv_at hl 2 rfl) ?_
        refine va_get (D := D) (ci := 12) (v := .ref a_p0_need) (C := RX12) (T := TX12) (N := 37) hx hb hts inX12_hungry_X12 hown hK hP 0 rfl rfl 5 (by decide) (hts _ mwX12_hungry_3) (fun _ h9 => h9) rfl dX12_hungry_23 ?_
        refine lv_iload_n hx hb dX12_hungry_26 rfl (lv_at hl 0 rfl) ?_
        have hc := ck_c hf
        replace hf := ck_r hf
        refine va_iald hx hb hK hP 2 1 rfl rfl (ixB_in hc) dX12_hungry_27 ?_
        clear hc
        refine lv_aload_n hx hb dX12_hungry_28 rfl (lv_at hl 2 rfl) ?_
        refine va_get (D := D) (ci := 12) (v := .ref a_p0_st) (C := RX12) (T := TX12) (N := 37) hx hb hts inX12_hungry_X12 hown hK hP 0 rfl rfl 0 (by decide) (hts _ mwX12_hungry_2) (fun _ h9 => h9) rfl dX12_hungry_29 ?_
        refine lv_bipush (v := (30 : Int32)) hx hb dX12_hungry_32 (by decide) ?_
        have hc := ck_c hf
        replace hf := ck_r hf
        refine va_iald hx hb hK hP 1 1 rfl rfl (ixB_in hc) dX12_hungry_34 ?_
        clear hc
        refine lv_imul hx hb dX12_hungry_35 ?_
        have hq := jn_i hf
        clear hf
        obtain ⟨J8, eJ8, hf⟩ := hq
        have hJ8 : ∀ (z6 : Int32) (z7 : Int32) (ls : Array Slot) (H : Heap) (locs : List Loc), lv_has ls 3 [(2, .int z3), (0, .ref a_p0)] → va_P D vwCl [(a_p0, .inr (12, [.ref a_p0_st, .ref a_p0_isKept, .int i_p0_seats, .int i_p0_stirs, .ref a_p0_brings, .ref a_p0_need, .ref a_p0_draft, .int i_p0_dSeats, .int i_p0_dStirs, .ref a_p0_dStir, .ref a_p0_dNeed, .int i_p0_told, .int i_p0_highest, .ref a_p0_tape, .int i_p0_taped, .int i_p0_pos, .int i_p0_from, .int i_p0_sort, .int i_p0_value, .int i_p0_fault, .int i_p0_wrongAt, .ref a_p0_places, .ref a_p0_stirred, .ref a_p0_ways, .ref a_p0_waysThen, .ref a_p0_stays, .ref a_p0_fewest, .ref a_p0_bowls, .ref a_p0_has, .ref a_p0_goesOn, .ref a_p0_isThere, .ref a_p0_isThereThen, .ref a_p0_bestRow, .ref a_p0_lanes, .ref a_p0_sizes, .ref a_p0_cells, .int i_p0_torn])), (a_p0_st, .inl (G 1, 152, .inl v_p0_st)), (a_p0_need, .inl (G 1, 7, .inl v_p0_need))] H → va_D A [(a_p0, .inr (12, [.ref a_p0_st, .ref a_p0_isKept, .int i_p0_seats, .int i_p0_stirs, .ref a_p0_brings, .ref a_p0_need, .ref a_p0_draft, .int i_p0_dSeats, .int i_p0_dStirs, .ref a_p0_dStir, .ref a_p0_dNeed, .int i_p0_told, .int i_p0_highest, .ref a_p0_tape, .int i_p0_taped, .int i_p0_pos, .int i_p0_from, .int i_p0_sort, .int i_p0_value, .int i_p0_fault, .int i_p0_wrongAt, .ref a_p0_places, .ref a_p0_stirred, .ref a_p0_ways, .ref a_p0_waysThen, .ref a_p0_stays, .ref a_p0_fewest, .ref a_p0_bowls, .ref a_p0_has, .ref a_p0_goesOn, .ref a_p0_isThere, .ref a_p0_isThereThen, .ref a_p0_bestRow, .ref a_p0_lanes, .ref a_p0_sizes, .ref a_p0_cells, .int i_p0_torn])), (a_p0_st, .inl (G 1, 152, .inl v_p0_st)), (a_p0_need, .inl (G 1, 7, .inl v_p0_need))] → va_S A s.heap H locs → J8 z6 z7 = some r → W p l e rm_X12_hungry s m ([.ref a_p0] : List Value).toArray below meth c H locs 0 0 Q (F0 m 44 ls [.int z7, .int z6]) := by
          clear hf hl hP hD hS
          intro z6 z7 ls H locs hl hP hD hS hf
          replace hf := jn2_s eJ8 hf
          have hq := bd1_s hf
          clear hf
          obtain ⟨z9, hcall, hf⟩ := hq
          refine gcI (ws' := [(a_p0, .inr (12, [.ref a_p0_st, .ref a_p0_isKept, .int i_p0_seats, .int i_p0_stirs, .ref a_p0_brings, .ref a_p0_need, .ref a_p0_draft, .int i_p0_dSeats, .int i_p0_dStirs, .ref a_p0_dStir, .ref a_p0_dNeed, .int i_p0_told, .int i_p0_highest, .ref a_p0_tape, .int i_p0_taped, .int i_p0_pos, .int i_p0_from, .int i_p0_sort, .int i_p0_value, .int i_p0_fault, .int i_p0_wrongAt, .ref a_p0_places, .ref a_p0_stirred, .ref a_p0_ways, .ref a_p0_waysThen, .ref a_p0_stays, .ref a_p0_fewest, .ref a_p0_bowls, .ref a_p0_has, .ref a_p0_goesOn, .ref a_p0_isThere, .ref a_p0_isThereThen, .ref a_p0_bestRow, .ref a_p0_lanes, .ref a_p0_sizes, .ref a_p0_cells, .int i_p0_torn])), (a_p0_st, .inl (G 1, 152, .inl v_p0_st)), (a_p0_need, .inl (G 1, 7, .inl v_p0_need))]) (va_runS (As := [.int z7]) (rest := [.int z6]) ⟨hx, hb, hml, hown, hts⟩ (c_X12_flag (l := l) (D := D) (G := G) (sz := H.size) (x0 := z7) (r := z9) (hf := hcall)) (va_cwS 1 hts gX12_hungry_X12_flag rfl rfl rfl (by decide +kernel) ⟨Nat.le_of_ble_eq_true rfl, Nat.le_of_ble_eq_true rfl⟩) (preG_S (hP.sub [] rfl) (hD.sub [] rfl rfl) hK) rfl rfl hl.1 rfl (lv_room (Nat.le_of_ble_eq_true rfl)) dX12_hungry_44 ⟨Nat.le_of_ble_eq_true rfl, Nat.le_of_ble_eq_true rfl⟩) hP hD hS hA [] [0, 1, 2] [0, 1, 2] rfl rfl rfl (by decide) rfl rfl rfl (fun H locs hP hD hS => ?_)
          clear hcall
          refine lv_iload_n hx hb dX12_hungry_47 rfl (lv_at hl 0 rfl) ?_
          refine lv_ishl hx hb dX12_hungry_48 ?_
          refine lv_ior hx hb dX12_hungry_49 ?_
          refine lv_topi (fun z10 ez => ?_)
          replace hf := bnd_s hf ez
          clear ez
          refine lv_istore_n (lv' := [(1, .int z10), (2, .int z3), (0, .ref a_p0)]) hx hb dX12_hungry_50 rfl hl (by decide) rfl (fun ls hl => ?_)
          obtain ⟨z11, ez⟩ : ∃ y : Int32, y = (z3 + (1 : Int32)) := ⟨_, rfl⟩
          replace hf := bnd_s hf ez
          refine lv_iinc (v := z11) (lv' := [(2, .int z11), (1, .int z10), (0, .ref a_p0)]) hx hb dX12_hungry_51 hl (k := 1) rfl (by rw [ez]; rfl) (by decide) rfl (fun ls hl => ?_)
          clear ez
          refine lv_goto (tgt := 4) hx hb dX12_hungry_54 (by decide) ?_
          exact ih4 _ _ _ _ _ (lv_sub hl [0, 1, 2] rfl) hP hD hS hf
        refine lv_icmp_ge (tgt := 43) hx hb dX12_hungry_36 (by decide) (fun cc => ?_) (fun cc => ?_)
        ·
          replace hf := ite_t cc hf
          clear cc
          refine lv_iconst (v := (0 : Int32)) hx hb dX12_hungry_43 (by decide) ?_
          exact hJ8 _ _ _ _ _ (lv_sub hl [0, 2] rfl) hP hD hS hf
        ·
          replace hf := ite_f cc hf
          clear cc
          refine lv_iconst (v := (1 : Int32)) hx hb dX12_hungry_39 (by decide) ?_
          refine lv_goto (tgt := 44) hx hb dX12_hungry_40 (by decide) ?_
          exact hJ8 _ _ _ _ _ (lv_sub hl [0, 2] rfl) hP hD hS hf
  exact hB5 _ _ _ _ _ _ (lv_sub hl [0, 1, 2] rfl) hP hD hS hf
