noncomputable def B_X12_blind_43 (x2 : Int32) (J8 : Int64 → Option (Int64)) (x1 : Int32) (i_p0_seats : Int32) (again43 : Int32 → Int64 → Int64 → Option (Int64)) (z11 : Int32) (z12 : Int64) (z13 : Int64) : Option (Int64) := (if x2 < z11 then (J8 z13) else (jn (fun (z15 : Int64) (z16 : Int64) => (bnd (z15 + z16) (fun (z18 : Int64) => (ck (nzL ((z11 + (1 : Int32))).toInt64) (bnd ((z12 * ((x2 - z11)).toInt64) / ((z11 + (1 : Int32))).toInt64) (fun (z19 : Int64) => (bnd (z11 + (1 : Int32)) (fun (z20 : Int32) => (again43 z20 z19 z18))))))))) (fun (J17 : Int64 → Int64 → Option (Int64)) => (if z11 < x1 then (J17 z13 (0 : Int64)) else (bd1 (f_X12_power ((i_p0_seats).toInt64 - (1 : Int64)) (x2 - z11)) (fun (z21 : Int64) => (J17 z13 (z12 * z21))))))))
noncomputable def f_X12_blind (i_p0_seats : Int32) (x1 : Int32) (x2 : Int32) (x3 : Int32) : Option (Int64) := (bd1 (f_X12_in (x2).toInt64 (1 : Int64) (12 : Int64)) (fun (z1 : Int32) => (if z1 = 0 then (some (-1 : Int64)) else (bd1 (f_X12_in (x1).toInt64 (0 : Int64) (x2).toInt64) (fun (z2 : Int32) => (if z2 = 0 then (some (-1 : Int64)) else (bd1 (f_X12_isTold x3) (fun (z3 : Int32) => (if z3 = 0 then (some (-1 : Int64)) else (bnd (0 : Int64) (fun (z4 : Int64) => (bnd (1 : Int64) (fun (z5 : Int64) => (bnd (0 : Int32) (fun (z6 : Int32) => (jn (fun (z7 : Int64) => (bd1 (f_X12_power (i_p0_seats).toInt64 x2) (fun (z9 : Int64) => (bd1 (f_X12_lowest z7 z9 x3) (fun (z10 : Int64) => (some z10)))))) (fun (J8 : Int64 → Option (Int64)) => (lq3 (B_X12_blind_43 x2 J8 x1 i_p0_seats) 1000 z6 z5 z4))))))))))))))))))
abbrev rm_X12_blind : Room := { frames := 2, cells := 0, slots := 0, locals := 55 }
theorem mwX12_blind_0 : Cond.constantLong RX12 296 (12) ∈ wsX12_blind := by decide +kernel
theorem mwX12_blind_1 : Cond.constantLong RX12 241 (-1) ∈ wsX12_blind := by decide +kernel
theorem inX12_blind_X12 : ∀ w ∈ wsX120, w ∈ wsX12_blind := by decide +kernel
theorem mwX12_blind_3 : Cond.fieldLink RX12 100 "LadleKingsModel" "seats" "I" ∈ wsX12_blind := by decide +kernel
set_option maxHeartbeats 8000000 in
set_option maxRecDepth 100000 in
theorem c_X12_blind (l : Launch) (D : va_G) (G : Nat → ClassId) (sz : Nat) (a_p0 : Nat) (a_p0_st : Nat) (a_p0_isKept : Nat) (a_p0_brings : Nat) (a_p0_need : Nat) (a_p0_draft : Nat) (a_p0_dStir : Nat) (a_p0_dNeed : Nat) (a_p0_tape : Nat) (a_p0_places : Nat) (a_p0_stirred : Nat) (a_p0_ways : Nat) (a_p0_waysThen : Nat) (a_p0_stays : Nat) (a_p0_fewest : Nat) (a_p0_bowls : Nat) (a_p0_has : Nat) (a_p0_goesOn : Nat) (a_p0_isThere : Nat) (a_p0_isThereThen : Nat) (a_p0_bestRow : Nat) (a_p0_lanes : Nat) (a_p0_sizes : Nat) (a_p0_cells : Nat) (i_p0_seats : Int32) (i_p0_stirs : Int32) (i_p0_dSeats : Int32) (i_p0_dStirs : Int32) (i_p0_told : Int32) (i_p0_highest : Int32) (i_p0_taped : Int32) (i_p0_pos : Int32) (i_p0_from : Int32) (i_p0_sort : Int32) (i_p0_value : Int32) (i_p0_fault : Int32) (i_p0_wrongAt : Int32) (i_p0_torn : Int32) (x1 : Int32) (x2 : Int32) (x3 : Int32) (r : Int64) (hf : f_X12_blind i_p0_seats x1 x2 x3 = some r) : Met l yX12_blind wsX12_blind rm_X12_blind (pcG D G [.ref a_p0, .int x1, .int x2, .int x3] sz [(a_p0, .inr (12, [.ref a_p0_st, .ref a_p0_isKept, .int i_p0_seats, .int i_p0_stirs, .ref a_p0_brings, .ref a_p0_need, .ref a_p0_draft, .int i_p0_dSeats, .int i_p0_dStirs, .ref a_p0_dStir, .ref a_p0_dNeed, .int i_p0_told, .int i_p0_highest, .ref a_p0_tape, .int i_p0_taped, .int i_p0_pos, .int i_p0_from, .int i_p0_sort, .int i_p0_value, .int i_p0_fault, .int i_p0_wrongAt, .ref a_p0_places, .ref a_p0_stirred, .ref a_p0_ways, .ref a_p0_waysThen, .ref a_p0_stays, .ref a_p0_fewest, .ref a_p0_bowls, .ref a_p0_has, .ref a_p0_goesOn, .ref a_p0_isThere, .ref a_p0_isThereThen, .ref a_p0_bestRow, .ref a_p0_lanes, .ref a_p0_sizes, .ref a_p0_cells, .int i_p0_torn]))]) (qcL D G r [(a_p0, .inr (12, [.ref a_p0_st, .ref a_p0_isKept, .int i_p0_seats, .int i_p0_stirs, .ref a_p0_brings, .ref a_p0_need, .ref a_p0_draft, .int i_p0_dSeats, .int i_p0_dStirs, .ref a_p0_dStir, .ref a_p0_dNeed, .int i_p0_told, .int i_p0_highest, .ref a_p0_tape, .int i_p0_taped, .int i_p0_pos, .int i_p0_from, .int i_p0_sort, .int i_p0_value, .int i_p0_fault, .int i_p0_wrongAt, .ref a_p0_places, .ref a_p0_stirred, .ref a_p0_ways, .ref a_p0_waysThen, .ref a_p0_stays, .ref a_p0_fewest, .ref a_p0_bowls, .ref a_p0_has, .ref a_p0_goesOn, .ref a_p0_isThere, .ref a_p0_isThereThen, .ref a_p0_bestRow, .ref a_p0_lanes, .ref a_p0_sizes, .ref a_p0_cells, .int i_p0_torn]))] (va_A [(a_p0, .inr (12, [.ref a_p0_st, .ref a_p0_isKept, .int i_p0_seats, .int i_p0_stirs, .ref a_p0_brings, .ref a_p0_need, .ref a_p0_draft, .int i_p0_dSeats, .int i_p0_dStirs, .ref a_p0_dStir, .ref a_p0_dNeed, .int i_p0_told, .int i_p0_highest, .ref a_p0_tape, .int i_p0_taped, .int i_p0_pos, .int i_p0_from, .int i_p0_sort, .int i_p0_value, .int i_p0_fault, .int i_p0_wrongAt, .ref a_p0_places, .ref a_p0_stirred, .ref a_p0_ways, .ref a_p0_waysThen, .ref a_p0_stays, .ref a_p0_fewest, .ref a_p0_bowls, .ref a_p0_has, .ref a_p0_goesOn, .ref a_p0_isThere, .ref a_p0_isThereThen, .ref a_p0_bestRow, .ref a_p0_lanes, .ref a_p0_sizes, .ref a_p0_cells, .int i_p0_torn]))] sz)) 0 0 (va_A [(a_p0, .inr (12, [.ref a_p0_st, .ref a_p0_isKept, .int i_p0_seats, .int i_p0_stirs, .ref a_p0_brings, .ref a_p0_need, .ref a_p0_draft, .int i_p0_dSeats, .int i_p0_dStirs, .ref a_p0_dStir, .ref a_p0_dNeed, .int i_p0_told, .int i_p0_highest, .ref a_p0_tape, .int i_p0_taped, .int i_p0_pos, .int i_p0_from, .int i_p0_sort, .int i_p0_value, .int i_p0_fault, .int i_p0_wrongAt, .ref a_p0_places, .ref a_p0_stirred, .ref a_p0_ways, .ref a_p0_waysThen, .ref a_p0_stays, .ref a_p0_fewest, .ref a_p0_bowls, .ref a_p0_has, .ref a_p0_goesOn, .ref a_p0_isThere, .ref a_p0_isThereThen, .ref a_p0_bestRow, .ref a_p0_lanes, .ref a_p0_sizes, .ref a_p0_cells, .int i_p0_torn]))] sz) := by
  refine Met.ofW (cc := cX12_blind) (maxL := 9) (ret := (some .long)) (by decide) rfl ?_
  intro p e s m args below meth c s₁ B hml hv
  obtain ⟨rfl, hsz, hP, hK, hD0⟩ := hv
  have hx := B.exec
  have hb := B.bytes
  have hr := B.returns
  have hts := atoms_spec (ws := wsX12_blind) B.pre
  have hown : s.vm.findClass RX12 = some m.cls := findClass_of_methodNamed B.named
  have hlocks := B.notSynchronized
  subst hsz
  have hD := hD0.self (sz := s.heap.size)
  generalize hAe : va_A [(a_p0, .inr (12, [.ref a_p0_st, .ref a_p0_isKept, .int i_p0_seats, .int i_p0_stirs, .ref a_p0_brings, .ref a_p0_need, .ref a_p0_draft, .int i_p0_dSeats, .int i_p0_dStirs, .ref a_p0_dStir, .ref a_p0_dNeed, .int i_p0_told, .int i_p0_highest, .ref a_p0_tape, .int i_p0_taped, .int i_p0_pos, .int i_p0_from, .int i_p0_sort, .int i_p0_value, .int i_p0_fault, .int i_p0_wrongAt, .ref a_p0_places, .ref a_p0_stirred, .ref a_p0_ways, .ref a_p0_waysThen, .ref a_p0_stays, .ref a_p0_fewest, .ref a_p0_bowls, .ref a_p0_has, .ref a_p0_goesOn, .ref a_p0_isThere, .ref a_p0_isThereThen, .ref a_p0_bestRow, .ref a_p0_lanes, .ref a_p0_sizes, .ref a_p0_cells, .int i_p0_torn]))] s.heap.size = A at hD ⊢
  have hA : ∀ q : Nat, s.heap.size ≤ q → A q := fun q h => by rw [← hAe]; exact Or.inr h
  clear hAe hD0
  have hS : va_S A s.heap s.heap [] := va_S.rf
  have hl := lv_entry ([.ref a_p0, .int x1, .int x2, .int x3]) (n := 9) (Nat.le_of_ble_eq_true rfl)
  rw [lg_entry_eq]
  generalize (lg_sl ([.ref a_p0, .int x1, .int x2, .int x3]) ++ List.replicate (9 - (lg_sl ([.ref a_p0, .int x1, .int x2, .int x3])).length) Slot.unset).toArray = ls at hl ⊢
  have hl : lv_has ls 9 [(0, .ref a_p0), (1, .int x1), (2, .int x2), (3, .int x3)] := hl
  refine W_nameQ (fun Q hQ => ?_)
  obtain ⟨H, hH⟩ : ∃ H, H = s.heap := ⟨_, rfl⟩
  replace hS : va_S A s.heap H [] := by rw [hH]; exact hS
  replace hP : va_P D vwCl [(a_p0, .inr (12, [.ref a_p0_st, .ref a_p0_isKept, .int i_p0_seats, .int i_p0_stirs, .ref a_p0_brings, .ref a_p0_need, .ref a_p0_draft, .int i_p0_dSeats, .int i_p0_dStirs, .ref a_p0_dStir, .ref a_p0_dNeed, .int i_p0_told, .int i_p0_highest, .ref a_p0_tape, .int i_p0_taped, .int i_p0_pos, .int i_p0_from, .int i_p0_sort, .int i_p0_value, .int i_p0_fault, .int i_p0_wrongAt, .ref a_p0_places, .ref a_p0_stirred, .ref a_p0_ways, .ref a_p0_waysThen, .ref a_p0_stays, .ref a_p0_fewest, .ref a_p0_bowls, .ref a_p0_has, .ref a_p0_goesOn, .ref a_p0_isThere, .ref a_p0_isThereThen, .ref a_p0_bestRow, .ref a_p0_lanes, .ref a_p0_sizes, .ref a_p0_cells, .int i_p0_torn]))] H := by rw [hH]; exact hP
  rw [← hH]
  clear hH
  unfold f_X12_blind at hf
  refine lv_iload_n hx hb dX12_blind_0 rfl (lv_at hl 2 rfl) ?_
  refine lv_i2l hx hb dX12_blind_1 rfl ?_
  refine lv_lconst (v := (1 : Int64)) hx hb dX12_blind_2 (by decide) ?_
  refine lv_ldc2 (v := (12 : Int64)) hx hb hown (hts _ mwX12_blind_0) dX12_blind_3 ?_
  have hq := bd1_s hf
  clear hf
  obtain ⟨z1, hcall, hf⟩ := hq
  refine gcI (ws' := [(a_p0, .inr (12, [.ref a_p0_st, .ref a_p0_isKept, .int i_p0_seats, .int i_p0_stirs, .ref a_p0_brings, .ref a_p0_need, .ref a_p0_draft, .int i_p0_dSeats, .int i_p0_dStirs, .ref a_p0_dStir, .ref a_p0_dNeed, .int i_p0_told, .int i_p0_highest, .ref a_p0_tape, .int i_p0_taped, .int i_p0_pos, .int i_p0_from, .int i_p0_sort, .int i_p0_value, .int i_p0_fault, .int i_p0_wrongAt, .ref a_p0_places, .ref a_p0_stirred, .ref a_p0_ways, .ref a_p0_waysThen, .ref a_p0_stays, .ref a_p0_fewest, .ref a_p0_bowls, .ref a_p0_has, .ref a_p0_goesOn, .ref a_p0_isThere, .ref a_p0_isThereThen, .ref a_p0_bestRow, .ref a_p0_lanes, .ref a_p0_sizes, .ref a_p0_cells, .int i_p0_torn]))]) (va_runS (As := [.long (x2).toInt64, .long (1 : Int64), .long (12 : Int64)]) (rest := []) ⟨hx, hb, hml, hown, hts⟩ (c_X12_in (l := l) (D := D) (G := G) (sz := H.size) (x0 := (x2).toInt64) (x2 := (1 : Int64)) (x4 := (12 : Int64)) (r := z1) (hf := hcall)) (va_cwS 3 hts gX12_blind_X12_in rfl rfl rfl (by decide +kernel) ⟨Nat.le_of_ble_eq_true rfl, Nat.le_of_ble_eq_true rfl⟩) (preG_S (hP.sub [] rfl) (hD.sub [] rfl rfl) hK) rfl rfl hl.1 rfl (lv_room (Nat.le_of_ble_eq_true rfl)) dX12_blind_6 ⟨Nat.le_of_ble_eq_true rfl, Nat.le_of_ble_eq_true rfl⟩) hP hD hS hA [] [0] [0] rfl rfl rfl (by decide) rfl rfl rfl (fun H locs hP hD hS => ?_)
  clear hcall
  refine lv_if_eq (tgt := 30) hx hb dX12_blind_9 (by decide) (fun cc => ?_) (fun cc => ?_)
  ·
    replace hf := ite_t cc hf
    clear cc
    refine lv_ldc2 (v := (-1 : Int64)) hx hb hown (hts _ mwX12_blind_1) dX12_blind_30 ?_
    obtain rfl := ou1 hf
    rw [hQ]
    exact W.lret hx hb hr (fun t ht hW => ⟨⟨_, (), rfl, rfl, by rw [ht]; exact hP, va_K.moved hW.alike hK, hD⟩, hS.F ht⟩) hS.2.2 dX12_blind_33
  ·
    replace hf := ite_f cc hf
    clear cc
    refine lv_iload_n hx hb dX12_blind_12 rfl (lv_at hl 1 rfl) ?_
    refine lv_i2l hx hb dX12_blind_13 rfl ?_
    refine lv_lconst (v := (0 : Int64)) hx hb dX12_blind_14 (by decide) ?_
    refine lv_iload_n hx hb dX12_blind_15 rfl (lv_at hl 2 rfl) ?_
    refine lv_i2l hx hb dX12_blind_16 rfl ?_
    have hq := bd1_s hf
    clear hf
    obtain ⟨z2, hcall, hf⟩ := hq
    refine gcI (ws' := [(a_p0, .inr (12, [.ref a_p0_st, .ref a_p0_isKept, .int i_p0_seats, .int i_p0_stirs, .ref a_p0_brings, .ref a_p0_need, .ref a_p0_draft, .int i_p0_dSeats, .int i_p0_dStirs, .ref a_p0_dStir, .ref a_p0_dNeed, .int i_p0_told, .int i_p0_highest, .ref a_p0_tape, .int i_p0_taped, .int i_p0_pos, .int i_p0_from, .int i_p0_sort, .int i_p0_value, .int i_p0_fault, .int i_p0_wrongAt, .ref a_p0_places, .ref a_p0_stirred, .ref a_p0_ways, .ref a_p0_waysThen, .ref a_p0_stays, .ref a_p0_fewest, .ref a_p0_bowls, .ref a_p0_has, .ref a_p0_goesOn, .ref a_p0_isThere, .ref a_p0_isThereThen, .ref a_p0_bestRow, .ref a_p0_lanes, .ref a_p0_sizes, .ref a_p0_cells, .int i_p0_torn]))]) (va_runS (As := [.long (x1).toInt64, .long (0 : Int64), .long (x2).toInt64]) (rest := []) ⟨hx, hb, hml, hown, hts⟩ (c_X12_in (l := l) (D := D) (G := G) (sz := H.size) (x0 := (x1).toInt64) (x2 := (0 : Int64)) (x4 := (x2).toInt64) (r := z2) (hf := hcall)) (va_cwS 3 hts gX12_blind_X12_in rfl rfl rfl (by decide +kernel) ⟨Nat.le_of_ble_eq_true rfl, Nat.le_of_ble_eq_true rfl⟩) (preG_S (hP.sub [] rfl) (hD.sub [] rfl rfl) hK) rfl rfl hl.1 rfl (lv_room (Nat.le_of_ble_eq_true rfl)) dX12_blind_17 ⟨Nat.le_of_ble_eq_true rfl, Nat.le_of_ble_eq_true rfl⟩) hP hD hS hA [] [0] [0] rfl rfl rfl (by decide) rfl rfl rfl (fun H locs hP hD hS => ?_)
    clear hcall
    refine lv_if_eq (tgt := 30) hx hb dX12_blind_20 (by decide) (fun cc => ?_) (fun cc => ?_)
    ·
      replace hf := ite_t cc hf
      clear cc
      refine lv_ldc2 (v := (-1 : Int64)) hx hb hown (hts _ mwX12_blind_1) dX12_blind_30 ?_
      obtain rfl := ou1 hf
      rw [hQ]
      exact W.lret hx hb hr (fun t ht hW => ⟨⟨_, (), rfl, rfl, by rw [ht]; exact hP, va_K.moved hW.alike hK, hD⟩, hS.F ht⟩) hS.2.2 dX12_blind_33
    ·
      replace hf := ite_f cc hf
      clear cc
      refine lv_iload_n hx hb dX12_blind_23 rfl (lv_at hl 3 rfl) ?_
      have hq := bd1_s hf
      clear hf
      obtain ⟨z3, hcall, hf⟩ := hq
      refine gcI (ws' := [(a_p0, .inr (12, [.ref a_p0_st, .ref a_p0_isKept, .int i_p0_seats, .int i_p0_stirs, .ref a_p0_brings, .ref a_p0_need, .ref a_p0_draft, .int i_p0_dSeats, .int i_p0_dStirs, .ref a_p0_dStir, .ref a_p0_dNeed, .int i_p0_told, .int i_p0_highest, .ref a_p0_tape, .int i_p0_taped, .int i_p0_pos, .int i_p0_from, .int i_p0_sort, .int i_p0_value, .int i_p0_fault, .int i_p0_wrongAt, .ref a_p0_places, .ref a_p0_stirred, .ref a_p0_ways, .ref a_p0_waysThen, .ref a_p0_stays, .ref a_p0_fewest, .ref a_p0_bowls, .ref a_p0_has, .ref a_p0_goesOn, .ref a_p0_isThere, .ref a_p0_isThereThen, .ref a_p0_bestRow, .ref a_p0_lanes, .ref a_p0_sizes, .ref a_p0_cells, .int i_p0_torn]))]) (va_runS (As := [.int x3]) (rest := []) ⟨hx, hb, hml, hown, hts⟩ (c_X12_isTold (l := l) (D := D) (G := G) (sz := H.size) (x0 := x3) (r := z3) (hf := hcall)) (va_cwS 1 hts gX12_blind_X12_isTold rfl rfl rfl (by decide +kernel) ⟨Nat.le_of_ble_eq_true rfl, Nat.le_of_ble_eq_true rfl⟩) (preG_S (hP.sub [] rfl) (hD.sub [] rfl rfl) hK) rfl rfl hl.1 rfl (lv_room (Nat.le_of_ble_eq_true rfl)) dX12_blind_24 ⟨Nat.le_of_ble_eq_true rfl, Nat.le_of_ble_eq_true rfl⟩) hP hD hS hA [] [0] [0] rfl rfl rfl (by decide) rfl rfl rfl (fun H locs hP hD hS => ?_)
      clear hcall
      refine lv_if_ne (tgt := 34) hx hb dX12_blind_27 (by decide) (fun cc => ?_) (fun cc => ?_)
      ·
        replace hf := ite_f cc hf
        clear cc
        refine lv_lconst (v := (0 : Int64)) hx hb dX12_blind_34 (by decide) ?_
        refine lv_topl (fun z4 ez => ?_)
        replace hf := bnd_s hf ez
        clear ez
        refine lv_lstore (lv' := [(4, .long z4), (0, .ref a_p0), (1, .int x1), (2, .int x2), (3, .int x3)]) hx hb dX12_blind_35 hl (by decide) rfl (fun ls hl => ?_)
        refine lv_lconst (v := (1 : Int64)) hx hb dX12_blind_37 (by decide) ?_
        refine lv_topl (fun z5 ez => ?_)
        replace hf := bnd_s hf ez
        clear ez
        refine lv_lstore (lv' := [(6, .long z5), (4, .long z4), (0, .ref a_p0), (1, .int x1), (2, .int x2), (3, .int x3)]) hx hb dX12_blind_38 hl (by decide) rfl (fun ls hl => ?_)
        refine lv_iconst (v := (0 : Int32)) hx hb dX12_blind_40 (by decide) ?_
        refine lv_topi (fun z6 ez => ?_)
        replace hf := bnd_s hf ez
        clear ez
        refine lv_istore (lv' := [(8, .int z6), (6, .long z5), (4, .long z4), (0, .ref a_p0), (1, .int x1), (2, .int x2), (3, .int x3)]) hx hb dX12_blind_41 hl (by decide) rfl (fun ls hl => ?_)
        have hq := jn_i hf
        clear hf
        obtain ⟨J8, eJ8, hf⟩ := hq
        have hJ8 : ∀ (z7 : Int64) (ls : Array Slot) (H : Heap) (locs : List Loc), lv_has ls 9 [(4, .long z7), (0, .ref a_p0), (2, .int x2), (3, .int x3)] → va_P D vwCl [(a_p0, .inr (12, [.ref a_p0_st, .ref a_p0_isKept, .int i_p0_seats, .int i_p0_stirs, .ref a_p0_brings, .ref a_p0_need, .ref a_p0_draft, .int i_p0_dSeats, .int i_p0_dStirs, .ref a_p0_dStir, .ref a_p0_dNeed, .int i_p0_told, .int i_p0_highest, .ref a_p0_tape, .int i_p0_taped, .int i_p0_pos, .int i_p0_from, .int i_p0_sort, .int i_p0_value, .int i_p0_fault, .int i_p0_wrongAt, .ref a_p0_places, .ref a_p0_stirred, .ref a_p0_ways, .ref a_p0_waysThen, .ref a_p0_stays, .ref a_p0_fewest, .ref a_p0_bowls, .ref a_p0_has, .ref a_p0_goesOn, .ref a_p0_isThere, .ref a_p0_isThereThen, .ref a_p0_bestRow, .ref a_p0_lanes, .ref a_p0_sizes, .ref a_p0_cells, .int i_p0_torn]))] H → va_D A [(a_p0, .inr (12, [.ref a_p0_st, .ref a_p0_isKept, .int i_p0_seats, .int i_p0_stirs, .ref a_p0_brings, .ref a_p0_need, .ref a_p0_draft, .int i_p0_dSeats, .int i_p0_dStirs, .ref a_p0_dStir, .ref a_p0_dNeed, .int i_p0_told, .int i_p0_highest, .ref a_p0_tape, .int i_p0_taped, .int i_p0_pos, .int i_p0_from, .int i_p0_sort, .int i_p0_value, .int i_p0_fault, .int i_p0_wrongAt, .ref a_p0_places, .ref a_p0_stirred, .ref a_p0_ways, .ref a_p0_waysThen, .ref a_p0_stays, .ref a_p0_fewest, .ref a_p0_bowls, .ref a_p0_has, .ref a_p0_goesOn, .ref a_p0_isThere, .ref a_p0_isThereThen, .ref a_p0_bestRow, .ref a_p0_lanes, .ref a_p0_sizes, .ref a_p0_cells, .int i_p0_torn]))] → va_S A s.heap H locs → J8 z7 = some r → W p l e rm_X12_blind s m ([.ref a_p0, .int x1, .int x2, .int x3] : List Value).toArray below meth c H locs 0 0 Q (F0 m 104 ls []) := by
          clear hf hl hP hD hS
          intro z7 ls H locs hl hP hD hS hf
          replace hf := jn1_s eJ8 hf
          refine lv_lload hx hb dX12_blind_104 (lv_at hl 0 rfl) ?_
          refine lv_aload_n hx hb dX12_blind_106 rfl (lv_at hl 1 rfl) ?_
          refine lv_aload_n hx hb dX12_blind_107 rfl (lv_at hl 1 rfl) ?_
          refine va_get (D := D) (ci := 12) (v := .int i_p0_seats) (C := RX12) (T := TX12) (N := 37) hx hb hts inX12_blind_X12 hown hK hP 0 rfl rfl 2 (by decide) (hts _ mwX12_blind_3) (fun _ h9 => h9) rfl dX12_blind_108 ?_
          refine lv_i2l hx hb dX12_blind_111 rfl ?_
          refine lv_iload_n hx hb dX12_blind_112 rfl (lv_at hl 2 rfl) ?_
          have hq := bd1_s hf
          clear hf
          obtain ⟨z9, hcall, hf⟩ := hq
          refine gcL (ws' := [(a_p0, .inr (12, [.ref a_p0_st, .ref a_p0_isKept, .int i_p0_seats, .int i_p0_stirs, .ref a_p0_brings, .ref a_p0_need, .ref a_p0_draft, .int i_p0_dSeats, .int i_p0_dStirs, .ref a_p0_dStir, .ref a_p0_dNeed, .int i_p0_told, .int i_p0_highest, .ref a_p0_tape, .int i_p0_taped, .int i_p0_pos, .int i_p0_from, .int i_p0_sort, .int i_p0_value, .int i_p0_fault, .int i_p0_wrongAt, .ref a_p0_places, .ref a_p0_stirred, .ref a_p0_ways, .ref a_p0_waysThen, .ref a_p0_stays, .ref a_p0_fewest, .ref a_p0_bowls, .ref a_p0_has, .ref a_p0_goesOn, .ref a_p0_isThere, .ref a_p0_isThereThen, .ref a_p0_bestRow, .ref a_p0_lanes, .ref a_p0_sizes, .ref a_p0_cells, .int i_p0_torn]))]) (va_runV (As := [.long (i_p0_seats).toInt64, .int x2]) (rest := [.long z7]) ⟨hx, hb, hml, hown, hts⟩ (c_X12_power (l := l) (D := D) (G := G) (sz := H.size) (a_p0 := a_p0) (a_p0_st := a_p0_st) (a_p0_isKept := a_p0_isKept) (a_p0_brings := a_p0_brings) (a_p0_need := a_p0_need) (a_p0_draft := a_p0_draft) (a_p0_dStir := a_p0_dStir) (a_p0_dNeed := a_p0_dNeed) (a_p0_tape := a_p0_tape) (a_p0_places := a_p0_places) (a_p0_stirred := a_p0_stirred) (a_p0_ways := a_p0_ways) (a_p0_waysThen := a_p0_waysThen) (a_p0_stays := a_p0_stays) (a_p0_fewest := a_p0_fewest) (a_p0_bowls := a_p0_bowls) (a_p0_has := a_p0_has) (a_p0_goesOn := a_p0_goesOn) (a_p0_isThere := a_p0_isThere) (a_p0_isThereThen := a_p0_isThereThen) (a_p0_bestRow := a_p0_bestRow) (a_p0_lanes := a_p0_lanes) (a_p0_sizes := a_p0_sizes) (a_p0_cells := a_p0_cells) (i_p0_seats := i_p0_seats) (i_p0_stirs := i_p0_stirs) (i_p0_dSeats := i_p0_dSeats) (i_p0_dStirs := i_p0_dStirs) (i_p0_told := i_p0_told) (i_p0_highest := i_p0_highest) (i_p0_taped := i_p0_taped) (i_p0_pos := i_p0_pos) (i_p0_from := i_p0_from) (i_p0_sort := i_p0_sort) (i_p0_value := i_p0_value) (i_p0_fault := i_p0_fault) (i_p0_wrongAt := i_p0_wrongAt) (i_p0_torn := i_p0_torn) (x1 := (i_p0_seats).toInt64) (x3 := x2) (r := z9) (hf := hcall)) (cwV 2 hts gX12_blind_X12_power rfl rfl rfl (by decide +kernel) ⟨Nat.le_of_ble_eq_true rfl, Nat.le_of_ble_eq_true rfl⟩) (preG_V (ci := 12) (hP.sub [0] rfl) (hD.sub [0] rfl rfl) hK rfl rfl) rfl rfl hl.1 rfl (lv_room (Nat.le_of_ble_eq_true rfl)) dX12_blind_113 ⟨Nat.le_of_ble_eq_true rfl, Nat.le_of_ble_eq_true rfl⟩) hP hD hS hA [0] [] [0] rfl rfl rfl (by decide) rfl rfl rfl (fun H locs hP hD hS => ?_)
          clear hcall
          refine lv_iload_n hx hb dX12_blind_116 rfl (lv_at hl 3 rfl) ?_
          have hq := bd1_s hf
          clear hf
          obtain ⟨z10, hcall, hf⟩ := hq
          refine gcL (ws' := [(a_p0, .inr (12, [.ref a_p0_st, .ref a_p0_isKept, .int i_p0_seats, .int i_p0_stirs, .ref a_p0_brings, .ref a_p0_need, .ref a_p0_draft, .int i_p0_dSeats, .int i_p0_dStirs, .ref a_p0_dStir, .ref a_p0_dNeed, .int i_p0_told, .int i_p0_highest, .ref a_p0_tape, .int i_p0_taped, .int i_p0_pos, .int i_p0_from, .int i_p0_sort, .int i_p0_value, .int i_p0_fault, .int i_p0_wrongAt, .ref a_p0_places, .ref a_p0_stirred, .ref a_p0_ways, .ref a_p0_waysThen, .ref a_p0_stays, .ref a_p0_fewest, .ref a_p0_bowls, .ref a_p0_has, .ref a_p0_goesOn, .ref a_p0_isThere, .ref a_p0_isThereThen, .ref a_p0_bestRow, .ref a_p0_lanes, .ref a_p0_sizes, .ref a_p0_cells, .int i_p0_torn]))]) (va_runS (As := [.long z7, .long z9, .int x3]) (rest := []) ⟨hx, hb, hml, hown, hts⟩ (c_X12_lowest (l := l) (D := D) (G := G) (sz := H.size) (x0 := z7) (x2 := z9) (x4 := x3) (r := z10) (hf := hcall)) (va_cwS 3 hts gX12_blind_X12_lowest rfl rfl rfl (by decide +kernel) ⟨Nat.le_of_ble_eq_true rfl, Nat.le_of_ble_eq_true rfl⟩) (preG_S (hP.sub [] rfl) (hD.sub [] rfl rfl) hK) rfl rfl hl.1 rfl (lv_room (Nat.le_of_ble_eq_true rfl)) dX12_blind_117 ⟨Nat.le_of_ble_eq_true rfl, Nat.le_of_ble_eq_true rfl⟩) hP hD hS hA [] [0] [0] rfl rfl rfl (by decide) rfl rfl rfl (fun H locs hP hD hS => ?_)
          clear hcall
          obtain rfl := ou1 hf
          rw [hQ]
          exact W.lret hx hb hr (fun t ht hW => ⟨⟨_, (), rfl, rfl, by rw [ht]; exact hP, va_K.moved hW.alike hK, hD⟩, hS.F ht⟩) hS.2.2 dX12_blind_120
        have hq := lq3_i hf
        clear hf
        obtain ⟨B14, eB14, NB14, hf⟩ := hq
        have hB14 : ∀ (n : Nat) (z11 : Int32) (z12 : Int64) (z13 : Int64) (ls : Array Slot) (H : Heap) (locs : List Loc), lv_has ls 9 [(8, .int z11), (6, .long z12), (4, .long z13), (0, .ref a_p0), (1, .int x1), (2, .int x2), (3, .int x3)] → va_P D vwCl [(a_p0, .inr (12, [.ref a_p0_st, .ref a_p0_isKept, .int i_p0_seats, .int i_p0_stirs, .ref a_p0_brings, .ref a_p0_need, .ref a_p0_draft, .int i_p0_dSeats, .int i_p0_dStirs, .ref a_p0_dStir, .ref a_p0_dNeed, .int i_p0_told, .int i_p0_highest, .ref a_p0_tape, .int i_p0_taped, .int i_p0_pos, .int i_p0_from, .int i_p0_sort, .int i_p0_value, .int i_p0_fault, .int i_p0_wrongAt, .ref a_p0_places, .ref a_p0_stirred, .ref a_p0_ways, .ref a_p0_waysThen, .ref a_p0_stays, .ref a_p0_fewest, .ref a_p0_bowls, .ref a_p0_has, .ref a_p0_goesOn, .ref a_p0_isThere, .ref a_p0_isThereThen, .ref a_p0_bestRow, .ref a_p0_lanes, .ref a_p0_sizes, .ref a_p0_cells, .int i_p0_torn]))] H → va_D A [(a_p0, .inr (12, [.ref a_p0_st, .ref a_p0_isKept, .int i_p0_seats, .int i_p0_stirs, .ref a_p0_brings, .ref a_p0_need, .ref a_p0_draft, .int i_p0_dSeats, .int i_p0_dStirs, .ref a_p0_dStir, .ref a_p0_dNeed, .int i_p0_told, .int i_p0_highest, .ref a_p0_tape, .int i_p0_taped, .int i_p0_pos, .int i_p0_from, .int i_p0_sort, .int i_p0_value, .int i_p0_fault, .int i_p0_wrongAt, .ref a_p0_places, .ref a_p0_stirred, .ref a_p0_ways, .ref a_p0_waysThen, .ref a_p0_stays, .ref a_p0_fewest, .ref a_p0_bowls, .ref a_p0_has, .ref a_p0_goesOn, .ref a_p0_isThere, .ref a_p0_isThereThen, .ref a_p0_bestRow, .ref a_p0_lanes, .ref a_p0_sizes, .ref a_p0_cells, .int i_p0_torn]))] → va_S A s.heap H locs → lq3 B14 n z11 z12 z13 = some r → W p l e rm_X12_blind s m ([.ref a_p0, .int x1, .int x2, .int x3] : List Value).toArray below meth c H locs 0 0 Q (F0 m 43 ls []) := by
          clear hf hl hP hD hS
          intro n
          induction n with
          | zero =>
            intro z11 z12 z13 ls H locs hl hP hD hS hf
            exact (lq3_0 hf).elim
          | succ n ih43 =>
            intro z11 z12 z13 ls H locs hl hP hD hS hf
            replace hf := lq3_s eB14 hf
            unfold B_X12_blind_43 at hf
            refine lv_iload hx hb dX12_blind_43 (lv_at hl 0 rfl) ?_
            refine lv_iload_n hx hb dX12_blind_45 rfl (lv_at hl 5 rfl) ?_
            refine lv_icmp_gt (tgt := 104) hx hb dX12_blind_46 (by decide) (fun cc => ?_) (fun cc => ?_)
            ·
              replace hf := ite_t cc hf
              clear cc
              exact hJ8 _ _ _ _ (lv_sub hl [2, 3, 5, 6] rfl) hP hD hS hf
            ·
              replace hf := ite_f cc hf
              clear cc
              refine lv_lload hx hb dX12_blind_49 (lv_at hl 2 rfl) ?_
              refine lv_iload hx hb dX12_blind_51 (lv_at hl 0 rfl) ?_
              refine lv_iload_n hx hb dX12_blind_53 rfl (lv_at hl 4 rfl) ?_
              have hq := jn_i hf
              clear hf
              obtain ⟨J17, eJ17, hf⟩ := hq
              have hJ17 : ∀ (z15 : Int64) (z16 : Int64) (ls : Array Slot) (H : Heap) (locs : List Loc), lv_has ls 9 [(8, .int z11), (6, .long z12), (0, .ref a_p0), (1, .int x1), (2, .int x2), (3, .int x3)] → va_P D vwCl [(a_p0, .inr (12, [.ref a_p0_st, .ref a_p0_isKept, .int i_p0_seats, .int i_p0_stirs, .ref a_p0_brings, .ref a_p0_need, .ref a_p0_draft, .int i_p0_dSeats, .int i_p0_dStirs, .ref a_p0_dStir, .ref a_p0_dNeed, .int i_p0_told, .int i_p0_highest, .ref a_p0_tape, .int i_p0_taped, .int i_p0_pos, .int i_p0_from, .int i_p0_sort, .int i_p0_value, .int i_p0_fault, .int i_p0_wrongAt, .ref a_p0_places, .ref a_p0_stirred, .ref a_p0_ways, .ref a_p0_waysThen, .ref a_p0_stays, .ref a_p0_fewest, .ref a_p0_bowls, .ref a_p0_has, .ref a_p0_goesOn, .ref a_p0_isThere, .ref a_p0_isThereThen, .ref a_p0_bestRow, .ref a_p0_lanes, .ref a_p0_sizes, .ref a_p0_cells, .int i_p0_torn]))] H → va_D A [(a_p0, .inr (12, [.ref a_p0_st, .ref a_p0_isKept, .int i_p0_seats, .int i_p0_stirs, .ref a_p0_brings, .ref a_p0_need, .ref a_p0_draft, .int i_p0_dSeats, .int i_p0_dStirs, .ref a_p0_dStir, .ref a_p0_dNeed, .int i_p0_told, .int i_p0_highest, .ref a_p0_tape, .int i_p0_taped, .int i_p0_pos, .int i_p0_from, .int i_p0_sort, .int i_p0_value, .int i_p0_fault, .int i_p0_wrongAt, .ref a_p0_places, .ref a_p0_stirred, .ref a_p0_ways, .ref a_p0_waysThen, .ref a_p0_stays, .ref a_p0_fewest, .ref a_p0_bowls, .ref a_p0_has, .ref a_p0_goesOn, .ref a_p0_isThere, .ref a_p0_isThereThen, .ref a_p0_bestRow, .ref a_p0_lanes, .ref a_p0_sizes, .ref a_p0_cells, .int i_p0_torn]))] → va_S A s.heap H locs → J17 z15 z16 = some r → W p l e rm_X12_blind s m ([.ref a_p0, .int x1, .int x2, .int x3] : List Value).toArray below meth c H locs 0 0 Q (F0 m 79 ls [.long z16, .long z15]) := by
                clear hf hl hP hD hS
                intro z15 z16 ls H locs hl hP hD hS hf
                replace hf := jn2_s eJ17 hf
                refine lv_ladd hx hb dX12_blind_79 ?_
                refine lv_topl (fun z18 ez => ?_)
                replace hf := bnd_s hf ez
                clear ez
                refine lv_lstore (lv' := [(4, .long z18), (8, .int z11), (6, .long z12), (0, .ref a_p0), (1, .int x1), (2, .int x2), (3, .int x3)]) hx hb dX12_blind_80 hl (by decide) rfl (fun ls hl => ?_)
                refine lv_lload hx hb dX12_blind_82 (lv_at hl 2 rfl) ?_
                refine lv_iload_n hx hb dX12_blind_84 rfl (lv_at hl 5 rfl) ?_
                refine lv_iload hx hb dX12_blind_85 (lv_at hl 1 rfl) ?_
                refine lv_isub hx hb dX12_blind_87 ?_
                refine lv_i2l hx hb dX12_blind_88 rfl ?_
                refine lv_lmul hx hb dX12_blind_89 ?_
                refine lv_iload hx hb dX12_blind_90 (lv_at hl 1 rfl) ?_
                refine lv_iconst (v := (1 : Int32)) hx hb dX12_blind_92 (by decide) ?_
                refine lv_iadd hx hb dX12_blind_93 ?_
                refine lv_i2l hx hb dX12_blind_94 rfl ?_
                have hc := ck_c hf
                replace hf := ck_r hf
                refine lv_ldiv hx hb dX12_blind_95 (nzL_ne hc) ?_
                clear hc
                refine lv_topl (fun z19 ez => ?_)
                replace hf := bnd_s hf ez
                clear ez
                refine lv_lstore (lv' := [(6, .long z19), (4, .long z18), (8, .int z11), (0, .ref a_p0), (1, .int x1), (2, .int x2), (3, .int x3)]) hx hb dX12_blind_96 hl (by decide) rfl (fun ls hl => ?_)
                obtain ⟨z20, ez⟩ : ∃ y : Int32, y = (z11 + (1 : Int32)) := ⟨_, rfl⟩
                replace hf := bnd_s hf ez
                refine lv_iinc (v := z20) (lv' := [(8, .int z20), (6, .long z19), (4, .long z18), (0, .ref a_p0), (1, .int x1), (2, .int x2), (3, .int x3)]) hx hb dX12_blind_98 hl (k := 2) rfl (by rw [ez]; rfl) (by decide) rfl (fun ls hl => ?_)
                clear ez
                refine lv_goto (tgt := 43) hx hb dX12_blind_101 (by decide) ?_
                exact ih43 _ _ _ _ _ _ (lv_sub hl [0, 1, 2, 3, 4, 5, 6] rfl) hP hD hS hf
              refine lv_icmp_lt (tgt := 78) hx hb dX12_blind_54 (by decide) (fun cc => ?_) (fun cc => ?_)
              ·
                replace hf := ite_t cc hf
                clear cc
                refine lv_lconst (v := (0 : Int64)) hx hb dX12_blind_78 (by decide) ?_
                exact hJ17 _ _ _ _ _ (lv_sub hl [0, 1, 3, 4, 5, 6] rfl) hP hD hS hf
              ·
                replace hf := ite_f cc hf
                clear cc
                refine lv_lload hx hb dX12_blind_57 (lv_at hl 1 rfl) ?_
                refine lv_aload_n hx hb dX12_blind_59 rfl (lv_at hl 3 rfl) ?_
                refine lv_aload_n hx hb dX12_blind_60 rfl (lv_at hl 3 rfl) ?_
                refine va_get (D := D) (ci := 12) (v := .int i_p0_seats) (C := RX12) (T := TX12) (N := 37) hx hb hts inX12_blind_X12 hown hK hP 0 rfl rfl 2 (by decide) (hts _ mwX12_blind_3) (fun _ h9 => h9) rfl dX12_blind_61 ?_
                refine lv_i2l hx hb dX12_blind_64 rfl ?_
                refine lv_lconst (v := (1 : Int64)) hx hb dX12_blind_65 (by decide) ?_
                refine lv_lsub hx hb dX12_blind_66 ?_
                refine lv_iload_n hx hb dX12_blind_67 rfl (lv_at hl 5 rfl) ?_
                refine lv_iload hx hb dX12_blind_68 (lv_at hl 0 rfl) ?_
                refine lv_isub hx hb dX12_blind_70 ?_
                have hq := bd1_s hf
                clear hf
                obtain ⟨z21, hcall, hf⟩ := hq
                refine gcL (ws' := [(a_p0, .inr (12, [.ref a_p0_st, .ref a_p0_isKept, .int i_p0_seats, .int i_p0_stirs, .ref a_p0_brings, .ref a_p0_need, .ref a_p0_draft, .int i_p0_dSeats, .int i_p0_dStirs, .ref a_p0_dStir, .ref a_p0_dNeed, .int i_p0_told, .int i_p0_highest, .ref a_p0_tape, .int i_p0_taped, .int i_p0_pos, .int i_p0_from, .int i_p0_sort, .int i_p0_value, .int i_p0_fault, .int i_p0_wrongAt, .ref a_p0_places, .ref a_p0_stirred, .ref a_p0_ways, .ref a_p0_waysThen, .ref a_p0_stays, .ref a_p0_fewest, .ref a_p0_bowls, .ref a_p0_has, .ref a_p0_goesOn, .ref a_p0_isThere, .ref a_p0_isThereThen, .ref a_p0_bestRow, .ref a_p0_lanes, .ref a_p0_sizes, .ref a_p0_cells, .int i_p0_torn]))]) (va_runV (As := [.long ((i_p0_seats).toInt64 - (1 : Int64)), .int (x2 - z11)]) (rest := [.long z12, .long z13]) ⟨hx, hb, hml, hown, hts⟩ (c_X12_power (l := l) (D := D) (G := G) (sz := H.size) (a_p0 := a_p0) (a_p0_st := a_p0_st) (a_p0_isKept := a_p0_isKept) (a_p0_brings := a_p0_brings) (a_p0_need := a_p0_need) (a_p0_draft := a_p0_draft) (a_p0_dStir := a_p0_dStir) (a_p0_dNeed := a_p0_dNeed) (a_p0_tape := a_p0_tape) (a_p0_places := a_p0_places) (a_p0_stirred := a_p0_stirred) (a_p0_ways := a_p0_ways) (a_p0_waysThen := a_p0_waysThen) (a_p0_stays := a_p0_stays) (a_p0_fewest := a_p0_fewest) (a_p0_bowls := a_p0_bowls) (a_p0_has := a_p0_has) (a_p0_goesOn := a_p0_goesOn) (a_p0_isThere := a_p0_isThere) (a_p0_isThereThen := a_p0_isThereThen) (a_p0_bestRow := a_p0_bestRow) (a_p0_lanes := a_p0_lanes) (a_p0_sizes := a_p0_sizes) (a_p0_cells := a_p0_cells) (i_p0_seats := i_p0_seats) (i_p0_stirs := i_p0_stirs) (i_p0_dSeats := i_p0_dSeats) (i_p0_dStirs := i_p0_dStirs) (i_p0_told := i_p0_told) (i_p0_highest := i_p0_highest) (i_p0_taped := i_p0_taped) (i_p0_pos := i_p0_pos) (i_p0_from := i_p0_from) (i_p0_sort := i_p0_sort) (i_p0_value := i_p0_value) (i_p0_fault := i_p0_fault) (i_p0_wrongAt := i_p0_wrongAt) (i_p0_torn := i_p0_torn) (x1 := ((i_p0_seats).toInt64 - (1 : Int64))) (x3 := (x2 - z11)) (r := z21) (hf := hcall)) (cwV 2 hts gX12_blind_X12_power rfl rfl rfl (by decide +kernel) ⟨Nat.le_of_ble_eq_true rfl, Nat.le_of_ble_eq_true rfl⟩) (preG_V (ci := 12) (hP.sub [0] rfl) (hD.sub [0] rfl rfl) hK rfl rfl) rfl rfl hl.1 rfl (lv_room (Nat.le_of_ble_eq_true rfl)) dX12_blind_71 ⟨Nat.le_of_ble_eq_true rfl, Nat.le_of_ble_eq_true rfl⟩) hP hD hS hA [0] [] [0] rfl rfl rfl (by decide) rfl rfl rfl (fun H locs hP hD hS => ?_)
                clear hcall
                refine lv_lmul hx hb dX12_blind_74 ?_
                refine lv_goto (tgt := 79) hx hb dX12_blind_75 (by decide) ?_
                exact hJ17 _ _ _ _ _ (lv_sub hl [0, 1, 3, 4, 5, 6] rfl) hP hD hS hf
        exact hB14 _ _ _ _ _ _ _ (lv_sub hl [0, 1, 2, 3, 4, 5, 6] rfl) hP hD hS hf
      ·
        replace hf := ite_t cc hf
        clear cc
        refine lv_ldc2 (v := (-1 : Int64)) hx hb hown (hts _ mwX12_blind_1) dX12_blind_30 ?_
        obtain rfl := ou1 hf
        rw [hQ]
        exact W.lret hx hb hr (fun t ht hW => ⟨⟨_, (), rfl, rfl, by rw [ht]; exact hP, va_K.moved hW.alike hK, hD⟩, hS.F ht⟩) hS.2.2 dX12_blind_33

noncomputable def B_X12_copies_2 (x2 : Int32) (x1 : Int32) (again2 : Int32 → (Nat → Int32) → Option ((Nat → Int32))) (z2 : Int32) (w3 : (Nat → Int32)) : Option ((Nat → Int32)) := (if (38 : Int32) ≤ z2 then (some w3) else (ck (ixB (x2 + z2) 152) (ck (ixB (x1 + z2) 152) (bnd (upd w3 ((x1 + z2)).toNatClampNeg (w3 ((x2 + z2)).toNatClampNeg)) (fun (w5 : (Nat → Int32)) => (bnd (z2 + (1 : Int32)) (fun (z6 : Int32) => (again2 z6 w5))))))))
noncomputable def f_X12_copies (v_p0_st : (Nat → Int32)) (x1 : Int32) (x2 : Int32) : Option ((Nat → Int32)) := (bnd (0 : Int32) (fun (z1 : Int32) => (lq2 (B_X12_copies_2 x2 x1) 1000 z1 v_p0_st)))
abbrev rm_X12_copies : Room := { frames := 0, cells := 0, slots := 0, locals := 0 }
theorem inX12_copies_X12 : ∀ w ∈ wsX120, w ∈ wsX12_copies := by decide +kernel
theorem mwX12_copies_1 : Cond.fieldLink RX12 7 "LadleKingsModel" "st" "[I" ∈ wsX12_copies := by decide +kernel
set_option maxHeartbeats 8000000 in
set_option maxRecDepth 100000 in
theorem c_X12_copies (l : Launch) (D : va_G) (G : Nat → ClassId) (sz : Nat) (a_p0 : Nat) (a_p0_st : Nat) (a_p0_isKept : Nat) (a_p0_brings : Nat) (a_p0_need : Nat) (a_p0_draft : Nat) (a_p0_dStir : Nat) (a_p0_dNeed : Nat) (a_p0_tape : Nat) (a_p0_places : Nat) (a_p0_stirred : Nat) (a_p0_ways : Nat) (a_p0_waysThen : Nat) (a_p0_stays : Nat) (a_p0_fewest : Nat) (a_p0_bowls : Nat) (a_p0_has : Nat) (a_p0_goesOn : Nat) (a_p0_isThere : Nat) (a_p0_isThereThen : Nat) (a_p0_bestRow : Nat) (a_p0_lanes : Nat) (a_p0_sizes : Nat) (a_p0_cells : Nat) (i_p0_seats : Int32) (i_p0_stirs : Int32) (i_p0_dSeats : Int32) (i_p0_dStirs : Int32) (i_p0_told : Int32) (i_p0_highest : Int32) (i_p0_taped : Int32) (i_p0_pos : Int32) (i_p0_from : Int32) (i_p0_sort : Int32) (i_p0_value : Int32) (i_p0_fault : Int32) (i_p0_wrongAt : Int32) (i_p0_torn : Int32) (v_p0_st : (Nat → Int32)) (x1 : Int32) (x2 : Int32) (o_v_p0_st : (Nat → Int32)) (hf : f_X12_copies v_p0_st x1 x2 = some o_v_p0_st) : Met l yX12_copies wsX12_copies rm_X12_copies (pcG D G [.ref a_p0, .int x1, .int x2] sz [(a_p0, .inr (12, [.ref a_p0_st, .ref a_p0_isKept, .int i_p0_seats, .int i_p0_stirs, .ref a_p0_brings, .ref a_p0_need, .ref a_p0_draft, .int i_p0_dSeats, .int i_p0_dStirs, .ref a_p0_dStir, .ref a_p0_dNeed, .int i_p0_told, .int i_p0_highest, .ref a_p0_tape, .int i_p0_taped, .int i_p0_pos, .int i_p0_from, .int i_p0_sort, .int i_p0_value, .int i_p0_fault, .int i_p0_wrongAt, .ref a_p0_places, .ref a_p0_stirred, .ref a_p0_ways, .ref a_p0_waysThen, .ref a_p0_stays, .ref a_p0_fewest, .ref a_p0_bowls, .ref a_p0_has, .ref a_p0_goesOn, .ref a_p0_isThere, .ref a_p0_isThereThen, .ref a_p0_bestRow, .ref a_p0_lanes, .ref a_p0_sizes, .ref a_p0_cells, .int i_p0_torn])), (a_p0_st, .inl (G 1, 152, .inl v_p0_st))]) (qcV D G [(a_p0, .inr (12, [.ref a_p0_st, .ref a_p0_isKept, .int i_p0_seats, .int i_p0_stirs, .ref a_p0_brings, .ref a_p0_need, .ref a_p0_draft, .int i_p0_dSeats, .int i_p0_dStirs, .ref a_p0_dStir, .ref a_p0_dNeed, .int i_p0_told, .int i_p0_highest, .ref a_p0_tape, .int i_p0_taped, .int i_p0_pos, .int i_p0_from, .int i_p0_sort, .int i_p0_value, .int i_p0_fault, .int i_p0_wrongAt, .ref a_p0_places, .ref a_p0_stirred, .ref a_p0_ways, .ref a_p0_waysThen, .ref a_p0_stays, .ref a_p0_fewest, .ref a_p0_bowls, .ref a_p0_has, .ref a_p0_goesOn, .ref a_p0_isThere, .ref a_p0_isThereThen, .ref a_p0_bestRow, .ref a_p0_lanes, .ref a_p0_sizes, .ref a_p0_cells, .int i_p0_torn])), (a_p0_st, .inl (G 1, 152, .inl o_v_p0_st))] (va_A [(a_p0, .inr (12, [.ref a_p0_st, .ref a_p0_isKept, .int i_p0_seats, .int i_p0_stirs, .ref a_p0_brings, .ref a_p0_need, .ref a_p0_draft, .int i_p0_dSeats, .int i_p0_dStirs, .ref a_p0_dStir, .ref a_p0_dNeed, .int i_p0_told, .int i_p0_highest, .ref a_p0_tape, .int i_p0_taped, .int i_p0_pos, .int i_p0_from, .int i_p0_sort, .int i_p0_value, .int i_p0_fault, .int i_p0_wrongAt, .ref a_p0_places, .ref a_p0_stirred, .ref a_p0_ways, .ref a_p0_waysThen, .ref a_p0_stays, .ref a_p0_fewest, .ref a_p0_bowls, .ref a_p0_has, .ref a_p0_goesOn, .ref a_p0_isThere, .ref a_p0_isThereThen, .ref a_p0_bestRow, .ref a_p0_lanes, .ref a_p0_sizes, .ref a_p0_cells, .int i_p0_torn])), (a_p0_st, .inl (G 1, 152, .inl v_p0_st))] sz)) 0 0 (va_A [(a_p0, .inr (12, [.ref a_p0_st, .ref a_p0_isKept, .int i_p0_seats, .int i_p0_stirs, .ref a_p0_brings, .ref a_p0_need, .ref a_p0_draft, .int i_p0_dSeats, .int i_p0_dStirs, .ref a_p0_dStir, .ref a_p0_dNeed, .int i_p0_told, .int i_p0_highest, .ref a_p0_tape, .int i_p0_taped, .int i_p0_pos, .int i_p0_from, .int i_p0_sort, .int i_p0_value, .int i_p0_fault, .int i_p0_wrongAt, .ref a_p0_places, .ref a_p0_stirred, .ref a_p0_ways, .ref a_p0_waysThen, .ref a_p0_stays, .ref a_p0_fewest, .ref a_p0_bowls, .ref a_p0_has, .ref a_p0_goesOn, .ref a_p0_isThere, .ref a_p0_isThereThen, .ref a_p0_bestRow, .ref a_p0_lanes, .ref a_p0_sizes, .ref a_p0_cells, .int i_p0_torn])), (a_p0_st, .inl (G 1, 152, .inl v_p0_st))] sz) := by
  refine Met.ofW (cc := cX12_copies) (maxL := 4) (ret := none) (by decide) rfl ?_
  intro p e s m args below meth c s₁ B hml hv
  obtain ⟨rfl, hsz, hP, hK, hD0⟩ := hv
  have hx := B.exec
  have hb := B.bytes
  have hr := B.returns
  have hts := atoms_spec (ws := wsX12_copies) B.pre
  have hown : s.vm.findClass RX12 = some m.cls := findClass_of_methodNamed B.named
  have hlocks := B.notSynchronized
  subst hsz
  have hD := hD0.self (sz := s.heap.size)
  generalize hAe : va_A [(a_p0, .inr (12, [.ref a_p0_st, .ref a_p0_isKept, .int i_p0_seats, .int i_p0_stirs, .ref a_p0_brings, .ref a_p0_need, .ref a_p0_draft, .int i_p0_dSeats, .int i_p0_dStirs, .ref a_p0_dStir, .ref a_p0_dNeed, .int i_p0_told, .int i_p0_highest, .ref a_p0_tape, .int i_p0_taped, .int i_p0_pos, .int i_p0_from, .int i_p0_sort, .int i_p0_value, .int i_p0_fault, .int i_p0_wrongAt, .ref a_p0_places, .ref a_p0_stirred, .ref a_p0_ways, .ref a_p0_waysThen, .ref a_p0_stays, .ref a_p0_fewest, .ref a_p0_bowls, .ref a_p0_has, .ref a_p0_goesOn, .ref a_p0_isThere, .ref a_p0_isThereThen, .ref a_p0_bestRow, .ref a_p0_lanes, .ref a_p0_sizes, .ref a_p0_cells, .int i_p0_torn])), (a_p0_st, .inl (G 1, 152, .inl v_p0_st))] s.heap.size = A at hD ⊢
  have hA : ∀ q : Nat, s.heap.size ≤ q → A q := fun q h => by rw [← hAe]; exact Or.inr h
  clear hAe hD0
  have hS : va_S A s.heap s.heap [] := va_S.rf
  have hl := lv_entry ([.ref a_p0, .int x1, .int x2]) (n := 4) (Nat.le_of_ble_eq_true rfl)
  rw [lg_entry_eq]
  generalize (lg_sl ([.ref a_p0, .int x1, .int x2]) ++ List.replicate (4 - (lg_sl ([.ref a_p0, .int x1, .int x2])).length) Slot.unset).toArray = ls at hl ⊢
  have hl : lv_has ls 4 [(0, .ref a_p0), (1, .int x1), (2, .int x2)] := hl
  refine W_nameQ (fun Q hQ => ?_)
  obtain ⟨H, hH⟩ : ∃ H, H = s.heap := ⟨_, rfl⟩
  replace hS : va_S A s.heap H [] := by rw [hH]; exact hS
  replace hP : va_P D vwCl [(a_p0, .inr (12, [.ref a_p0_st, .ref a_p0_isKept, .int i_p0_seats, .int i_p0_stirs, .ref a_p0_brings, .ref a_p0_need, .ref a_p0_draft, .int i_p0_dSeats, .int i_p0_dStirs, .ref a_p0_dStir, .ref a_p0_dNeed, .int i_p0_told, .int i_p0_highest, .ref a_p0_tape, .int i_p0_taped, .int i_p0_pos, .int i_p0_from, .int i_p0_sort, .int i_p0_value, .int i_p0_fault, .int i_p0_wrongAt, .ref a_p0_places, .ref a_p0_stirred, .ref a_p0_ways, .ref a_p0_waysThen, .ref a_p0_stays, .ref a_p0_fewest, .ref a_p0_bowls, .ref a_p0_has, .ref a_p0_goesOn, .ref a_p0_isThere, .ref a_p0_isThereThen, .ref a_p0_bestRow, .ref a_p0_lanes, .ref a_p0_sizes, .ref a_p0_cells, .int i_p0_torn])), (a_p0_st, .inl (G 1, 152, .inl v_p0_st))] H := by rw [hH]; exact hP
  rw [← hH]
  clear hH
  unfold f_X12_copies at hf
  refine lv_iconst (v := (0 : Int32)) hx hb dX12_copies_0 (by decide) ?_
  refine lv_topi (fun z1 ez => ?_)
  replace hf := bnd_s hf ez
  clear ez
  refine lv_istore_n (lv' := [(3, .int z1), (0, .ref a_p0), (1, .int x1), (2, .int x2)]) hx hb dX12_copies_1 rfl hl (by decide) rfl (fun ls hl => ?_)
  have hq := lq2_i hf
  clear hf
  obtain ⟨B4, eB4, NB4, hf⟩ := hq
  have hB4 : ∀ (n : Nat) (z2 : Int32) (w3 : (Nat → Int32)) (ls : Array Slot) (H : Heap) (locs : List Loc), lv_has ls 4 [(3, .int z2), (0, .ref a_p0), (1, .int x1), (2, .int x2)] → va_P D vwCl [(a_p0, .inr (12, [.ref a_p0_st, .ref a_p0_isKept, .int i_p0_seats, .int i_p0_stirs, .ref a_p0_brings, .ref a_p0_need, .ref a_p0_draft, .int i_p0_dSeats, .int i_p0_dStirs, .ref a_p0_dStir, .ref a_p0_dNeed, .int i_p0_told, .int i_p0_highest, .ref a_p0_tape, .int i_p0_taped, .int i_p0_pos, .int i_p0_from, .int i_p0_sort, .int i_p0_value, .int i_p0_fault, .int i_p0_wrongAt, .ref a_p0_places, .ref a_p0_stirred, .ref a_p0_ways, .ref a_p0_waysThen, .ref a_p0_stays, .ref a_p0_fewest, .ref a_p0_bowls, .ref a_p0_has, .ref a_p0_goesOn, .ref a_p0_isThere, .ref a_p0_isThereThen, .ref a_p0_bestRow, .ref a_p0_lanes, .ref a_p0_sizes, .ref a_p0_cells, .int i_p0_torn])), (a_p0_st, .inl (G 1, 152, .inl w3))] H → va_D A [(a_p0, .inr (12, [.ref a_p0_st, .ref a_p0_isKept, .int i_p0_seats, .int i_p0_stirs, .ref a_p0_brings, .ref a_p0_need, .ref a_p0_draft, .int i_p0_dSeats, .int i_p0_dStirs, .ref a_p0_dStir, .ref a_p0_dNeed, .int i_p0_told, .int i_p0_highest, .ref a_p0_tape, .int i_p0_taped, .int i_p0_pos, .int i_p0_from, .int i_p0_sort, .int i_p0_value, .int i_p0_fault, .int i_p0_wrongAt, .ref a_p0_places, .ref a_p0_stirred, .ref a_p0_ways, .ref a_p0_waysThen, .ref a_p0_stays, .ref a_p0_fewest, .ref a_p0_bowls, .ref a_p0_has, .ref a_p0_goesOn, .ref a_p0_isThere, .ref a_p0_isThereThen, .ref a_p0_bestRow, .ref a_p0_lanes, .ref a_p0_sizes, .ref a_p0_cells, .int i_p0_torn])), (a_p0_st, .inl (G 1, 152, .inl w3))] → va_S A s.heap H locs → lq2 B4 n z2 w3 = some o_v_p0_st → W p l e rm_X12_copies s m ([.ref a_p0, .int x1, .int x2] : List Value).toArray below meth c H locs 0 0 Q (F0 m 2 ls []) := by
    clear hf hl hP hD hS
    intro n
    induction n with
    | zero =>
      intro z2 w3 ls H locs hl hP hD hS hf
      exact (lq2_0 hf).elim
    | succ n ih2 =>
      intro z2 w3 ls H locs hl hP hD hS hf
      replace hf := lq2_s eB4 hf
      unfold B_X12_copies_2 at hf
      refine lv_iload_n hx hb dX12_copies_2 rfl (lv_at hl 0 rfl) ?_
      refine lv_bipush (v := (38 : Int32)) hx hb dX12_copies_3 (by decide) ?_
      refine lv_icmp_ge (tgt := 30) hx hb dX12_copies_5 (by decide) (fun cc => ?_) (fun cc => ?_)
      ·
        replace hf := ite_t cc hf
        clear cc
        obtain rfl := ou1 hf
        rw [hQ]
        exact W.vret hx hb hr (fun t ht hW => ⟨⟨(), rfl, trivial, by rw [ht]; exact hP, va_K.moved hW.alike hK, hD⟩, hS.F ht⟩) hS.2.2 dX12_copies_30
      ·
        replace hf := ite_f cc hf
        clear cc
        refine lv_aload_n hx hb dX12_copies_8 rfl (lv_at hl 1 rfl) ?_
        refine va_get (D := D) (ci := 12) (v := .ref a_p0_st) (C := RX12) (T := TX12) (N := 37) hx hb hts inX12_copies_X12 hown hK hP 0 rfl rfl 0 (by decide) (hts _ mwX12_copies_1) (fun _ h9 => h9) rfl dX12_copies_9 ?_
        refine lv_iload_n hx hb dX12_copies_12 rfl (lv_at hl 2 rfl) ?_
        refine lv_iload_n hx hb dX12_copies_13 rfl (lv_at hl 0 rfl) ?_
        refine lv_iadd hx hb dX12_copies_14 ?_
        refine lv_aload_n hx hb dX12_copies_15 rfl (lv_at hl 1 rfl) ?_
        refine va_get (D := D) (ci := 12) (v := .ref a_p0_st) (C := RX12) (T := TX12) (N := 37) hx hb hts inX12_copies_X12 hown hK hP 0 rfl rfl 0 (by decide) (hts _ mwX12_copies_1) (fun _ h9 => h9) rfl dX12_copies_16 ?_
        refine lv_iload_n hx hb dX12_copies_19 rfl (lv_at hl 3 rfl) ?_
        refine lv_iload_n hx hb dX12_copies_20 rfl (lv_at hl 0 rfl) ?_
        refine lv_iadd hx hb dX12_copies_21 ?_
        have hc := ck_c hf
        replace hf := ck_r hf
        refine va_iald hx hb hK hP 1 1 rfl rfl (ixB_in hc) dX12_copies_22 ?_
        clear hc
        have hc := ck_c hf
        replace hf := ck_r hf
        refine gs_iast (wf := fun w5 => [(a_p0, .inr (12, [.ref a_p0_st, .ref a_p0_isKept, .int i_p0_seats, .int i_p0_stirs, .ref a_p0_brings, .ref a_p0_need, .ref a_p0_draft, .int i_p0_dSeats, .int i_p0_dStirs, .ref a_p0_dStir, .ref a_p0_dNeed, .int i_p0_told, .int i_p0_highest, .ref a_p0_tape, .int i_p0_taped, .int i_p0_pos, .int i_p0_from, .int i_p0_sort, .int i_p0_value, .int i_p0_fault, .int i_p0_wrongAt, .ref a_p0_places, .ref a_p0_stirred, .ref a_p0_ways, .ref a_p0_waysThen, .ref a_p0_stays, .ref a_p0_fewest, .ref a_p0_bowls, .ref a_p0_has, .ref a_p0_goesOn, .ref a_p0_isThere, .ref a_p0_isThereThen, .ref a_p0_bestRow, .ref a_p0_lanes, .ref a_p0_sizes, .ref a_p0_cells, .int i_p0_torn])), (a_p0_st, .inl (G 1, 152, .inl w5))]) hx hb hK hP hD hS 1 1 rfl rfl (ixB_in hc) dX12_copies_23 (fun _ => rfl) (fun w5 ez H locs hP hD hS => ?_)
        replace hf := bnd_s hf ez
        clear ez hc
        obtain ⟨z6, ez⟩ : ∃ y : Int32, y = (z2 + (1 : Int32)) := ⟨_, rfl⟩
        replace hf := bnd_s hf ez
        refine lv_iinc (v := z6) (lv' := [(3, .int z6), (0, .ref a_p0), (1, .int x1), (2, .int x2)]) hx hb dX12_copies_24 hl (k := 0) rfl (by rw [ez]; rfl) (by decide) rfl (fun ls hl => ?_)
        clear ez
        refine lv_goto (tgt := 2) hx hb dX12_copies_27 (by decide) ?_
        exact ih2 _ _ _ _ _ (lv_sub hl [0, 1, 2, 3] rfl) hP hD hS hf
  exact hB4 _ _ _ _ _ _ (lv_sub hl [0, 1, 2, 3] rfl) hP hD hS hf

noncomputable def B_X12_fair_134 (J13 : (Nat → Int32) → Option (Int32 × (Nat → Int32))) (i_p0_stirs : Int32) (again134 : Int32 → Int32 → (Nat → Int32) → Option (Int32 × (Nat → Int32))) (z14 : Int32) (z15 : Int32) (w16 : (Nat → Int32)) : Option (Int32 × (Nat → Int32)) := (if z14 < 0 then (J13 w16) else (ck (nzI i_p0_stirs) (ck (ixB z14 4) (bnd (upd w16 (z14).toNatClampNeg (z15 - z15 / i_p0_stirs * i_p0_stirs)) (fun (w18 : (Nat → Int32)) => (ck (nzI i_p0_stirs) (bnd (z15 / i_p0_stirs) (fun (z19 : Int32) => (bnd (z14 + (-1 : Int32)) (fun (z20 : Int32) => (again134 z20 z19 w18)))))))))))
noncomputable def B_X12_fair_76 (z4 : Int32) (J10 : Int32 → Int32 → Option (Int32 × (Nat → Int32))) (again76 : Int32 → Int32 → Int32 → Option (Int32 × (Nat → Int32))) (z21 : Int32) (z22 : Int32) (z23 : Int32) : Option (Int32 × (Nat → Int32)) := (if z4 ≤ z21 then (J10 z23 z22) else none)
noncomputable def f_X12_fair (i_p0_stirs : Int32) (v_p0_bestRow : (Nat → Int32)) (x1 : Int32) (x2 : Int32) : Option (Int32 × (Nat → Int32)) := (bd1 (f_X12_in (x1).toInt64 (1 : Int64) (4 : Int64)) (fun (z1 : Int32) => (if z1 = 0 then (some ((-1 : Int32), v_p0_bestRow)) else (jn (if i_p0_stirs = 0 then (some ((-2 : Int32), v_p0_bestRow)) else (if (x2 - (10 : Int32)) < x1 then (bd1 (f_X12_power (i_p0_stirs).toInt64 x1) (fun (z3 : Int64) => (bnd (z3).toInt32 (fun (z4 : Int32) => (bnd (0 : Int32) (fun (z5 : Int32) => (bnd (1000000 : Int32) (fun (z6 : Int32) => (bnd (0 : Int32) (fun (z7 : Int32) => (jn (fun (z8 : Int32) (z9 : Int32) => (bnd (x1 - (1 : Int32)) (fun (z11 : Int32) => (jn (fun (w12 : (Nat → Int32)) => (if x2 = 0 then (some (z9, w12)) else (ck (ixB (x2 - (10 : Int32)) 4) (some ((w12 ((x2 - (10 : Int32))).toNatClampNeg), w12))))) (fun (J13 : (Nat → Int32) → Option (Int32 × (Nat → Int32))) => (lq3 (B_X12_fair_134 J13 i_p0_stirs) 1000 z11 z8 v_p0_bestRow)))))) (fun (J10 : Int32 → Int32 → Option (Int32 × (Nat → Int32))) => (lq3 (B_X12_fair_76 z4 J10) 1000 z7 z6 z5))))))))))))) else (some ((-4 : Int32), v_p0_bestRow)))) (fun (J2 : Option (Int32 × (Nat → Int32))) => (if x2 = 0 then (J2) else (bd1 (f_X12_in (x2).toInt64 (10 : Int64) (13 : Int64)) (fun (z25 : Int32) => (if z25 = 0 then (some ((-1 : Int32), v_p0_bestRow)) else (J2))))))))))
abbrev rm_X12_fair : Room := { frames := 1, cells := 0, slots := 0, locals := 26 }
theorem mwX12_fair_0 : Cond.constantLong RX12 193 (4) ∈ wsX12_fair := by decide +kernel
theorem inX12_fair_X12 : ∀ w ∈ wsX120, w ∈ wsX12_fair := by decide +kernel
theorem mwX12_fair_2 : Cond.fieldLink RX12 103 "LadleKingsModel" "stirs" "I" ∈ wsX12_fair := by decide +kernel
theorem mwX12_fair_3 : Cond.constant RX12 271 (1000000) ∈ wsX12_fair := by decide +kernel
theorem mwX12_fair_4 : Cond.fieldLink RX12 69 "LadleKingsModel" "bestRow" "[I" ∈ wsX12_fair := by decide +kernel
theorem mwX12_fair_5 : Cond.constantLong RX12 236 (10) ∈ wsX12_fair := by decide +kernel
theorem mwX12_fair_6 : Cond.constantLong RX12 301 (13) ∈ wsX12_fair := by decide +kernel
set_option maxHeartbeats 8000000 in
set_option maxRecDepth 100000 in
theorem c_X12_fair (l : Launch) (D : va_G) (G : Nat → ClassId) (sz : Nat) (a_p0 : Nat) (a_p0_st : Nat) (a_p0_isKept : Nat) (a_p0_brings : Nat) (a_p0_need : Nat) (a_p0_draft : Nat) (a_p0_dStir : Nat) (a_p0_dNeed : Nat) (a_p0_tape : Nat) (a_p0_places : Nat) (a_p0_stirred : Nat) (a_p0_ways : Nat) (a_p0_waysThen : Nat) (a_p0_stays : Nat) (a_p0_fewest : Nat) (a_p0_bowls : Nat) (a_p0_has : Nat) (a_p0_goesOn : Nat) (a_p0_isThere : Nat) (a_p0_isThereThen : Nat) (a_p0_bestRow : Nat) (a_p0_lanes : Nat) (a_p0_sizes : Nat) (a_p0_cells : Nat) (i_p0_seats : Int32) (i_p0_stirs : Int32) (i_p0_dSeats : Int32) (i_p0_dStirs : Int32) (i_p0_told : Int32) (i_p0_highest : Int32) (i_p0_taped : Int32) (i_p0_pos : Int32) (i_p0_from : Int32) (i_p0_sort : Int32) (i_p0_value : Int32) (i_p0_fault : Int32) (i_p0_wrongAt : Int32) (i_p0_torn : Int32) (v_p0_bestRow : (Nat → Int32)) (x1 : Int32) (x2 : Int32) (r : Int32) (o_v_p0_bestRow : (Nat → Int32)) (hf : f_X12_fair i_p0_stirs v_p0_bestRow x1 x2 = some (r, o_v_p0_bestRow)) : Met l yX12_fair wsX12_fair rm_X12_fair (pcG D G [.ref a_p0, .int x1, .int x2] sz [(a_p0, .inr (12, [.ref a_p0_st, .ref a_p0_isKept, .int i_p0_seats, .int i_p0_stirs, .ref a_p0_brings, .ref a_p0_need, .ref a_p0_draft, .int i_p0_dSeats, .int i_p0_dStirs, .ref a_p0_dStir, .ref a_p0_dNeed, .int i_p0_told, .int i_p0_highest, .ref a_p0_tape, .int i_p0_taped, .int i_p0_pos, .int i_p0_from, .int i_p0_sort, .int i_p0_value, .int i_p0_fault, .int i_p0_wrongAt, .ref a_p0_places, .ref a_p0_stirred, .ref a_p0_ways, .ref a_p0_waysThen, .ref a_p0_stays, .ref a_p0_fewest, .ref a_p0_bowls, .ref a_p0_has, .ref a_p0_goesOn, .ref a_p0_isThere, .ref a_p0_isThereThen, .ref a_p0_bestRow, .ref a_p0_lanes, .ref a_p0_sizes, .ref a_p0_cells, .int i_p0_torn])), (a_p0_bestRow, .inl (G 1, 4, .inl v_p0_bestRow))]) (qcI D G r [(a_p0, .inr (12, [.ref a_p0_st, .ref a_p0_isKept, .int i_p0_seats, .int i_p0_stirs, .ref a_p0_brings, .ref a_p0_need, .ref a_p0_draft, .int i_p0_dSeats, .int i_p0_dStirs, .ref a_p0_dStir, .ref a_p0_dNeed, .int i_p0_told, .int i_p0_highest, .ref a_p0_tape, .int i_p0_taped, .int i_p0_pos, .int i_p0_from, .int i_p0_sort, .int i_p0_value, .int i_p0_fault, .int i_p0_wrongAt, .ref a_p0_places, .ref a_p0_stirred, .ref a_p0_ways, .ref a_p0_waysThen, .ref a_p0_stays, .ref a_p0_fewest, .ref a_p0_bowls, .ref a_p0_has, .ref a_p0_goesOn, .ref a_p0_isThere, .ref a_p0_isThereThen, .ref a_p0_bestRow, .ref a_p0_lanes, .ref a_p0_sizes, .ref a_p0_cells, .int i_p0_torn])), (a_p0_bestRow, .inl (G 1, 4, .inl o_v_p0_bestRow))] (va_A [(a_p0, .inr (12, [.ref a_p0_st, .ref a_p0_isKept, .int i_p0_seats, .int i_p0_stirs, .ref a_p0_brings, .ref a_p0_need, .ref a_p0_draft, .int i_p0_dSeats, .int i_p0_dStirs, .ref a_p0_dStir, .ref a_p0_dNeed, .int i_p0_told, .int i_p0_highest, .ref a_p0_tape, .int i_p0_taped, .int i_p0_pos, .int i_p0_from, .int i_p0_sort, .int i_p0_value, .int i_p0_fault, .int i_p0_wrongAt, .ref a_p0_places, .ref a_p0_stirred, .ref a_p0_ways, .ref a_p0_waysThen, .ref a_p0_stays, .ref a_p0_fewest, .ref a_p0_bowls, .ref a_p0_has, .ref a_p0_goesOn, .ref a_p0_isThere, .ref a_p0_isThereThen, .ref a_p0_bestRow, .ref a_p0_lanes, .ref a_p0_sizes, .ref a_p0_cells, .int i_p0_torn])), (a_p0_bestRow, .inl (G 1, 4, .inl v_p0_bestRow))] sz)) 0 0 (va_A [(a_p0, .inr (12, [.ref a_p0_st, .ref a_p0_isKept, .int i_p0_seats, .int i_p0_stirs, .ref a_p0_brings, .ref a_p0_need, .ref a_p0_draft, .int i_p0_dSeats, .int i_p0_dStirs, .ref a_p0_dStir, .ref a_p0_dNeed, .int i_p0_told, .int i_p0_highest, .ref a_p0_tape, .int i_p0_taped, .int i_p0_pos, .int i_p0_from, .int i_p0_sort, .int i_p0_value, .int i_p0_fault, .int i_p0_wrongAt, .ref a_p0_places, .ref a_p0_stirred, .ref a_p0_ways, .ref a_p0_waysThen, .ref a_p0_stays, .ref a_p0_fewest, .ref a_p0_bowls, .ref a_p0_has, .ref a_p0_goesOn, .ref a_p0_isThere, .ref a_p0_isThereThen, .ref a_p0_bestRow, .ref a_p0_lanes, .ref a_p0_sizes, .ref a_p0_cells, .int i_p0_torn])), (a_p0_bestRow, .inl (G 1, 4, .inl v_p0_bestRow))] sz) := by
  refine Met.ofW (cc := cX12_fair) (maxL := 8) (ret := (some .int)) (by decide) rfl ?_
  intro p e s m args below meth c s₁ B hml hv
  obtain ⟨rfl, hsz, hP, hK, hD0⟩ := hv
  have hx := B.exec
  have hb := B.bytes
  have hr := B.returns
  have hts := atoms_spec (ws := wsX12_fair) B.pre
  have hown : s.vm.findClass RX12 = some m.cls := findClass_of_methodNamed B.named
  have hlocks := B.notSynchronized
  subst hsz
  have hD := hD0.self (sz := s.heap.size)
  generalize hAe : va_A [(a_p0, .inr (12, [.ref a_p0_st, .ref a_p0_isKept, .int i_p0_seats, .int i_p0_stirs, .ref a_p0_brings, .ref a_p0_need, .ref a_p0_draft, .int i_p0_dSeats, .int i_p0_dStirs, .ref a_p0_dStir, .ref a_p0_dNeed, .int i_p0_told, .int i_p0_highest, .ref a_p0_tape, .int i_p0_taped, .int i_p0_pos, .int i_p0_from, .int i_p0_sort, .int i_p0_value, .int i_p0_fault, .int i_p0_wrongAt, .ref a_p0_places, .ref a_p0_stirred, .ref a_p0_ways, .ref a_p0_waysThen, .ref a_p0_stays, .ref a_p0_fewest, .ref a_p0_bowls, .ref a_p0_has, .ref a_p0_goesOn, .ref a_p0_isThere, .ref a_p0_isThereThen, .ref a_p0_bestRow, .ref a_p0_lanes, .ref a_p0_sizes, .ref a_p0_cells, .int i_p0_torn])), (a_p0_bestRow, .inl (G 1, 4, .inl v_p0_bestRow))] s.heap.size = A at hD ⊢
  have hA : ∀ q : Nat, s.heap.size ≤ q → A q := fun q h => by rw [← hAe]; exact Or.inr h
  clear hAe hD0
  have hS : va_S A s.heap s.heap [] := va_S.rf
  have hl := lv_entry ([.ref a_p0, .int x1, .int x2]) (n := 8) (Nat.le_of_ble_eq_true rfl)
  rw [lg_entry_eq]
  generalize (lg_sl ([.ref a_p0, .int x1, .int x2]) ++ List.replicate (8 - (lg_sl ([.ref a_p0, .int x1, .int x2])).length) Slot.unset).toArray = ls at hl ⊢
  have hl : lv_has ls 8 [(0, .ref a_p0), (1, .int x1), (2, .int x2)] := hl
  refine W_nameQ (fun Q hQ => ?_)
  obtain ⟨H, hH⟩ : ∃ H, H = s.heap := ⟨_, rfl⟩
  replace hS : va_S A s.heap H [] := by rw [hH]; exact hS
  replace hP : va_P D vwCl [(a_p0, .inr (12, [.ref a_p0_st, .ref a_p0_isKept, .int i_p0_seats, .int i_p0_stirs, .ref a_p0_brings, .ref a_p0_need, .ref a_p0_draft, .int i_p0_dSeats, .int i_p0_dStirs, .ref a_p0_dStir, .ref a_p0_dNeed, .int i_p0_told, .int i_p0_highest, .ref a_p0_tape, .int i_p0_taped, .int i_p0_pos, .int i_p0_from, .int i_p0_sort, .int i_p0_value, .int i_p0_fault, .int i_p0_wrongAt, .ref a_p0_places, .ref a_p0_stirred, .ref a_p0_ways, .ref a_p0_waysThen, .ref a_p0_stays, .ref a_p0_fewest, .ref a_p0_bowls, .ref a_p0_has, .ref a_p0_goesOn, .ref a_p0_isThere, .ref a_p0_isThereThen, .ref a_p0_bestRow, .ref a_p0_lanes, .ref a_p0_sizes, .ref a_p0_cells, .int i_p0_torn])), (a_p0_bestRow, .inl (G 1, 4, .inl v_p0_bestRow))] H := by rw [hH]; exact hP
  rw [← hH]
  clear hH
  unfold f_X12_fair at hf
  refine lv_iload_n hx hb dX12_fair_0 rfl (lv_at hl 1 rfl) ?_
  refine lv_i2l hx hb dX12_fair_1 rfl ?_
  refine lv_lconst (v := (1 : Int64)) hx hb dX12_fair_2 (by decide) ?_
  refine lv_ldc2 (v := (4 : Int64)) hx hb hown (hts _ mwX12_fair_0) dX12_fair_3 ?_
  have hq := bd1_s hf
  clear hf
  obtain ⟨z1, hcall, hf⟩ := hq
  refine gcI (ws' := [(a_p0, .inr (12, [.ref a_p0_st, .ref a_p0_isKept, .int i_p0_seats, .int i_p0_stirs, .ref a_p0_brings, .ref a_p0_need, .ref a_p0_draft, .int i_p0_dSeats, .int i_p0_dStirs, .ref a_p0_dStir, .ref a_p0_dNeed, .int i_p0_told, .int i_p0_highest, .ref a_p0_tape, .int i_p0_taped, .int i_p0_pos, .int i_p0_from, .int i_p0_sort, .int i_p0_value, .int i_p0_fault, .int i_p0_wrongAt, .ref a_p0_places, .ref a_p0_stirred, .ref a_p0_ways, .ref a_p0_waysThen, .ref a_p0_stays, .ref a_p0_fewest, .ref a_p0_bowls, .ref a_p0_has, .ref a_p0_goesOn, .ref a_p0_isThere, .ref a_p0_isThereThen, .ref a_p0_bestRow, .ref a_p0_lanes, .ref a_p0_sizes, .ref a_p0_cells, .int i_p0_torn])), (a_p0_bestRow, .inl (G 1, 4, .inl v_p0_bestRow))]) (va_runS (As := [.long (x1).toInt64, .long (1 : Int64), .long (4 : Int64)]) (rest := []) ⟨hx, hb, hml, hown, hts⟩ (c_X12_in (l := l) (D := D) (G := G) (sz := H.size) (x0 := (x1).toInt64) (x2 := (1 : Int64)) (x4 := (4 : Int64)) (r := z1) (hf := hcall)) (va_cwS 3 hts gX12_fair_X12_in rfl rfl rfl (by decide +kernel) ⟨Nat.le_of_ble_eq_true rfl, Nat.le_of_ble_eq_true rfl⟩) (preG_S (hP.sub [] rfl) (hD.sub [] rfl rfl) hK) rfl rfl hl.1 rfl (lv_room (Nat.le_of_ble_eq_true rfl)) dX12_fair_6 ⟨Nat.le_of_ble_eq_true rfl, Nat.le_of_ble_eq_true rfl⟩) hP hD hS hA [] [0, 1] [0, 1] rfl rfl rfl (by decide) rfl rfl rfl (fun H locs hP hD hS => ?_)
  clear hcall
  refine lv_if_eq (tgt := 30) hx hb dX12_fair_9 (by decide) (fun cc => ?_) (fun cc => ?_)
  ·
    replace hf := ite_t cc hf
    clear cc
    refine lv_iconst (v := (-1 : Int32)) hx hb dX12_fair_30 (by decide) ?_
    obtain ⟨rfl, rfl⟩ := ou2 hf
    rw [hQ]
    exact W.iret hx hb hr (fun t ht hW => ⟨⟨_, (), rfl, rfl, by rw [ht]; exact hP, va_K.moved hW.alike hK, hD⟩, hS.F ht⟩) hS.2.2 dX12_fair_31
  ·
    replace hf := ite_f cc hf
    clear cc
    refine lv_iload_n hx hb dX12_fair_12 rfl (lv_at hl 2 rfl) ?_
    have hq := jn_i hf
    clear hf
    obtain ⟨J2, eJ2, hf⟩ := hq
    have hJ2 : ∀  (ls : Array Slot) (H : Heap) (locs : List Loc), lv_has ls 8 [(0, .ref a_p0), (1, .int x1), (2, .int x2)] → va_P D vwCl [(a_p0, .inr (12, [.ref a_p0_st, .ref a_p0_isKept, .int i_p0_seats, .int i_p0_stirs, .ref a_p0_brings, .ref a_p0_need, .ref a_p0_draft, .int i_p0_dSeats, .int i_p0_dStirs, .ref a_p0_dStir, .ref a_p0_dNeed, .int i_p0_told, .int i_p0_highest, .ref a_p0_tape, .int i_p0_taped, .int i_p0_pos, .int i_p0_from, .int i_p0_sort, .int i_p0_value, .int i_p0_fault, .int i_p0_wrongAt, .ref a_p0_places, .ref a_p0_stirred, .ref a_p0_ways, .ref a_p0_waysThen, .ref a_p0_stays, .ref a_p0_fewest, .ref a_p0_bowls, .ref a_p0_has, .ref a_p0_goesOn, .ref a_p0_isThere, .ref a_p0_isThereThen, .ref a_p0_bestRow, .ref a_p0_lanes, .ref a_p0_sizes, .ref a_p0_cells, .int i_p0_torn])), (a_p0_bestRow, .inl (G 1, 4, .inl v_p0_bestRow))] H → va_D A [(a_p0, .inr (12, [.ref a_p0_st, .ref a_p0_isKept, .int i_p0_seats, .int i_p0_stirs, .ref a_p0_brings, .ref a_p0_need, .ref a_p0_draft, .int i_p0_dSeats, .int i_p0_dStirs, .ref a_p0_dStir, .ref a_p0_dNeed, .int i_p0_told, .int i_p0_highest, .ref a_p0_tape, .int i_p0_taped, .int i_p0_pos, .int i_p0_from, .int i_p0_sort, .int i_p0_value, .int i_p0_fault, .int i_p0_wrongAt, .ref a_p0_places, .ref a_p0_stirred, .ref a_p0_ways, .ref a_p0_waysThen, .ref a_p0_stays, .ref a_p0_fewest, .ref a_p0_bowls, .ref a_p0_has, .ref a_p0_goesOn, .ref a_p0_isThere, .ref a_p0_isThereThen, .ref a_p0_bestRow, .ref a_p0_lanes, .ref a_p0_sizes, .ref a_p0_cells, .int i_p0_torn])), (a_p0_bestRow, .inl (G 1, 4, .inl v_p0_bestRow))] → va_S A s.heap H locs → J2  = some (r, o_v_p0_bestRow) → W p l e rm_X12_fair s m ([.ref a_p0, .int x1, .int x2] : List Value).toArray below meth c H locs 0 0 Q (F0 m 32 ls []) := by
      clear hf hl hP hD hS
      intro  ls H locs hl hP hD hS hf
      replace hf := jn0_s eJ2 hf
      refine lv_aload_n hx hb dX12_fair_32 rfl (lv_at hl 0 rfl) ?_
      refine va_get (D := D) (ci := 12) (v := .int i_p0_stirs) (C := RX12) (T := TX12) (N := 37) hx hb hts inX12_fair_X12 hown hK hP 0 rfl rfl 3 (by decide) (hts _ mwX12_fair_2) (fun _ h9 => h9) rfl dX12_fair_33 ?_
      refine lv_if_ne (tgt := 42) hx hb dX12_fair_36 (by decide) (fun cc => ?_) (fun cc => ?_)
      ·
        replace hf := ite_f cc hf
        clear cc
        refine lv_iload_n hx hb dX12_fair_42 rfl (lv_at hl 2 rfl) ?_
        refine lv_bipush (v := (10 : Int32)) hx hb dX12_fair_43 (by decide) ?_
        refine lv_isub hx hb dX12_fair_45 ?_
        refine lv_iload_n hx hb dX12_fair_46 rfl (lv_at hl 1 rfl) ?_
        refine lv_icmp_lt (tgt := 53) hx hb dX12_fair_47 (by decide) (fun cc => ?_) (fun cc => ?_)
        ·
          replace hf := ite_t cc hf
          clear cc
          refine lv_aload_n hx hb dX12_fair_53 rfl (lv_at hl 0 rfl) ?_
          refine lv_aload_n hx hb dX12_fair_54 rfl (lv_at hl 0 rfl) ?_
          refine va_get (D := D) (ci := 12) (v := .int i_p0_stirs) (C := RX12) (T := TX12) (N := 37) hx hb hts inX12_fair_X12 hown hK hP 0 rfl rfl 3 (by decide) (hts _ mwX12_fair_2) (fun _ h9 => h9) rfl dX12_fair_55 ?_
          refine lv_i2l hx hb dX12_fair_58 rfl ?_
          refine lv_iload_n hx hb dX12_fair_59 rfl (lv_at hl 1 rfl) ?_
          have hq := bd1_s hf
          clear hf
          obtain ⟨z3, hcall, hf⟩ := hq
          refine gcL (ws' := [(a_p0, .inr (12, [.ref a_p0_st, .ref a_p0_isKept, .int i_p0_seats, .int i_p0_stirs, .ref a_p0_brings, .ref a_p0_need, .ref a_p0_draft, .int i_p0_dSeats, .int i_p0_dStirs, .ref a_p0_dStir, .ref a_p0_dNeed, .int i_p0_told, .int i_p0_highest, .ref a_p0_tape, .int i_p0_taped, .int i_p0_pos, .int i_p0_from, .int i_p0_sort, .int i_p0_value, .int i_p0_fault, .int i_p0_wrongAt, .ref a_p0_places, .ref a_p0_stirred, .ref a_p0_ways, .ref a_p0_waysThen, .ref a_p0_stays, .ref a_p0_fewest, .ref a_p0_bowls, .ref a_p0_has, .ref a_p0_goesOn, .ref a_p0_isThere, .ref a_p0_isThereThen, .ref a_p0_bestRow, .ref a_p0_lanes, .ref a_p0_sizes, .ref a_p0_cells, .int i_p0_torn])), (a_p0_bestRow, .inl (G 1, 4, .inl v_p0_bestRow))]) (va_runV (As := [.long (i_p0_stirs).toInt64, .int x1]) (rest := []) ⟨hx, hb, hml, hown, hts⟩ (c_X12_power (l := l) (D := D) (G := G) (sz := H.size) (a_p0 := a_p0) (a_p0_st := a_p0_st) (a_p0_isKept := a_p0_isKept) (a_p0_brings := a_p0_brings) (a_p0_need := a_p0_need) (a_p0_draft := a_p0_draft) (a_p0_dStir := a_p0_dStir) (a_p0_dNeed := a_p0_dNeed) (a_p0_tape := a_p0_tape) (a_p0_places := a_p0_places) (a_p0_stirred := a_p0_stirred) (a_p0_ways := a_p0_ways) (a_p0_waysThen := a_p0_waysThen) (a_p0_stays := a_p0_stays) (a_p0_fewest := a_p0_fewest) (a_p0_bowls := a_p0_bowls) (a_p0_has := a_p0_has) (a_p0_goesOn := a_p0_goesOn) (a_p0_isThere := a_p0_isThere) (a_p0_isThereThen := a_p0_isThereThen) (a_p0_bestRow := a_p0_bestRow) (a_p0_lanes := a_p0_lanes) (a_p0_sizes := a_p0_sizes) (a_p0_cells := a_p0_cells) (i_p0_seats := i_p0_seats) (i_p0_stirs := i_p0_stirs) (i_p0_dSeats := i_p0_dSeats) (i_p0_dStirs := i_p0_dStirs) (i_p0_told := i_p0_told) (i_p0_highest := i_p0_highest) (i_p0_taped := i_p0_taped) (i_p0_pos := i_p0_pos) (i_p0_from := i_p0_from) (i_p0_sort := i_p0_sort) (i_p0_value := i_p0_value) (i_p0_fault := i_p0_fault) (i_p0_wrongAt := i_p0_wrongAt) (i_p0_torn := i_p0_torn) (x1 := (i_p0_stirs).toInt64) (x3 := x1) (r := z3) (hf := hcall)) (cwV 2 hts gX12_fair_X12_power rfl rfl rfl (by decide +kernel) ⟨Nat.le_of_ble_eq_true rfl, Nat.le_of_ble_eq_true rfl⟩) (preG_V (ci := 12) (hP.sub [0] rfl) (hD.sub [0] rfl rfl) hK rfl rfl) rfl rfl hl.1 rfl (lv_room (Nat.le_of_ble_eq_true rfl)) dX12_fair_60 ⟨Nat.le_of_ble_eq_true rfl, Nat.le_of_ble_eq_true rfl⟩) hP hD hS hA [0] [1] [1, 0] rfl rfl rfl (by decide) rfl rfl rfl (fun H locs hP hD hS => ?_)
          clear hcall
          refine lv_l2i hx hb dX12_fair_63 rfl ?_
          refine lv_topi (fun z4 ez => ?_)
          replace hf := bnd_s hf ez
          clear ez
          refine lv_istore_n (lv' := [(3, .int z4), (0, .ref a_p0), (1, .int x1), (2, .int x2)]) hx hb dX12_fair_64 rfl hl (by decide) rfl (fun ls hl => ?_)
          refine lv_iconst (v := (0 : Int32)) hx hb dX12_fair_65 (by decide) ?_
          refine lv_topi (fun z5 ez => ?_)
          replace hf := bnd_s hf ez
          clear ez
          refine lv_istore (lv' := [(4, .int z5), (3, .int z4), (0, .ref a_p0), (1, .int x1), (2, .int x2)]) hx hb dX12_fair_66 hl (by decide) rfl (fun ls hl => ?_)
          refine lv_ldcw (v := (1000000 : Int32)) hx hb hown (hts _ mwX12_fair_3) dX12_fair_68 ?_
          refine lv_topi (fun z6 ez => ?_)
          replace hf := bnd_s hf ez
          clear ez
          refine lv_istore (lv' := [(5, .int z6), (4, .int z5), (3, .int z4), (0, .ref a_p0), (1, .int x1), (2, .int x2)]) hx hb dX12_fair_71 hl (by decide) rfl (fun ls hl => ?_)
          refine lv_iconst (v := (0 : Int32)) hx hb dX12_fair_73 (by decide) ?_
          refine lv_topi (fun z7 ez => ?_)
          replace hf := bnd_s hf ez
          clear ez
          refine lv_istore (lv' := [(6, .int z7), (5, .int z6), (4, .int z5), (3, .int z4), (0, .ref a_p0), (1, .int x1), (2, .int x2)]) hx hb dX12_fair_74 hl (by decide) rfl (fun ls hl => ?_)
          have hq := jn_i hf
          clear hf
          obtain ⟨J10, eJ10, hf⟩ := hq
          have hJ10 : ∀ (z8 : Int32) (z9 : Int32) (ls : Array Slot) (H : Heap) (locs : List Loc), lv_has ls 8 [(5, .int z9), (4, .int z8), (0, .ref a_p0), (1, .int x1), (2, .int x2)] → va_P D vwCl [(a_p0, .inr (12, [.ref a_p0_st, .ref a_p0_isKept, .int i_p0_seats, .int i_p0_stirs, .ref a_p0_brings, .ref a_p0_need, .ref a_p0_draft, .int i_p0_dSeats, .int i_p0_dStirs, .ref a_p0_dStir, .ref a_p0_dNeed, .int i_p0_told, .int i_p0_highest, .ref a_p0_tape, .int i_p0_taped, .int i_p0_pos, .int i_p0_from, .int i_p0_sort, .int i_p0_value, .int i_p0_fault, .int i_p0_wrongAt, .ref a_p0_places, .ref a_p0_stirred, .ref a_p0_ways, .ref a_p0_waysThen, .ref a_p0_stays, .ref a_p0_fewest, .ref a_p0_bowls, .ref a_p0_has, .ref a_p0_goesOn, .ref a_p0_isThere, .ref a_p0_isThereThen, .ref a_p0_bestRow, .ref a_p0_lanes, .ref a_p0_sizes, .ref a_p0_cells, .int i_p0_torn])), (a_p0_bestRow, .inl (G 1, 4, .inl v_p0_bestRow))] H → va_D A [(a_p0, .inr (12, [.ref a_p0_st, .ref a_p0_isKept, .int i_p0_seats, .int i_p0_stirs, .ref a_p0_brings, .ref a_p0_need, .ref a_p0_draft, .int i_p0_dSeats, .int i_p0_dStirs, .ref a_p0_dStir, .ref a_p0_dNeed, .int i_p0_told, .int i_p0_highest, .ref a_p0_tape, .int i_p0_taped, .int i_p0_pos, .int i_p0_from, .int i_p0_sort, .int i_p0_value, .int i_p0_fault, .int i_p0_wrongAt, .ref a_p0_places, .ref a_p0_stirred, .ref a_p0_ways, .ref a_p0_waysThen, .ref a_p0_stays, .ref a_p0_fewest, .ref a_p0_bowls, .ref a_p0_has, .ref a_p0_goesOn, .ref a_p0_isThere, .ref a_p0_isThereThen, .ref a_p0_bestRow, .ref a_p0_lanes, .ref a_p0_sizes, .ref a_p0_cells, .int i_p0_torn])), (a_p0_bestRow, .inl (G 1, 4, .inl v_p0_bestRow))] → va_S A s.heap H locs → J10 z8 z9 = some (r, o_v_p0_bestRow) → W p l e rm_X12_fair s m ([.ref a_p0, .int x1, .int x2] : List Value).toArray below meth c H locs 0 0 Q (F0 m 129 ls []) := by
            clear hf hl hP hD hS
            intro z8 z9 ls H locs hl hP hD hS hf
            replace hf := jn2_s eJ10 hf
            refine lv_iload_n hx hb dX12_fair_129 rfl (lv_at hl 3 rfl) ?_
            refine lv_iconst (v := (1 : Int32)) hx hb dX12_fair_130 (by decide) ?_
            refine lv_isub hx hb dX12_fair_131 ?_
            refine lv_topi (fun z11 ez => ?_)
            replace hf := bnd_s hf ez
            clear ez
            refine lv_istore (lv' := [(6, .int z11), (5, .int z9), (4, .int z8), (0, .ref a_p0), (1, .int x1), (2, .int x2)]) hx hb dX12_fair_132 hl (by decide) rfl (fun ls hl => ?_)
            have hq := jn_i hf
            clear hf
            obtain ⟨J13, eJ13, hf⟩ := hq
            have hJ13 : ∀ (w12 : (Nat → Int32)) (ls : Array Slot) (H : Heap) (locs : List Loc), lv_has ls 8 [(5, .int z9), (0, .ref a_p0), (2, .int x2)] → va_P D vwCl [(a_p0, .inr (12, [.ref a_p0_st, .ref a_p0_isKept, .int i_p0_seats, .int i_p0_stirs, .ref a_p0_brings, .ref a_p0_need, .ref a_p0_draft, .int i_p0_dSeats, .int i_p0_dStirs, .ref a_p0_dStir, .ref a_p0_dNeed, .int i_p0_told, .int i_p0_highest, .ref a_p0_tape, .int i_p0_taped, .int i_p0_pos, .int i_p0_from, .int i_p0_sort, .int i_p0_value, .int i_p0_fault, .int i_p0_wrongAt, .ref a_p0_places, .ref a_p0_stirred, .ref a_p0_ways, .ref a_p0_waysThen, .ref a_p0_stays, .ref a_p0_fewest, .ref a_p0_bowls, .ref a_p0_has, .ref a_p0_goesOn, .ref a_p0_isThere, .ref a_p0_isThereThen, .ref a_p0_bestRow, .ref a_p0_lanes, .ref a_p0_sizes, .ref a_p0_cells, .int i_p0_torn])), (a_p0_bestRow, .inl (G 1, 4, .inl w12))] H → va_D A [(a_p0, .inr (12, [.ref a_p0_st, .ref a_p0_isKept, .int i_p0_seats, .int i_p0_stirs, .ref a_p0_brings, .ref a_p0_need, .ref a_p0_draft, .int i_p0_dSeats, .int i_p0_dStirs, .ref a_p0_dStir, .ref a_p0_dNeed, .int i_p0_told, .int i_p0_highest, .ref a_p0_tape, .int i_p0_taped, .int i_p0_pos, .int i_p0_from, .int i_p0_sort, .int i_p0_value, .int i_p0_fault, .int i_p0_wrongAt, .ref a_p0_places, .ref a_p0_stirred, .ref a_p0_ways, .ref a_p0_waysThen, .ref a_p0_stays, .ref a_p0_fewest, .ref a_p0_bowls, .ref a_p0_has, .ref a_p0_goesOn, .ref a_p0_isThere, .ref a_p0_isThereThen, .ref a_p0_bestRow, .ref a_p0_lanes, .ref a_p0_sizes, .ref a_p0_cells, .int i_p0_torn])), (a_p0_bestRow, .inl (G 1, 4, .inl w12))] → va_S A s.heap H locs → J13 w12 = some (r, o_v_p0_bestRow) → W p l e rm_X12_fair s m ([.ref a_p0, .int x1, .int x2] : List Value).toArray below meth c H locs 0 0 Q (F0 m 168 ls []) := by
              clear hf hl hP hD hS
              intro w12 ls H locs hl hP hD hS hf
              replace hf := jn1_s eJ13 hf
              refine lv_iload_n hx hb dX12_fair_168 rfl (lv_at hl 2 rfl) ?_
              refine lv_if_ne (tgt := 177) hx hb dX12_fair_169 (by decide) (fun cc => ?_) (fun cc => ?_)
              ·
                replace hf := ite_f cc hf
                clear cc
                refine lv_aload_n hx hb dX12_fair_177 rfl (lv_at hl 1 rfl) ?_
                refine va_get (D := D) (ci := 12) (v := .ref a_p0_bestRow) (C := RX12) (T := TX12) (N := 37) hx hb hts inX12_fair_X12 hown hK hP 0 rfl rfl 32 (by decide) (hts _ mwX12_fair_4) (fun _ h9 => h9) rfl dX12_fair_178 ?_
                refine lv_iload_n hx hb dX12_fair_181 rfl (lv_at hl 2 rfl) ?_
                refine lv_bipush (v := (10 : Int32)) hx hb dX12_fair_182 (by decide) ?_
                refine lv_isub hx hb dX12_fair_184 ?_
                have hc := ck_c hf
                replace hf := ck_r hf
                refine va_iald hx hb hK hP 1 1 rfl rfl (ixB_in hc) dX12_fair_185 ?_
                clear hc
                obtain ⟨rfl, rfl⟩ := ou2 hf
                rw [hQ]
                exact W.iret hx hb hr (fun t ht hW => ⟨⟨_, (), rfl, rfl, by rw [ht]; exact hP, va_K.moved hW.alike hK, hD⟩, hS.F ht⟩) hS.2.2 dX12_fair_186
              ·
                replace hf := ite_t cc hf
                clear cc
                refine lv_iload hx hb dX12_fair_172 (lv_at hl 0 rfl) ?_
                refine lv_goto (tgt := 186) hx hb dX12_fair_174 (by decide) ?_
                obtain ⟨rfl, rfl⟩ := ou2 hf
                rw [hQ]
                exact W.iret hx hb hr (fun t ht hW => ⟨⟨_, (), rfl, rfl, by rw [ht]; exact hP, va_K.moved hW.alike hK, hD⟩, hS.F ht⟩) hS.2.2 dX12_fair_186
            have hq := lq3_i hf
            clear hf
            obtain ⟨B17, eB17, NB17, hf⟩ := hq
            have hB17 : ∀ (n : Nat) (z14 : Int32) (z15 : Int32) (w16 : (Nat → Int32)) (ls : Array Slot) (H : Heap) (locs : List Loc), lv_has ls 8 [(6, .int z14), (5, .int z9), (4, .int z15), (0, .ref a_p0), (2, .int x2)] → va_P D vwCl [(a_p0, .inr (12, [.ref a_p0_st, .ref a_p0_isKept, .int i_p0_seats, .int i_p0_stirs, .ref a_p0_brings, .ref a_p0_need, .ref a_p0_draft, .int i_p0_dSeats, .int i_p0_dStirs, .ref a_p0_dStir, .ref a_p0_dNeed, .int i_p0_told, .int i_p0_highest, .ref a_p0_tape, .int i_p0_taped, .int i_p0_pos, .int i_p0_from, .int i_p0_sort, .int i_p0_value, .int i_p0_fault, .int i_p0_wrongAt, .ref a_p0_places, .ref a_p0_stirred, .ref a_p0_ways, .ref a_p0_waysThen, .ref a_p0_stays, .ref a_p0_fewest, .ref a_p0_bowls, .ref a_p0_has, .ref a_p0_goesOn, .ref a_p0_isThere, .ref a_p0_isThereThen, .ref a_p0_bestRow, .ref a_p0_lanes, .ref a_p0_sizes, .ref a_p0_cells, .int i_p0_torn])), (a_p0_bestRow, .inl (G 1, 4, .inl w16))] H → va_D A [(a_p0, .inr (12, [.ref a_p0_st, .ref a_p0_isKept, .int i_p0_seats, .int i_p0_stirs, .ref a_p0_brings, .ref a_p0_need, .ref a_p0_draft, .int i_p0_dSeats, .int i_p0_dStirs, .ref a_p0_dStir, .ref a_p0_dNeed, .int i_p0_told, .int i_p0_highest, .ref a_p0_tape, .int i_p0_taped, .int i_p0_pos, .int i_p0_from, .int i_p0_sort, .int i_p0_value, .int i_p0_fault, .int i_p0_wrongAt, .ref a_p0_places, .ref a_p0_stirred, .ref a_p0_ways, .ref a_p0_waysThen, .ref a_p0_stays, .ref a_p0_fewest, .ref a_p0_bowls, .ref a_p0_has, .ref a_p0_goesOn, .ref a_p0_isThere, .ref a_p0_isThereThen, .ref a_p0_bestRow, .ref a_p0_lanes, .ref a_p0_sizes, .ref a_p0_cells, .int i_p0_torn])), (a_p0_bestRow, .inl (G 1, 4, .inl w16))] → va_S A s.heap H locs → lq3 B17 n z14 z15 w16 = some (r, o_v_p0_bestRow) → W p l e rm_X12_fair s m ([.ref a_p0, .int x1, .int x2] : List Value).toArray below meth c H locs 0 0 Q (F0 m 134 ls []) := by
              clear hf hl hP hD hS
              intro n
              induction n with
              | zero =>
                intro z14 z15 w16 ls H locs hl hP hD hS hf
                exact (lq3_0 hf).elim
              | succ n ih134 =>
                intro z14 z15 w16 ls H locs hl hP hD hS hf
                replace hf := lq3_s eB17 hf
                unfold B_X12_fair_134 at hf
                refine lv_iload hx hb dX12_fair_134 (lv_at hl 0 rfl) ?_
                refine lv_if_lt (tgt := 168) hx hb dX12_fair_136 (by decide) (fun cc => ?_) (fun cc => ?_)
                ·
                  replace hf := ite_t cc hf
                  clear cc
                  exact hJ13 _ _ _ _ (lv_sub hl [1, 3, 4] rfl) hP hD hS hf
                ·
                  replace hf := ite_f cc hf
                  clear cc
                  refine lv_aload_n hx hb dX12_fair_139 rfl (lv_at hl 3 rfl) ?_
                  refine va_get (D := D) (ci := 12) (v := .ref a_p0_bestRow) (C := RX12) (T := TX12) (N := 37) hx hb hts inX12_fair_X12 hown hK hP 0 rfl rfl 32 (by decide) (hts _ mwX12_fair_4) (fun _ h9 => h9) rfl dX12_fair_140 ?_
                  refine lv_iload hx hb dX12_fair_143 (lv_at hl 0 rfl) ?_
                  refine lv_iload hx hb dX12_fair_145 (lv_at hl 2 rfl) ?_
                  refine lv_aload_n hx hb dX12_fair_147 rfl (lv_at hl 3 rfl) ?_
                  refine va_get (D := D) (ci := 12) (v := .int i_p0_stirs) (C := RX12) (T := TX12) (N := 37) hx hb hts inX12_fair_X12 hown hK hP 0 rfl rfl 3 (by decide) (hts _ mwX12_fair_2) (fun _ h9 => h9) rfl dX12_fair_148 ?_
                  have hc := ck_c hf
                  replace hf := ck_r hf
                  refine lv_irem hx hb dX12_fair_151 (nzI_ne hc) ?_
                  clear hc
                  have hc := ck_c hf
                  replace hf := ck_r hf
                  refine gs_iast (wf := fun w18 => [(a_p0, .inr (12, [.ref a_p0_st, .ref a_p0_isKept, .int i_p0_seats, .int i_p0_stirs, .ref a_p0_brings, .ref a_p0_need, .ref a_p0_draft, .int i_p0_dSeats, .int i_p0_dStirs, .ref a_p0_dStir, .ref a_p0_dNeed, .int i_p0_told, .int i_p0_highest, .ref a_p0_tape, .int i_p0_taped, .int i_p0_pos, .int i_p0_from, .int i_p0_sort, .int i_p0_value, .int i_p0_fault, .int i_p0_wrongAt, .ref a_p0_places, .ref a_p0_stirred, .ref a_p0_ways, .ref a_p0_waysThen, .ref a_p0_stays, .ref a_p0_fewest, .ref a_p0_bowls, .ref a_p0_has, .ref a_p0_goesOn, .ref a_p0_isThere, .ref a_p0_isThereThen, .ref a_p0_bestRow, .ref a_p0_lanes, .ref a_p0_sizes, .ref a_p0_cells, .int i_p0_torn])), (a_p0_bestRow, .inl (G 1, 4, .inl w18))]) hx hb hK hP hD hS 1 1 rfl rfl (ixB_in hc) dX12_fair_152 (fun _ => rfl) (fun w18 ez H locs hP hD hS => ?_)
                  replace hf := bnd_s hf ez
                  clear ez hc
                  refine lv_iload hx hb dX12_fair_153 (lv_at hl 2 rfl) ?_
                  refine lv_aload_n hx hb dX12_fair_155 rfl (lv_at hl 3 rfl) ?_
                  refine va_get (D := D) (ci := 12) (v := .int i_p0_stirs) (C := RX12) (T := TX12) (N := 37) hx hb hts inX12_fair_X12 hown hK hP 0 rfl rfl 3 (by decide) (hts _ mwX12_fair_2) (fun _ h9 => h9) rfl dX12_fair_156 ?_
                  have hc := ck_c hf
                  replace hf := ck_r hf
                  refine lv_idiv hx hb dX12_fair_159 (nzI_ne hc) ?_
                  clear hc
                  refine lv_topi (fun z19 ez => ?_)
                  replace hf := bnd_s hf ez
                  clear ez
                  refine lv_istore (lv' := [(4, .int z19), (6, .int z14), (5, .int z9), (0, .ref a_p0), (2, .int x2)]) hx hb dX12_fair_160 hl (by decide) rfl (fun ls hl => ?_)
                  obtain ⟨z20, ez⟩ : ∃ y : Int32, y = (z14 + (-1 : Int32)) := ⟨_, rfl⟩
                  replace hf := bnd_s hf ez
                  refine lv_iinc (v := z20) (lv' := [(6, .int z20), (4, .int z19), (5, .int z9), (0, .ref a_p0), (2, .int x2)]) hx hb dX12_fair_162 hl (k := 1) rfl (by rw [ez]; rfl) (by decide) rfl (fun ls hl => ?_)
                  clear ez
                  refine lv_goto (tgt := 134) hx hb dX12_fair_165 (by decide) ?_
                  exact ih134 _ _ _ _ _ _ (lv_sub hl [0, 2, 1, 3, 4] rfl) hP hD hS hf
            exact hB17 _ _ _ _ _ _ _ (lv_sub hl [0, 1, 2, 3, 5] rfl) hP hD hS hf
          have hq := lq3_i hf
          clear hf
          obtain ⟨B24, eB24, NB24, hf⟩ := hq
          have hB24 : ∀ (n : Nat) (z21 : Int32) (z22 : Int32) (z23 : Int32) (ls : Array Slot) (H : Heap) (locs : List Loc), lv_has ls 8 [(6, .int z21), (5, .int z22), (4, .int z23), (3, .int z4), (0, .ref a_p0), (1, .int x1), (2, .int x2)] → va_P D vwCl [(a_p0, .inr (12, [.ref a_p0_st, .ref a_p0_isKept, .int i_p0_seats, .int i_p0_stirs, .ref a_p0_brings, .ref a_p0_need, .ref a_p0_draft, .int i_p0_dSeats, .int i_p0_dStirs, .ref a_p0_dStir, .ref a_p0_dNeed, .int i_p0_told, .int i_p0_highest, .ref a_p0_tape, .int i_p0_taped, .int i_p0_pos, .int i_p0_from, .int i_p0_sort, .int i_p0_value, .int i_p0_fault, .int i_p0_wrongAt, .ref a_p0_places, .ref a_p0_stirred, .ref a_p0_ways, .ref a_p0_waysThen, .ref a_p0_stays, .ref a_p0_fewest, .ref a_p0_bowls, .ref a_p0_has, .ref a_p0_goesOn, .ref a_p0_isThere, .ref a_p0_isThereThen, .ref a_p0_bestRow, .ref a_p0_lanes, .ref a_p0_sizes, .ref a_p0_cells, .int i_p0_torn])), (a_p0_bestRow, .inl (G 1, 4, .inl v_p0_bestRow))] H → va_D A [(a_p0, .inr (12, [.ref a_p0_st, .ref a_p0_isKept, .int i_p0_seats, .int i_p0_stirs, .ref a_p0_brings, .ref a_p0_need, .ref a_p0_draft, .int i_p0_dSeats, .int i_p0_dStirs, .ref a_p0_dStir, .ref a_p0_dNeed, .int i_p0_told, .int i_p0_highest, .ref a_p0_tape, .int i_p0_taped, .int i_p0_pos, .int i_p0_from, .int i_p0_sort, .int i_p0_value, .int i_p0_fault, .int i_p0_wrongAt, .ref a_p0_places, .ref a_p0_stirred, .ref a_p0_ways, .ref a_p0_waysThen, .ref a_p0_stays, .ref a_p0_fewest, .ref a_p0_bowls, .ref a_p0_has, .ref a_p0_goesOn, .ref a_p0_isThere, .ref a_p0_isThereThen, .ref a_p0_bestRow, .ref a_p0_lanes, .ref a_p0_sizes, .ref a_p0_cells, .int i_p0_torn])), (a_p0_bestRow, .inl (G 1, 4, .inl v_p0_bestRow))] → va_S A s.heap H locs → lq3 B24 n z21 z22 z23 = some (r, o_v_p0_bestRow) → W p l e rm_X12_fair s m ([.ref a_p0, .int x1, .int x2] : List Value).toArray below meth c H locs 0 0 Q (F0 m 76 ls []) := by
            clear hf hl hP hD hS
            intro n
            induction n with
            | zero =>
              intro z21 z22 z23 ls H locs hl hP hD hS hf
              exact (lq3_0 hf).elim
            | succ n ih76 =>
              intro z21 z22 z23 ls H locs hl hP hD hS hf
              replace hf := lq3_s eB24 hf
              unfold B_X12_fair_76 at hf
              refine lv_iload hx hb dX12_fair_76 (lv_at hl 0 rfl) ?_
              refine lv_iload_n hx hb dX12_fair_78 rfl (lv_at hl 3 rfl) ?_
              refine lv_icmp_ge (tgt := 129) hx hb dX12_fair_79 (by decide) (fun cc => ?_) (fun cc => ?_)
              ·
                replace hf := ite_t cc hf
                clear cc
                exact hJ10 _ _ _ _ _ (lv_sub hl [1, 2, 4, 5, 6] rfl) hP hD hS hf
              ·
                replace hf := ite_f cc hf
                clear cc
                refine lv_aload_n hx hb dX12_fair_82 rfl (lv_at hl 4 rfl) ?_
                refine lv_iload hx hb dX12_fair_83 (lv_at hl 0 rfl) ?_
                refine lv_iload_n hx hb dX12_fair_85 rfl (lv_at hl 5 rfl) ?_
                cases hf
          exact hB24 _ _ _ _ _ _ _ (lv_sub hl [0, 1, 2, 3, 4, 5, 6] rfl) hP hD hS hf
        ·
          replace hf := ite_f cc hf
          clear cc
          refine lv_bipush (v := (-4 : Int32)) hx hb dX12_fair_50 (by decide) ?_
          obtain ⟨rfl, rfl⟩ := ou2 hf
          rw [hQ]
          exact W.iret hx hb hr (fun t ht hW => ⟨⟨_, (), rfl, rfl, by rw [ht]; exact hP, va_K.moved hW.alike hK, hD⟩, hS.F ht⟩) hS.2.2 dX12_fair_52
      ·
        replace hf := ite_t cc hf
        clear cc
        refine lv_bipush (v := (-2 : Int32)) hx hb dX12_fair_39 (by decide) ?_
        obtain ⟨rfl, rfl⟩ := ou2 hf
        rw [hQ]
        exact W.iret hx hb hr (fun t ht hW => ⟨⟨_, (), rfl, rfl, by rw [ht]; exact hP, va_K.moved hW.alike hK, hD⟩, hS.F ht⟩) hS.2.2 dX12_fair_41
    refine lv_if_eq (tgt := 32) hx hb dX12_fair_13 (by decide) (fun cc => ?_) (fun cc => ?_)
    ·
      replace hf := ite_t cc hf
      clear cc
      exact hJ2  _ _ _ (lv_sub hl [0, 1, 2] rfl) hP hD hS hf
    ·
      replace hf := ite_f cc hf
      clear cc
      refine lv_iload_n hx hb dX12_fair_16 rfl (lv_at hl 2 rfl) ?_
      refine lv_i2l hx hb dX12_fair_17 rfl ?_
      refine lv_ldc2 (v := (10 : Int64)) hx hb hown (hts _ mwX12_fair_5) dX12_fair_18 ?_
      refine lv_ldc2 (v := (13 : Int64)) hx hb hown (hts _ mwX12_fair_6) dX12_fair_21 ?_
      have hq := bd1_s hf
      clear hf
      obtain ⟨z25, hcall, hf⟩ := hq
      refine gcI (ws' := [(a_p0, .inr (12, [.ref a_p0_st, .ref a_p0_isKept, .int i_p0_seats, .int i_p0_stirs, .ref a_p0_brings, .ref a_p0_need, .ref a_p0_draft, .int i_p0_dSeats, .int i_p0_dStirs, .ref a_p0_dStir, .ref a_p0_dNeed, .int i_p0_told, .int i_p0_highest, .ref a_p0_tape, .int i_p0_taped, .int i_p0_pos, .int i_p0_from, .int i_p0_sort, .int i_p0_value, .int i_p0_fault, .int i_p0_wrongAt, .ref a_p0_places, .ref a_p0_stirred, .ref a_p0_ways, .ref a_p0_waysThen, .ref a_p0_stays, .ref a_p0_fewest, .ref a_p0_bowls, .ref a_p0_has, .ref a_p0_goesOn, .ref a_p0_isThere, .ref a_p0_isThereThen, .ref a_p0_bestRow, .ref a_p0_lanes, .ref a_p0_sizes, .ref a_p0_cells, .int i_p0_torn])), (a_p0_bestRow, .inl (G 1, 4, .inl v_p0_bestRow))]) (va_runS (As := [.long (x2).toInt64, .long (10 : Int64), .long (13 : Int64)]) (rest := []) ⟨hx, hb, hml, hown, hts⟩ (c_X12_in (l := l) (D := D) (G := G) (sz := H.size) (x0 := (x2).toInt64) (x2 := (10 : Int64)) (x4 := (13 : Int64)) (r := z25) (hf := hcall)) (va_cwS 3 hts gX12_fair_X12_in rfl rfl rfl (by decide +kernel) ⟨Nat.le_of_ble_eq_true rfl, Nat.le_of_ble_eq_true rfl⟩) (preG_S (hP.sub [] rfl) (hD.sub [] rfl rfl) hK) rfl rfl hl.1 rfl (lv_room (Nat.le_of_ble_eq_true rfl)) dX12_fair_24 ⟨Nat.le_of_ble_eq_true rfl, Nat.le_of_ble_eq_true rfl⟩) hP hD hS hA [] [0, 1] [0, 1] rfl rfl rfl (by decide) rfl rfl rfl (fun H locs hP hD hS => ?_)
      clear hcall
      refine lv_if_ne (tgt := 32) hx hb dX12_fair_27 (by decide) (fun cc => ?_) (fun cc => ?_)
      ·
        replace hf := ite_f cc hf
        clear cc
        exact hJ2  _ _ _ (lv_sub hl [0, 1, 2] rfl) hP hD hS hf
      ·
        replace hf := ite_t cc hf
        clear cc
        refine lv_iconst (v := (-1 : Int32)) hx hb dX12_fair_30 (by decide) ?_
        obtain ⟨rfl, rfl⟩ := ou2 hf
        rw [hQ]
        exact W.iret hx hb hr (fun t ht hW => ⟨⟨_, (), rfl, rfl, by rw [ht]; exact hP, va_K.moved hW.alike hK, hD⟩, hS.F ht⟩) hS.2.2 dX12_fair_31

noncomputable def f_X12_keep (v_p0_st : (Nat → Int32)) (v_p0_isKept : (Nat → Int32)) (x1 : Int32) : Option (Int32 × (Nat → Int32) × (Nat → Int32)) := (bd1 (f_X12_in (x1).toInt64 (0 : Int64) (1 : Int64)) (fun (z1 : Int32) => (if z1 = 0 then (some ((-1 : Int32), v_p0_st, v_p0_isKept)) else (ck (ixB x1 2) (bd1 (f_X12_flag (v_p0_isKept (x1).toNatClampNeg)) (fun (z2 : Int32) => (bnd z2 (fun (z3 : Int32) => (ck (ixB x1 2) (bnd (upd v_p0_isKept (x1).toNatClampNeg (vp_nar .boolean (1 : Int32))) (fun (w4 : (Nat → Int32)) => (bd1 (f_X12_copies v_p0_st ((38 : Int32) * (x1 + (1 : Int32))) (0 : Int32)) (fun (w5 : (Nat → Int32)) => (some (z3, w5, w4)))))))))))))))
abbrev rm_X12_keep : Room := { frames := 1, cells := 0, slots := 0, locals := 25 }
theorem inX12_keep_X12 : ∀ w ∈ wsX120, w ∈ wsX12_keep := by decide +kernel
theorem mwX12_keep_1 : Cond.fieldLink RX12 13 "LadleKingsModel" "isKept" "[Z" ∈ wsX12_keep := by decide +kernel
set_option maxHeartbeats 8000000 in
set_option maxRecDepth 100000 in
theorem c_X12_keep (l : Launch) (D : va_G) (G : Nat → ClassId) (sz : Nat) (a_p0 : Nat) (a_p0_st : Nat) (a_p0_isKept : Nat) (a_p0_brings : Nat) (a_p0_need : Nat) (a_p0_draft : Nat) (a_p0_dStir : Nat) (a_p0_dNeed : Nat) (a_p0_tape : Nat) (a_p0_places : Nat) (a_p0_stirred : Nat) (a_p0_ways : Nat) (a_p0_waysThen : Nat) (a_p0_stays : Nat) (a_p0_fewest : Nat) (a_p0_bowls : Nat) (a_p0_has : Nat) (a_p0_goesOn : Nat) (a_p0_isThere : Nat) (a_p0_isThereThen : Nat) (a_p0_bestRow : Nat) (a_p0_lanes : Nat) (a_p0_sizes : Nat) (a_p0_cells : Nat) (i_p0_seats : Int32) (i_p0_stirs : Int32) (i_p0_dSeats : Int32) (i_p0_dStirs : Int32) (i_p0_told : Int32) (i_p0_highest : Int32) (i_p0_taped : Int32) (i_p0_pos : Int32) (i_p0_from : Int32) (i_p0_sort : Int32) (i_p0_value : Int32) (i_p0_fault : Int32) (i_p0_wrongAt : Int32) (i_p0_torn : Int32) (v_p0_st : (Nat → Int32)) (v_p0_isKept : (Nat → Int32)) (x1 : Int32) (r : Int32) (o_v_p0_st : (Nat → Int32)) (o_v_p0_isKept : (Nat → Int32)) (hf : f_X12_keep v_p0_st v_p0_isKept x1 = some (r, o_v_p0_st, o_v_p0_isKept)) : Met l yX12_keep wsX12_keep rm_X12_keep (pcG D G [.ref a_p0, .int x1] sz [(a_p0, .inr (12, [.ref a_p0_st, .ref a_p0_isKept, .int i_p0_seats, .int i_p0_stirs, .ref a_p0_brings, .ref a_p0_need, .ref a_p0_draft, .int i_p0_dSeats, .int i_p0_dStirs, .ref a_p0_dStir, .ref a_p0_dNeed, .int i_p0_told, .int i_p0_highest, .ref a_p0_tape, .int i_p0_taped, .int i_p0_pos, .int i_p0_from, .int i_p0_sort, .int i_p0_value, .int i_p0_fault, .int i_p0_wrongAt, .ref a_p0_places, .ref a_p0_stirred, .ref a_p0_ways, .ref a_p0_waysThen, .ref a_p0_stays, .ref a_p0_fewest, .ref a_p0_bowls, .ref a_p0_has, .ref a_p0_goesOn, .ref a_p0_isThere, .ref a_p0_isThereThen, .ref a_p0_bestRow, .ref a_p0_lanes, .ref a_p0_sizes, .ref a_p0_cells, .int i_p0_torn])), (a_p0_st, .inl (G 1, 152, .inl v_p0_st)), (a_p0_isKept, .inl (G 3, 2, .inl v_p0_isKept))]) (qcI D G r [(a_p0, .inr (12, [.ref a_p0_st, .ref a_p0_isKept, .int i_p0_seats, .int i_p0_stirs, .ref a_p0_brings, .ref a_p0_need, .ref a_p0_draft, .int i_p0_dSeats, .int i_p0_dStirs, .ref a_p0_dStir, .ref a_p0_dNeed, .int i_p0_told, .int i_p0_highest, .ref a_p0_tape, .int i_p0_taped, .int i_p0_pos, .int i_p0_from, .int i_p0_sort, .int i_p0_value, .int i_p0_fault, .int i_p0_wrongAt, .ref a_p0_places, .ref a_p0_stirred, .ref a_p0_ways, .ref a_p0_waysThen, .ref a_p0_stays, .ref a_p0_fewest, .ref a_p0_bowls, .ref a_p0_has, .ref a_p0_goesOn, .ref a_p0_isThere, .ref a_p0_isThereThen, .ref a_p0_bestRow, .ref a_p0_lanes, .ref a_p0_sizes, .ref a_p0_cells, .int i_p0_torn])), (a_p0_st, .inl (G 1, 152, .inl o_v_p0_st)), (a_p0_isKept, .inl (G 3, 2, .inl o_v_p0_isKept))] (va_A [(a_p0, .inr (12, [.ref a_p0_st, .ref a_p0_isKept, .int i_p0_seats, .int i_p0_stirs, .ref a_p0_brings, .ref a_p0_need, .ref a_p0_draft, .int i_p0_dSeats, .int i_p0_dStirs, .ref a_p0_dStir, .ref a_p0_dNeed, .int i_p0_told, .int i_p0_highest, .ref a_p0_tape, .int i_p0_taped, .int i_p0_pos, .int i_p0_from, .int i_p0_sort, .int i_p0_value, .int i_p0_fault, .int i_p0_wrongAt, .ref a_p0_places, .ref a_p0_stirred, .ref a_p0_ways, .ref a_p0_waysThen, .ref a_p0_stays, .ref a_p0_fewest, .ref a_p0_bowls, .ref a_p0_has, .ref a_p0_goesOn, .ref a_p0_isThere, .ref a_p0_isThereThen, .ref a_p0_bestRow, .ref a_p0_lanes, .ref a_p0_sizes, .ref a_p0_cells, .int i_p0_torn])), (a_p0_st, .inl (G 1, 152, .inl v_p0_st)), (a_p0_isKept, .inl (G 3, 2, .inl v_p0_isKept))] sz)) 0 0 (va_A [(a_p0, .inr (12, [.ref a_p0_st, .ref a_p0_isKept, .int i_p0_seats, .int i_p0_stirs, .ref a_p0_brings, .ref a_p0_need, .ref a_p0_draft, .int i_p0_dSeats, .int i_p0_dStirs, .ref a_p0_dStir, .ref a_p0_dNeed, .int i_p0_told, .int i_p0_highest, .ref a_p0_tape, .int i_p0_taped, .int i_p0_pos, .int i_p0_from, .int i_p0_sort, .int i_p0_value, .int i_p0_fault, .int i_p0_wrongAt, .ref a_p0_places, .ref a_p0_stirred, .ref a_p0_ways, .ref a_p0_waysThen, .ref a_p0_stays, .ref a_p0_fewest, .ref a_p0_bowls, .ref a_p0_has, .ref a_p0_goesOn, .ref a_p0_isThere, .ref a_p0_isThereThen, .ref a_p0_bestRow, .ref a_p0_lanes, .ref a_p0_sizes, .ref a_p0_cells, .int i_p0_torn])), (a_p0_st, .inl (G 1, 152, .inl v_p0_st)), (a_p0_isKept, .inl (G 3, 2, .inl v_p0_isKept))] sz) := by
  refine Met.ofW (cc := cX12_keep) (maxL := 3) (ret := (some .int)) (by decide) rfl ?_
  intro p e s m args below meth c s₁ B hml hv
  obtain ⟨rfl, hsz, hP, hK, hD0⟩ := hv
  have hx := B.exec
  have hb := B.bytes
  have hr := B.returns
  have hts := atoms_spec (ws := wsX12_keep) B.pre
  have hown : s.vm.findClass RX12 = some m.cls := findClass_of_methodNamed B.named
  have hlocks := B.notSynchronized
  subst hsz
  have hD := hD0.self (sz := s.heap.size)
  generalize hAe : va_A [(a_p0, .inr (12, [.ref a_p0_st, .ref a_p0_isKept, .int i_p0_seats, .int i_p0_stirs, .ref a_p0_brings, .ref a_p0_need, .ref a_p0_draft, .int i_p0_dSeats, .int i_p0_dStirs, .ref a_p0_dStir, .ref a_p0_dNeed, .int i_p0_told, .int i_p0_highest, .ref a_p0_tape, .int i_p0_taped, .int i_p0_pos, .int i_p0_from, .int i_p0_sort, .int i_p0_value, .int i_p0_fault, .int i_p0_wrongAt, .ref a_p0_places, .ref a_p0_stirred, .ref a_p0_ways, .ref a_p0_waysThen, .ref a_p0_stays, .ref a_p0_fewest, .ref a_p0_bowls, .ref a_p0_has, .ref a_p0_goesOn, .ref a_p0_isThere, .ref a_p0_isThereThen, .ref a_p0_bestRow, .ref a_p0_lanes, .ref a_p0_sizes, .ref a_p0_cells, .int i_p0_torn])), (a_p0_st, .inl (G 1, 152, .inl v_p0_st)), (a_p0_isKept, .inl (G 3, 2, .inl v_p0_isKept))] s.heap.size = A at hD ⊢
  have hA : ∀ q : Nat, s.heap.size ≤ q → A q := fun q h => by rw [← hAe]; exact Or.inr h
  clear hAe hD0
  have hS : va_S A s.heap s.heap [] := va_S.rf
  have hl := lv_entry ([.ref a_p0, .int x1]) (n := 3) (Nat.le_of_ble_eq_true rfl)
  rw [lg_entry_eq]
  generalize (lg_sl ([.ref a_p0, .int x1]) ++ List.replicate (3 - (lg_sl ([.ref a_p0, .int x1])).length) Slot.unset).toArray = ls at hl ⊢
  have hl : lv_has ls 3 [(0, .ref a_p0), (1, .int x1)] := hl
  refine W_nameQ (fun Q hQ => ?_)
  obtain ⟨H, hH⟩ : ∃ H, H = s.heap := ⟨_, rfl⟩
  replace hS : va_S A s.heap H [] := by rw [hH]; exact hS
  replace hP : va_P D vwCl [(a_p0, .inr (12, [.ref a_p0_st, .ref a_p0_isKept, .int i_p0_seats, .int i_p0_stirs, .ref a_p0_brings, .ref a_p0_need, .ref a_p0_draft, .int i_p0_dSeats, .int i_p0_dStirs, .ref a_p0_dStir, .ref a_p0_dNeed, .int i_p0_told, .int i_p0_highest, .ref a_p0_tape, .int i_p0_taped, .int i_p0_pos, .int i_p0_from, .int i_p0_sort, .int i_p0_value, .int i_p0_fault, .int i_p0_wrongAt, .ref a_p0_places, .ref a_p0_stirred, .ref a_p0_ways, .ref a_p0_waysThen, .ref a_p0_stays, .ref a_p0_fewest, .ref a_p0_bowls, .ref a_p0_has, .ref a_p0_goesOn, .ref a_p0_isThere, .ref a_p0_isThereThen, .ref a_p0_bestRow, .ref a_p0_lanes, .ref a_p0_sizes, .ref a_p0_cells, .int i_p0_torn])), (a_p0_st, .inl (G 1, 152, .inl v_p0_st)), (a_p0_isKept, .inl (G 3, 2, .inl v_p0_isKept))] H := by rw [hH]; exact hP
  rw [← hH]
  clear hH
  unfold f_X12_keep at hf
  refine lv_iload_n hx hb dX12_keep_0 rfl (lv_at hl 1 rfl) ?_
  refine lv_i2l hx hb dX12_keep_1 rfl ?_
  refine lv_lconst (v := (0 : Int64)) hx hb dX12_keep_2 (by decide) ?_
  refine lv_lconst (v := (1 : Int64)) hx hb dX12_keep_3 (by decide) ?_
  have hq := bd1_s hf
  clear hf
  obtain ⟨z1, hcall, hf⟩ := hq
  refine gcI (ws' := [(a_p0, .inr (12, [.ref a_p0_st, .ref a_p0_isKept, .int i_p0_seats, .int i_p0_stirs, .ref a_p0_brings, .ref a_p0_need, .ref a_p0_draft, .int i_p0_dSeats, .int i_p0_dStirs, .ref a_p0_dStir, .ref a_p0_dNeed, .int i_p0_told, .int i_p0_highest, .ref a_p0_tape, .int i_p0_taped, .int i_p0_pos, .int i_p0_from, .int i_p0_sort, .int i_p0_value, .int i_p0_fault, .int i_p0_wrongAt, .ref a_p0_places, .ref a_p0_stirred, .ref a_p0_ways, .ref a_p0_waysThen, .ref a_p0_stays, .ref a_p0_fewest, .ref a_p0_bowls, .ref a_p0_has, .ref a_p0_goesOn, .ref a_p0_isThere, .ref a_p0_isThereThen, .ref a_p0_bestRow, .ref a_p0_lanes, .ref a_p0_sizes, .ref a_p0_cells, .int i_p0_torn])), (a_p0_st, .inl (G 1, 152, .inl v_p0_st)), (a_p0_isKept, .inl (G 3, 2, .inl v_p0_isKept))]) (va_runS (As := [.long (x1).toInt64, .long (0 : Int64), .long (1 : Int64)]) (rest := []) ⟨hx, hb, hml, hown, hts⟩ (c_X12_in (l := l) (D := D) (G := G) (sz := H.size) (x0 := (x1).toInt64) (x2 := (0 : Int64)) (x4 := (1 : Int64)) (r := z1) (hf := hcall)) (va_cwS 3 hts gX12_keep_X12_in rfl rfl rfl (by decide +kernel) ⟨Nat.le_of_ble_eq_true rfl, Nat.le_of_ble_eq_true rfl⟩) (preG_S (hP.sub [] rfl) (hD.sub [] rfl rfl) hK) rfl rfl hl.1 rfl (lv_room (Nat.le_of_ble_eq_true rfl)) dX12_keep_4 ⟨Nat.le_of_ble_eq_true rfl, Nat.le_of_ble_eq_true rfl⟩) hP hD hS hA [] [0, 1, 2] [0, 1, 2] rfl rfl rfl (by decide) rfl rfl rfl (fun H locs hP hD hS => ?_)
  clear hcall
  refine lv_if_ne (tgt := 12) hx hb dX12_keep_7 (by decide) (fun cc => ?_) (fun cc => ?_)
  ·
    replace hf := ite_f cc hf
    clear cc
    refine lv_aload_n hx hb dX12_keep_12 rfl (lv_at hl 0 rfl) ?_
    refine va_get (D := D) (ci := 12) (v := .ref a_p0_isKept) (C := RX12) (T := TX12) (N := 37) hx hb hts inX12_keep_X12 hown hK hP 0 rfl rfl 1 (by decide) (hts _ mwX12_keep_1) (fun _ h9 => h9) rfl dX12_keep_13 ?_
    refine lv_iload_n hx hb dX12_keep_16 rfl (lv_at hl 1 rfl) ?_
    have hc := ck_c hf
    replace hf := ck_r hf
    refine va_zald hx hb hK hP 2 3 rfl rfl (ixB_in hc) dX12_keep_17 ?_
    clear hc
    have hq := bd1_s hf
    clear hf
    obtain ⟨z2, hcall, hf⟩ := hq
    refine gcI (ws' := [(a_p0, .inr (12, [.ref a_p0_st, .ref a_p0_isKept, .int i_p0_seats, .int i_p0_stirs, .ref a_p0_brings, .ref a_p0_need, .ref a_p0_draft, .int i_p0_dSeats, .int i_p0_dStirs, .ref a_p0_dStir, .ref a_p0_dNeed, .int i_p0_told, .int i_p0_highest, .ref a_p0_tape, .int i_p0_taped, .int i_p0_pos, .int i_p0_from, .int i_p0_sort, .int i_p0_value, .int i_p0_fault, .int i_p0_wrongAt, .ref a_p0_places, .ref a_p0_stirred, .ref a_p0_ways, .ref a_p0_waysThen, .ref a_p0_stays, .ref a_p0_fewest, .ref a_p0_bowls, .ref a_p0_has, .ref a_p0_goesOn, .ref a_p0_isThere, .ref a_p0_isThereThen, .ref a_p0_bestRow, .ref a_p0_lanes, .ref a_p0_sizes, .ref a_p0_cells, .int i_p0_torn])), (a_p0_st, .inl (G 1, 152, .inl v_p0_st)), (a_p0_isKept, .inl (G 3, 2, .inl v_p0_isKept))]) (va_runS (As := [.int (v_p0_isKept (x1).toNatClampNeg)]) (rest := []) ⟨hx, hb, hml, hown, hts⟩ (c_X12_flag (l := l) (D := D) (G := G) (sz := H.size) (x0 := (v_p0_isKept (x1).toNatClampNeg)) (r := z2) (hf := hcall)) (va_cwS 1 hts gX12_keep_X12_flag rfl rfl rfl (by decide +kernel) ⟨Nat.le_of_ble_eq_true rfl, Nat.le_of_ble_eq_true rfl⟩) (preG_S (hP.sub [] rfl) (hD.sub [] rfl rfl) hK) rfl rfl hl.1 rfl (lv_room (Nat.le_of_ble_eq_true rfl)) dX12_keep_18 ⟨Nat.le_of_ble_eq_true rfl, Nat.le_of_ble_eq_true rfl⟩) hP hD hS hA [] [0, 1, 2] [0, 1, 2] rfl rfl rfl (by decide) rfl rfl rfl (fun H locs hP hD hS => ?_)
    clear hcall
    refine lv_topi (fun z3 ez => ?_)
    replace hf := bnd_s hf ez
    clear ez
    refine lv_istore_n (lv' := [(2, .int z3), (0, .ref a_p0), (1, .int x1)]) hx hb dX12_keep_21 rfl hl (by decide) rfl (fun ls hl => ?_)
    refine lv_aload_n hx hb dX12_keep_22 rfl (lv_at hl 1 rfl) ?_
    refine va_get (D := D) (ci := 12) (v := .ref a_p0_isKept) (C := RX12) (T := TX12) (N := 37) hx hb hts inX12_keep_X12 hown hK hP 0 rfl rfl 1 (by decide) (hts _ mwX12_keep_1) (fun _ h9 => h9) rfl dX12_keep_23 ?_
    refine lv_iload_n hx hb dX12_keep_26 rfl (lv_at hl 2 rfl) ?_
    refine lv_iconst (v := (1 : Int32)) hx hb dX12_keep_27 (by decide) ?_
    have hc := ck_c hf
    replace hf := ck_r hf
    refine gs_zast (wf := fun w4 => [(a_p0, .inr (12, [.ref a_p0_st, .ref a_p0_isKept, .int i_p0_seats, .int i_p0_stirs, .ref a_p0_brings, .ref a_p0_need, .ref a_p0_draft, .int i_p0_dSeats, .int i_p0_dStirs, .ref a_p0_dStir, .ref a_p0_dNeed, .int i_p0_told, .int i_p0_highest, .ref a_p0_tape, .int i_p0_taped, .int i_p0_pos, .int i_p0_from, .int i_p0_sort, .int i_p0_value, .int i_p0_fault, .int i_p0_wrongAt, .ref a_p0_places, .ref a_p0_stirred, .ref a_p0_ways, .ref a_p0_waysThen, .ref a_p0_stays, .ref a_p0_fewest, .ref a_p0_bowls, .ref a_p0_has, .ref a_p0_goesOn, .ref a_p0_isThere, .ref a_p0_isThereThen, .ref a_p0_bestRow, .ref a_p0_lanes, .ref a_p0_sizes, .ref a_p0_cells, .int i_p0_torn])), (a_p0_st, .inl (G 1, 152, .inl v_p0_st)), (a_p0_isKept, .inl (G 3, 2, .inl w4))]) hx hb hK hP hD hS 2 3 rfl rfl (ixB_in hc) dX12_keep_28 (fun _ => rfl) (fun w4 ez H locs hP hD hS => ?_)
    replace hf := bnd_s hf ez
    clear ez hc
    refine lv_aload_n hx hb dX12_keep_29 rfl (lv_at hl 1 rfl) ?_
    refine lv_bipush (v := (38 : Int32)) hx hb dX12_keep_30 (by decide) ?_
    refine lv_iload_n hx hb dX12_keep_32 rfl (lv_at hl 2 rfl) ?_
    refine lv_iconst (v := (1 : Int32)) hx hb dX12_keep_33 (by decide) ?_
    refine lv_iadd hx hb dX12_keep_34 ?_
    refine lv_imul hx hb dX12_keep_35 ?_
    refine lv_iconst (v := (0 : Int32)) hx hb dX12_keep_36 (by decide) ?_
    have hq := bd1_s hf
    clear hf
    obtain ⟨w5, hcall, hf⟩ := hq
    refine gcV (ws' := [(a_p0, .inr (12, [.ref a_p0_st, .ref a_p0_isKept, .int i_p0_seats, .int i_p0_stirs, .ref a_p0_brings, .ref a_p0_need, .ref a_p0_draft, .int i_p0_dSeats, .int i_p0_dStirs, .ref a_p0_dStir, .ref a_p0_dNeed, .int i_p0_told, .int i_p0_highest, .ref a_p0_tape, .int i_p0_taped, .int i_p0_pos, .int i_p0_from, .int i_p0_sort, .int i_p0_value, .int i_p0_fault, .int i_p0_wrongAt, .ref a_p0_places, .ref a_p0_stirred, .ref a_p0_ways, .ref a_p0_waysThen, .ref a_p0_stays, .ref a_p0_fewest, .ref a_p0_bowls, .ref a_p0_has, .ref a_p0_goesOn, .ref a_p0_isThere, .ref a_p0_isThereThen, .ref a_p0_bestRow, .ref a_p0_lanes, .ref a_p0_sizes, .ref a_p0_cells, .int i_p0_torn])), (a_p0_st, .inl (G 1, 152, .inl w5)), (a_p0_isKept, .inl (G 3, 2, .inl w4))]) (va_runV (As := [.int ((38 : Int32) * (x1 + (1 : Int32))), .int (0 : Int32)]) (rest := []) ⟨hx, hb, hml, hown, hts⟩ (c_X12_copies (l := l) (D := D) (G := G) (sz := H.size) (a_p0 := a_p0) (a_p0_st := a_p0_st) (a_p0_isKept := a_p0_isKept) (a_p0_brings := a_p0_brings) (a_p0_need := a_p0_need) (a_p0_draft := a_p0_draft) (a_p0_dStir := a_p0_dStir) (a_p0_dNeed := a_p0_dNeed) (a_p0_tape := a_p0_tape) (a_p0_places := a_p0_places) (a_p0_stirred := a_p0_stirred) (a_p0_ways := a_p0_ways) (a_p0_waysThen := a_p0_waysThen) (a_p0_stays := a_p0_stays) (a_p0_fewest := a_p0_fewest) (a_p0_bowls := a_p0_bowls) (a_p0_has := a_p0_has) (a_p0_goesOn := a_p0_goesOn) (a_p0_isThere := a_p0_isThere) (a_p0_isThereThen := a_p0_isThereThen) (a_p0_bestRow := a_p0_bestRow) (a_p0_lanes := a_p0_lanes) (a_p0_sizes := a_p0_sizes) (a_p0_cells := a_p0_cells) (i_p0_seats := i_p0_seats) (i_p0_stirs := i_p0_stirs) (i_p0_dSeats := i_p0_dSeats) (i_p0_dStirs := i_p0_dStirs) (i_p0_told := i_p0_told) (i_p0_highest := i_p0_highest) (i_p0_taped := i_p0_taped) (i_p0_pos := i_p0_pos) (i_p0_from := i_p0_from) (i_p0_sort := i_p0_sort) (i_p0_value := i_p0_value) (i_p0_fault := i_p0_fault) (i_p0_wrongAt := i_p0_wrongAt) (i_p0_torn := i_p0_torn) (v_p0_st := v_p0_st) (x1 := ((38 : Int32) * (x1 + (1 : Int32)))) (x2 := (0 : Int32)) (o_v_p0_st := w5) (hf := hcall)) (cwV 2 hts gX12_keep_X12_copies rfl rfl rfl (by decide +kernel) ⟨Nat.le_of_ble_eq_true rfl, Nat.le_of_ble_eq_true rfl⟩) (preG_V (ci := 12) (hP.sub [0, 1] rfl) (hD.sub [0, 1] rfl rfl) hK rfl rfl) rfl rfl hl.1 rfl (lv_room (Nat.le_of_ble_eq_true rfl)) dX12_keep_37 ⟨Nat.le_of_ble_eq_true rfl, Nat.le_of_ble_eq_true rfl⟩) hP hD hS hA [0, 1] [2] [1, 2, 0] rfl rfl rfl (by decide) rfl rfl rfl (fun H locs hP hD hS => ?_)
    clear hcall
    refine lv_iload_n hx hb dX12_keep_40 rfl (lv_at hl 0 rfl) ?_
    obtain ⟨rfl, rfl, rfl⟩ := ou3 hf
    rw [hQ]
    exact W.iret hx hb hr (fun t ht hW => ⟨⟨_, (), rfl, rfl, by rw [ht]; exact hP, va_K.moved hW.alike hK, hD⟩, hS.F ht⟩) hS.2.2 dX12_keep_41
  ·
    replace hf := ite_t cc hf
    clear cc
    refine lv_iconst (v := (-1 : Int32)) hx hb dX12_keep_10 (by decide) ?_
    obtain ⟨rfl, rfl, rfl⟩ := ou3 hf
    rw [hQ]
    exact W.iret hx hb hr (fun t ht hW => ⟨⟨_, (), rfl, rfl, by rw [ht]; exact hP, va_K.moved hW.alike hK, hD⟩, hS.F ht⟩) hS.2.2 dX12_keep_11

noncomputable def f_X12_back (v_p0_st : (Nat → Int32)) (v_p0_isKept : (Nat → Int32)) (x1 : Int32) : Option (Int32 × (Nat → Int32)) := (bd1 (f_X12_in (x1).toInt64 (0 : Int64) (1 : Int64)) (fun (z1 : Int32) => (if z1 = 0 then (some ((-1 : Int32), v_p0_st)) else (ck (ixB x1 2) (if (v_p0_isKept (x1).toNatClampNeg) = 0 then (some ((-2 : Int32), v_p0_st)) else (bd1 (f_X12_copies v_p0_st (0 : Int32) ((38 : Int32) * (x1 + (1 : Int32)))) (fun (w2 : (Nat → Int32)) => (ck (ixB (8 : Int32) 152) (some ((w2 ((8 : Int32)).toNatClampNeg), w2))))))))))
abbrev rm_X12_back : Room := { frames := 1, cells := 0, slots := 0, locals := 25 }
theorem inX12_back_X12 : ∀ w ∈ wsX120, w ∈ wsX12_back := by decide +kernel
theorem mwX12_back_1 : Cond.fieldLink RX12 13 "LadleKingsModel" "isKept" "[Z" ∈ wsX12_back := by decide +kernel
theorem mwX12_back_2 : Cond.fieldLink RX12 7 "LadleKingsModel" "st" "[I" ∈ wsX12_back := by decide +kernel
set_option maxHeartbeats 8000000 in
set_option maxRecDepth 100000 in
theorem c_X12_back (l : Launch) (D : va_G) (G : Nat → ClassId) (sz : Nat) (a_p0 : Nat) (a_p0_st : Nat) (a_p0_isKept : Nat) (a_p0_brings : Nat) (a_p0_need : Nat) (a_p0_draft : Nat) (a_p0_dStir : Nat) (a_p0_dNeed : Nat) (a_p0_tape : Nat) (a_p0_places : Nat) (a_p0_stirred : Nat) (a_p0_ways : Nat) (a_p0_waysThen : Nat) (a_p0_stays : Nat) (a_p0_fewest : Nat) (a_p0_bowls : Nat) (a_p0_has : Nat) (a_p0_goesOn : Nat) (a_p0_isThere : Nat) (a_p0_isThereThen : Nat) (a_p0_bestRow : Nat) (a_p0_lanes : Nat) (a_p0_sizes : Nat) (a_p0_cells : Nat) (i_p0_seats : Int32) (i_p0_stirs : Int32) (i_p0_dSeats : Int32) (i_p0_dStirs : Int32) (i_p0_told : Int32) (i_p0_highest : Int32) (i_p0_taped : Int32) (i_p0_pos : Int32) (i_p0_from : Int32) (i_p0_sort : Int32) (i_p0_value : Int32) (i_p0_fault : Int32) (i_p0_wrongAt : Int32) (i_p0_torn : Int32) (v_p0_st : (Nat → Int32)) (v_p0_isKept : (Nat → Int32)) (x1 : Int32) (r : Int32) (o_v_p0_st : (Nat → Int32)) (hf : f_X12_back v_p0_st v_p0_isKept x1 = some (r, o_v_p0_st)) : Met l yX12_back wsX12_back rm_X12_back (pcG D G [.ref a_p0, .int x1] sz [(a_p0, .inr (12, [.ref a_p0_st, .ref a_p0_isKept, .int i_p0_seats, .int i_p0_stirs, .ref a_p0_brings, .ref a_p0_need, .ref a_p0_draft, .int i_p0_dSeats, .int i_p0_dStirs, .ref a_p0_dStir, .ref a_p0_dNeed, .int i_p0_told, .int i_p0_highest, .ref a_p0_tape, .int i_p0_taped, .int i_p0_pos, .int i_p0_from, .int i_p0_sort, .int i_p0_value, .int i_p0_fault, .int i_p0_wrongAt, .ref a_p0_places, .ref a_p0_stirred, .ref a_p0_ways, .ref a_p0_waysThen, .ref a_p0_stays, .ref a_p0_fewest, .ref a_p0_bowls, .ref a_p0_has, .ref a_p0_goesOn, .ref a_p0_isThere, .ref a_p0_isThereThen, .ref a_p0_bestRow, .ref a_p0_lanes, .ref a_p0_sizes, .ref a_p0_cells, .int i_p0_torn])), (a_p0_st, .inl (G 1, 152, .inl v_p0_st)), (a_p0_isKept, .inl (G 3, 2, .inl v_p0_isKept))]) (qcI D G r [(a_p0, .inr (12, [.ref a_p0_st, .ref a_p0_isKept, .int i_p0_seats, .int i_p0_stirs, .ref a_p0_brings, .ref a_p0_need, .ref a_p0_draft, .int i_p0_dSeats, .int i_p0_dStirs, .ref a_p0_dStir, .ref a_p0_dNeed, .int i_p0_told, .int i_p0_highest, .ref a_p0_tape, .int i_p0_taped, .int i_p0_pos, .int i_p0_from, .int i_p0_sort, .int i_p0_value, .int i_p0_fault, .int i_p0_wrongAt, .ref a_p0_places, .ref a_p0_stirred, .ref a_p0_ways, .ref a_p0_waysThen, .ref a_p0_stays, .ref a_p0_fewest, .ref a_p0_bowls, .ref a_p0_has, .ref a_p0_goesOn, .ref a_p0_isThere, .ref a_p0_isThereThen, .ref a_p0_bestRow, .ref a_p0_lanes, .ref a_p0_sizes, .ref a_p0_cells, .int i_p0_torn])), (a_p0_st, .inl (G 1, 152, .inl o_v_p0_st)), (a_p0_isKept, .inl (G 3, 2, .inl v_p0_isKept))] (va_A [(a_p0, .inr (12, [.ref a_p0_st, .ref a_p0_isKept, .int i_p0_seats, .int i_p0_stirs, .ref a_p0_brings, .ref a_p0_need, .ref a_p0_draft, .int i_p0_dSeats, .int i_p0_dStirs, .ref a_p0_dStir, .ref a_p0_dNeed, .int i_p0_told, .int i_p0_highest, .ref a_p0_tape, .int i_p0_taped, .int i_p0_pos, .int i_p0_from, .int i_p0_sort, .int i_p0_value, .int i_p0_fault, .int i_p0_wrongAt, .ref a_p0_places, .ref a_p0_stirred, .ref a_p0_ways, .ref a_p0_waysThen, .ref a_p0_stays, .ref a_p0_fewest, .ref a_p0_bowls, .ref a_p0_has, .ref a_p0_goesOn, .ref a_p0_isThere, .ref a_p0_isThereThen, .ref a_p0_bestRow, .ref a_p0_lanes, .ref a_p0_sizes, .ref a_p0_cells, .int i_p0_torn])), (a_p0_st, .inl (G 1, 152, .inl v_p0_st)), (a_p0_isKept, .inl (G 3, 2, .inl v_p0_isKept))] sz)) 0 0 (va_A [(a_p0, .inr (12, [.ref a_p0_st, .ref a_p0_isKept, .int i_p0_seats, .int i_p0_stirs, .ref a_p0_brings, .ref a_p0_need, .ref a_p0_draft, .int i_p0_dSeats, .int i_p0_dStirs, .ref a_p0_dStir, .ref a_p0_dNeed, .int i_p0_told, .int i_p0_highest, .ref a_p0_tape, .int i_p0_taped, .int i_p0_pos, .int i_p0_from, .int i_p0_sort, .int i_p0_value, .int i_p0_fault, .int i_p0_wrongAt, .ref a_p0_places, .ref a_p0_stirred, .ref a_p0_ways, .ref a_p0_waysThen, .ref a_p0_stays, .ref a_p0_fewest, .ref a_p0_bowls, .ref a_p0_has, .ref a_p0_goesOn, .ref a_p0_isThere, .ref a_p0_isThereThen, .ref a_p0_bestRow, .ref a_p0_lanes, .ref a_p0_sizes, .ref a_p0_cells, .int i_p0_torn])), (a_p0_st, .inl (G 1, 152, .inl v_p0_st)), (a_p0_isKept, .inl (G 3, 2, .inl v_p0_isKept))] sz) := by
  refine Met.ofW (cc := cX12_back) (maxL := 2) (ret := (some .int)) (by decide) rfl ?_
  intro p e s m args below meth c s₁ B hml hv
  obtain ⟨rfl, hsz, hP, hK, hD0⟩ := hv
  have hx := B.exec
  have hb := B.bytes
  have hr := B.returns
  have hts := atoms_spec (ws := wsX12_back) B.pre
  have hown : s.vm.findClass RX12 = some m.cls := findClass_of_methodNamed B.named
  have hlocks := B.notSynchronized
  subst hsz
  have hD := hD0.self (sz := s.heap.size)
  generalize hAe : va_A [(a_p0, .inr (12, [.ref a_p0_st, .ref a_p0_isKept, .int i_p0_seats, .int i_p0_stirs, .ref a_p0_brings, .ref a_p0_need, .ref a_p0_draft, .int i_p0_dSeats, .int i_p0_dStirs, .ref a_p0_dStir, .ref a_p0_dNeed, .int i_p0_told, .int i_p0_highest, .ref a_p0_tape, .int i_p0_taped, .int i_p0_pos, .int i_p0_from, .int i_p0_sort, .int i_p0_value, .int i_p0_fault, .int i_p0_wrongAt, .ref a_p0_places, .ref a_p0_stirred, .ref a_p0_ways, .ref a_p0_waysThen, .ref a_p0_stays, .ref a_p0_fewest, .ref a_p0_bowls, .ref a_p0_has, .ref a_p0_goesOn, .ref a_p0_isThere, .ref a_p0_isThereThen, .ref a_p0_bestRow, .ref a_p0_lanes, .ref a_p0_sizes, .ref a_p0_cells, .int i_p0_torn])), (a_p0_st, .inl (G 1, 152, .inl v_p0_st)), (a_p0_isKept, .inl (G 3, 2, .inl v_p0_isKept))] s.heap.size = A at hD ⊢
  have hA : ∀ q : Nat, s.heap.size ≤ q → A q := fun q h => by rw [← hAe]; exact Or.inr h
  clear hAe hD0
  have hS : va_S A s.heap s.heap [] := va_S.rf
  have hl := lv_entry ([.ref a_p0, .int x1]) (n := 2) (Nat.le_of_ble_eq_true rfl)
  rw [lg_entry_eq]
  generalize (lg_sl ([.ref a_p0, .int x1]) ++ List.replicate (2 - (lg_sl ([.ref a_p0, .int x1])).length) Slot.unset).toArray = ls at hl ⊢
  have hl : lv_has ls 2 [(0, .ref a_p0), (1, .int x1)] := hl
  refine W_nameQ (fun Q hQ => ?_)
  obtain ⟨H, hH⟩ : ∃ H, H = s.heap := ⟨_, rfl⟩
  replace hS : va_S A s.heap H [] := by rw [hH]; exact hS
  replace hP : va_P D vwCl [(a_p0, .inr (12, [.ref a_p0_st, .ref a_p0_isKept, .int i_p0_seats, .int i_p0_stirs, .ref a_p0_brings, .ref a_p0_need, .ref a_p0_draft, .int i_p0_dSeats, .int i_p0_dStirs, .ref a_p0_dStir, .ref a_p0_dNeed, .int i_p0_told, .int i_p0_highest, .ref a_p0_tape, .int i_p0_taped, .int i_p0_pos, .int i_p0_from, .int i_p0_sort, .int i_p0_value, .int i_p0_fault, .int i_p0_wrongAt, .ref a_p0_places, .ref a_p0_stirred, .ref a_p0_ways, .ref a_p0_waysThen, .ref a_p0_stays, .ref a_p0_fewest, .ref a_p0_bowls, .ref a_p0_has, .ref a_p0_goesOn, .ref a_p0_isThere, .ref a_p0_isThereThen, .ref a_p0_bestRow, .ref a_p0_lanes, .ref a_p0_sizes, .ref a_p0_cells, .int i_p0_torn])), (a_p0_st, .inl (G 1, 152, .inl v_p0_st)), (a_p0_isKept, .inl (G 3, 2, .inl v_p0_isKept))] H := by rw [hH]; exact hP
  rw [← hH]
  clear hH
  unfold f_X12_back at hf
  refine lv_iload_n hx hb dX12_back_0 rfl (lv_at hl 1 rfl) ?_
  refine lv_i2l hx hb dX12_back_1 rfl ?_
  refine lv_lconst (v := (0 : Int64)) hx hb dX12_back_2 (by decide) ?_
  refine lv_lconst (v := (1 : Int64)) hx hb dX12_back_3 (by decide) ?_
  have hq := bd1_s hf
  clear hf
  obtain ⟨z1, hcall, hf⟩ := hq
  refine gcI (ws' := [(a_p0, .inr (12, [.ref a_p0_st, .ref a_p0_isKept, .int i_p0_seats, .int i_p0_stirs, .ref a_p0_brings, .ref a_p0_need, .ref a_p0_draft, .int i_p0_dSeats, .int i_p0_dStirs, .ref a_p0_dStir, .ref a_p0_dNeed, .int i_p0_told, .int i_p0_highest, .ref a_p0_tape, .int i_p0_taped, .int i_p0_pos, .int i_p0_from, .int i_p0_sort, .int i_p0_value, .int i_p0_fault, .int i_p0_wrongAt, .ref a_p0_places, .ref a_p0_stirred, .ref a_p0_ways, .ref a_p0_waysThen, .ref a_p0_stays, .ref a_p0_fewest, .ref a_p0_bowls, .ref a_p0_has, .ref a_p0_goesOn, .ref a_p0_isThere, .ref a_p0_isThereThen, .ref a_p0_bestRow, .ref a_p0_lanes, .ref a_p0_sizes, .ref a_p0_cells, .int i_p0_torn])), (a_p0_st, .inl (G 1, 152, .inl v_p0_st)), (a_p0_isKept, .inl (G 3, 2, .inl v_p0_isKept))]) (va_runS (As := [.long (x1).toInt64, .long (0 : Int64), .long (1 : Int64)]) (rest := []) ⟨hx, hb, hml, hown, hts⟩ (c_X12_in (l := l) (D := D) (G := G) (sz := H.size) (x0 := (x1).toInt64) (x2 := (0 : Int64)) (x4 := (1 : Int64)) (r := z1) (hf := hcall)) (va_cwS 3 hts gX12_back_X12_in rfl rfl rfl (by decide +kernel) ⟨Nat.le_of_ble_eq_true rfl, Nat.le_of_ble_eq_true rfl⟩) (preG_S (hP.sub [] rfl) (hD.sub [] rfl rfl) hK) rfl rfl hl.1 rfl (lv_room (Nat.le_of_ble_eq_true rfl)) dX12_back_4 ⟨Nat.le_of_ble_eq_true rfl, Nat.le_of_ble_eq_true rfl⟩) hP hD hS hA [] [0, 1, 2] [0, 1, 2] rfl rfl rfl (by decide) rfl rfl rfl (fun H locs hP hD hS => ?_)
  clear hcall
  refine lv_if_ne (tgt := 12) hx hb dX12_back_7 (by decide) (fun cc => ?_) (fun cc => ?_)
  ·
    replace hf := ite_f cc hf
    clear cc
    refine lv_aload_n hx hb dX12_back_12 rfl (lv_at hl 0 rfl) ?_
    refine va_get (D := D) (ci := 12) (v := .ref a_p0_isKept) (C := RX12) (T := TX12) (N := 37) hx hb hts inX12_back_X12 hown hK hP 0 rfl rfl 1 (by decide) (hts _ mwX12_back_1) (fun _ h9 => h9) rfl dX12_back_13 ?_
    refine lv_iload_n hx hb dX12_back_16 rfl (lv_at hl 1 rfl) ?_
    have hc := ck_c hf
    replace hf := ck_r hf
    refine va_zald hx hb hK hP 2 3 rfl rfl (ixB_in hc) dX12_back_17 ?_
    clear hc
    refine lv_if_ne (tgt := 24) hx hb dX12_back_18 (by decide) (fun cc => ?_) (fun cc => ?_)
    ·
      replace hf := ite_f cc hf
      clear cc
      refine lv_aload_n hx hb dX12_back_24 rfl (lv_at hl 0 rfl) ?_
      refine lv_iconst (v := (0 : Int32)) hx hb dX12_back_25 (by decide) ?_
      refine lv_bipush (v := (38 : Int32)) hx hb dX12_back_26 (by decide) ?_
      refine lv_iload_n hx hb dX12_back_28 rfl (lv_at hl 1 rfl) ?_
      refine lv_iconst (v := (1 : Int32)) hx hb dX12_back_29 (by decide) ?_
      refine lv_iadd hx hb dX12_back_30 ?_
      refine lv_imul hx hb dX12_back_31 ?_
      have hq := bd1_s hf
      clear hf
      obtain ⟨w2, hcall, hf⟩ := hq
      refine gcV (ws' := [(a_p0, .inr (12, [.ref a_p0_st, .ref a_p0_isKept, .int i_p0_seats, .int i_p0_stirs, .ref a_p0_brings, .ref a_p0_need, .ref a_p0_draft, .int i_p0_dSeats, .int i_p0_dStirs, .ref a_p0_dStir, .ref a_p0_dNeed, .int i_p0_told, .int i_p0_highest, .ref a_p0_tape, .int i_p0_taped, .int i_p0_pos, .int i_p0_from, .int i_p0_sort, .int i_p0_value, .int i_p0_fault, .int i_p0_wrongAt, .ref a_p0_places, .ref a_p0_stirred, .ref a_p0_ways, .ref a_p0_waysThen, .ref a_p0_stays, .ref a_p0_fewest, .ref a_p0_bowls, .ref a_p0_has, .ref a_p0_goesOn, .ref a_p0_isThere, .ref a_p0_isThereThen, .ref a_p0_bestRow, .ref a_p0_lanes, .ref a_p0_sizes, .ref a_p0_cells, .int i_p0_torn])), (a_p0_st, .inl (G 1, 152, .inl w2)), (a_p0_isKept, .inl (G 3, 2, .inl v_p0_isKept))]) (va_runV (As := [.int (0 : Int32), .int ((38 : Int32) * (x1 + (1 : Int32)))]) (rest := []) ⟨hx, hb, hml, hown, hts⟩ (c_X12_copies (l := l) (D := D) (G := G) (sz := H.size) (a_p0 := a_p0) (a_p0_st := a_p0_st) (a_p0_isKept := a_p0_isKept) (a_p0_brings := a_p0_brings) (a_p0_need := a_p0_need) (a_p0_draft := a_p0_draft) (a_p0_dStir := a_p0_dStir) (a_p0_dNeed := a_p0_dNeed) (a_p0_tape := a_p0_tape) (a_p0_places := a_p0_places) (a_p0_stirred := a_p0_stirred) (a_p0_ways := a_p0_ways) (a_p0_waysThen := a_p0_waysThen) (a_p0_stays := a_p0_stays) (a_p0_fewest := a_p0_fewest) (a_p0_bowls := a_p0_bowls) (a_p0_has := a_p0_has) (a_p0_goesOn := a_p0_goesOn) (a_p0_isThere := a_p0_isThere) (a_p0_isThereThen := a_p0_isThereThen) (a_p0_bestRow := a_p0_bestRow) (a_p0_lanes := a_p0_lanes) (a_p0_sizes := a_p0_sizes) (a_p0_cells := a_p0_cells) (i_p0_seats := i_p0_seats) (i_p0_stirs := i_p0_stirs) (i_p0_dSeats := i_p0_dSeats) (i_p0_dStirs := i_p0_dStirs) (i_p0_told := i_p0_told) (i_p0_highest := i_p0_highest) (i_p0_taped := i_p0_taped) (i_p0_pos := i_p0_pos) (i_p0_from := i_p0_from) (i_p0_sort := i_p0_sort) (i_p0_value := i_p0_value) (i_p0_fault := i_p0_fault) (i_p0_wrongAt := i_p0_wrongAt) (i_p0_torn := i_p0_torn) (v_p0_st := v_p0_st) (x1 := (0 : Int32)) (x2 := ((38 : Int32) * (x1 + (1 : Int32)))) (o_v_p0_st := w2) (hf := hcall)) (cwV 2 hts gX12_back_X12_copies rfl rfl rfl (by decide +kernel) ⟨Nat.le_of_ble_eq_true rfl, Nat.le_of_ble_eq_true rfl⟩) (preG_V (ci := 12) (hP.sub [0, 1] rfl) (hD.sub [0, 1] rfl rfl) hK rfl rfl) rfl rfl hl.1 rfl (lv_room (Nat.le_of_ble_eq_true rfl)) dX12_back_32 ⟨Nat.le_of_ble_eq_true rfl, Nat.le_of_ble_eq_true rfl⟩) hP hD hS hA [0, 1] [2] [1, 2, 0] rfl rfl rfl (by decide) rfl rfl rfl (fun H locs hP hD hS => ?_)
      clear hcall
      refine lv_aload_n hx hb dX12_back_35 rfl (lv_at hl 0 rfl) ?_
      refine va_get (D := D) (ci := 12) (v := .ref a_p0_st) (C := RX12) (T := TX12) (N := 37) hx hb hts inX12_back_X12 hown hK hP 0 rfl rfl 0 (by decide) (hts _ mwX12_back_2) (fun _ h9 => h9) rfl dX12_back_36 ?_
      refine lv_bipush (v := (8 : Int32)) hx hb dX12_back_39 (by decide) ?_
      have hc := ck_c hf
      replace hf := ck_r hf
      refine va_iald hx hb hK hP 1 1 rfl rfl (ixB_in hc) dX12_back_41 ?_
      clear hc
      obtain ⟨rfl, rfl⟩ := ou2 hf
      rw [hQ]
      exact W.iret hx hb hr (fun t ht hW => ⟨⟨_, (), rfl, rfl, by rw [ht]; exact hP, va_K.moved hW.alike hK, hD⟩, hS.F ht⟩) hS.2.2 dX12_back_42
    ·
      replace hf := ite_t cc hf
      clear cc
      refine lv_bipush (v := (-2 : Int32)) hx hb dX12_back_21 (by decide) ?_
      obtain ⟨rfl, rfl⟩ := ou2 hf
      rw [hQ]
      exact W.iret hx hb hr (fun t ht hW => ⟨⟨_, (), rfl, rfl, by rw [ht]; exact hP, va_K.moved hW.alike hK, hD⟩, hS.F ht⟩) hS.2.2 dX12_back_23
  ·
    replace hf := ite_t cc hf
    clear cc
    refine lv_iconst (v := (-1 : Int32)) hx hb dX12_back_10 (by decide) ?_
    obtain ⟨rfl, rfl⟩ := ou2 hf
    rw [hQ]
    exact W.iret hx hb hr (fun t ht hW => ⟨⟨_, (), rfl, rfl, by rw [ht]; exact hP, va_K.moved hW.alike hK, hD⟩, hS.F ht⟩) hS.2.2 dX12_back_11

noncomputable def f_X12_isSheet (x0 : Int32) (x1 : Int32) : Option (Int32) := (bd1 (f_X12_in (x0).toInt64 (0 : Int64) (3 : Int64)) (fun (z1 : Int32) => (if z1 = 0 then (some (0 : Int32)) else (bd1 (f_X12_in (x1).toInt64 (0 : Int64) (2 : Int64)) (fun (z2 : Int32) => (if z2 = 0 then (some (0 : Int32)) else (some (1 : Int32))))))))
abbrev rm_X12_isSheet : Room := { frames := 1, cells := 0, slots := 0, locals := 25 }
theorem mwX12_isSheet_0 : Cond.constantLong RX12 306 (3) ∈ wsX12_isSheet := by decide +kernel
theorem mwX12_isSheet_1 : Cond.constantLong RX12 308 (2) ∈ wsX12_isSheet := by decide +kernel
set_option maxHeartbeats 8000000 in
set_option maxRecDepth 100000 in
theorem c_X12_isSheet (l : Launch) (D : va_G) (G : Nat → ClassId) (sz : Nat) (x0 : Int32) (x1 : Int32) (r : Int32) (hf : f_X12_isSheet x0 x1 = some r) : Met l yX12_isSheet wsX12_isSheet rm_X12_isSheet (pcG D G [.int x0, .int x1] sz []) (qcI D G r [] (va_A [] sz)) 0 0 (va_A [] sz) := by
  refine Met.ofW (cc := cX12_isSheet) (maxL := 2) (ret := (some .boolean)) (by decide) rfl ?_
  intro p e s m args below meth c s₁ B hml hv
  obtain ⟨rfl, hsz, hP, hK, hD0⟩ := hv
  have hx := B.exec
  have hb := B.bytes
  have hr := B.returns
  have hts := atoms_spec (ws := wsX12_isSheet) B.pre
  have hown : s.vm.findClass RX12 = some m.cls := findClass_of_methodNamed B.named
  have hlocks := B.notSynchronized
  subst hsz
  have hD := hD0.self (sz := s.heap.size)
  generalize hAe : va_A [] s.heap.size = A at hD ⊢
  have hA : ∀ q : Nat, s.heap.size ≤ q → A q := fun q h => by rw [← hAe]; exact Or.inr h
  clear hAe hD0
  have hS : va_S A s.heap s.heap [] := va_S.rf
  have hl := lv_entry ([.int x0, .int x1]) (n := 2) (Nat.le_of_ble_eq_true rfl)
  rw [lg_entry_eq]
  generalize (lg_sl ([.int x0, .int x1]) ++ List.replicate (2 - (lg_sl ([.int x0, .int x1])).length) Slot.unset).toArray = ls at hl ⊢
  have hl : lv_has ls 2 [(0, .int x0), (1, .int x1)] := hl
  refine W_nameQ (fun Q hQ => ?_)
  obtain ⟨H, hH⟩ : ∃ H, H = s.heap := ⟨_, rfl⟩
  replace hS : va_S A s.heap H [] := by rw [hH]; exact hS
  replace hP : va_P D vwCl [] H := by rw [hH]; exact hP
  rw [← hH]
  clear hH
  unfold f_X12_isSheet at hf
  refine lv_iload_n hx hb dX12_isSheet_0 rfl (lv_at hl 0 rfl) ?_
  refine lv_i2l hx hb dX12_isSheet_1 rfl ?_
  refine lv_lconst (v := (0 : Int64)) hx hb dX12_isSheet_2 (by decide) ?_
  refine lv_ldc2 (v := (3 : Int64)) hx hb hown (hts _ mwX12_isSheet_0) dX12_isSheet_3 ?_
  have hq := bd1_s hf
  clear hf
  obtain ⟨z1, hcall, hf⟩ := hq
  refine gcI (ws' := []) (va_runS (As := [.long (x0).toInt64, .long (0 : Int64), .long (3 : Int64)]) (rest := []) ⟨hx, hb, hml, hown, hts⟩ (c_X12_in (l := l) (D := D) (G := G) (sz := H.size) (x0 := (x0).toInt64) (x2 := (0 : Int64)) (x4 := (3 : Int64)) (r := z1) (hf := hcall)) (va_cwS 3 hts gX12_isSheet_X12_in rfl rfl rfl (by decide +kernel) ⟨Nat.le_of_ble_eq_true rfl, Nat.le_of_ble_eq_true rfl⟩) (preG_S (hP.sub [] rfl) (hD.sub [] rfl rfl) hK) rfl rfl hl.1 rfl (lv_room (Nat.le_of_ble_eq_true rfl)) dX12_isSheet_6 ⟨Nat.le_of_ble_eq_true rfl, Nat.le_of_ble_eq_true rfl⟩) hP hD hS hA [] [] [] rfl rfl rfl (by decide) rfl rfl rfl (fun H locs hP hD hS => ?_)
  clear hcall
  refine lv_if_eq (tgt := 28) hx hb dX12_isSheet_9 (by decide) (fun cc => ?_) (fun cc => ?_)
  ·
    replace hf := ite_t cc hf
    clear cc
    refine lv_iconst (v := (0 : Int32)) hx hb dX12_isSheet_28 (by decide) ?_
    obtain rfl := ou1 hf
    rw [hQ]
    exact W.zret hx hb hr rfl (fun t ht hW => ⟨⟨_, (), rfl, rfl, by rw [ht]; exact hP, va_K.moved hW.alike hK, hD⟩, hS.F ht⟩) hS.2.2 dX12_isSheet_29
  ·
    replace hf := ite_f cc hf
    clear cc
    refine lv_iload_n hx hb dX12_isSheet_12 rfl (lv_at hl 1 rfl) ?_
    refine lv_i2l hx hb dX12_isSheet_13 rfl ?_
    refine lv_lconst (v := (0 : Int64)) hx hb dX12_isSheet_14 (by decide) ?_
    refine lv_ldc2 (v := (2 : Int64)) hx hb hown (hts _ mwX12_isSheet_1) dX12_isSheet_15 ?_
    have hq := bd1_s hf
    clear hf
    obtain ⟨z2, hcall, hf⟩ := hq
    refine gcI (ws' := []) (va_runS (As := [.long (x1).toInt64, .long (0 : Int64), .long (2 : Int64)]) (rest := []) ⟨hx, hb, hml, hown, hts⟩ (c_X12_in (l := l) (D := D) (G := G) (sz := H.size) (x0 := (x1).toInt64) (x2 := (0 : Int64)) (x4 := (2 : Int64)) (r := z2) (hf := hcall)) (va_cwS 3 hts gX12_isSheet_X12_in rfl rfl rfl (by decide +kernel) ⟨Nat.le_of_ble_eq_true rfl, Nat.le_of_ble_eq_true rfl⟩) (preG_S (hP.sub [] rfl) (hD.sub [] rfl rfl) hK) rfl rfl hl.1 rfl (lv_room (Nat.le_of_ble_eq_true rfl)) dX12_isSheet_18 ⟨Nat.le_of_ble_eq_true rfl, Nat.le_of_ble_eq_true rfl⟩) hP hD hS hA [] [] [] rfl rfl rfl (by decide) rfl rfl rfl (fun H locs hP hD hS => ?_)
    clear hcall
    refine lv_if_eq (tgt := 28) hx hb dX12_isSheet_21 (by decide) (fun cc => ?_) (fun cc => ?_)
    ·
      replace hf := ite_t cc hf
      clear cc
      refine lv_iconst (v := (0 : Int32)) hx hb dX12_isSheet_28 (by decide) ?_
      obtain rfl := ou1 hf
      rw [hQ]
      exact W.zret hx hb hr rfl (fun t ht hW => ⟨⟨_, (), rfl, rfl, by rw [ht]; exact hP, va_K.moved hW.alike hK, hD⟩, hS.F ht⟩) hS.2.2 dX12_isSheet_29
    ·
      replace hf := ite_f cc hf
      clear cc
      refine lv_iconst (v := (1 : Int32)) hx hb dX12_isSheet_24 (by decide) ?_
      refine lv_goto (tgt := 29) hx hb dX12_isSheet_25 (by decide) ?_
      obtain rfl := ou1 hf
      rw [hQ]
      exact W.zret hx hb hr rfl (fun t ht hW => ⟨⟨_, (), rfl, rfl, by rw [ht]; exact hP, va_K.moved hW.alike hK, hD⟩, hS.F ht⟩) hS.2.2 dX12_isSheet_29

noncomputable def B_X12_sheet_40 (w2 : (Nat → Int32)) (w3 : (Nat → Int32)) (x1 : Int32) (again40 : Int32 → (Nat → Int32) → Option (Int32 × (Nat → Int32) × (Nat → Int32) × (Nat → Int32))) (z5 : Int32) (w6 : (Nat → Int32)) : Option (Int32 × (Nat → Int32) × (Nat → Int32) × (Nat → Int32)) := (if (40 : Int32) ≤ z5 then (some ((1 : Int32), w2, w3, w6)) else (ck (ixB (((40 : Int32) * x1) + z5) 160) (bnd (upd w6 ((((40 : Int32) * x1) + z5)).toNatClampNeg (0 : Int32)) (fun (w8 : (Nat → Int32)) => (bnd (z5 + (1 : Int32)) (fun (z9 : Int32) => (again40 z9 w8)))))))
noncomputable def f_X12_sheet (v_p0_lanes : (Nat → Int32)) (v_p0_sizes : (Nat → Int32)) (v_p0_cells : (Nat → Int32)) (x1 : Int32) (x2 : Int32) (x3 : Int32) : Option (Int32 × (Nat → Int32) × (Nat → Int32) × (Nat → Int32)) := (bd1 (f_X12_isSheet x1 x2) (fun (z1 : Int32) => (if z1 = 0 then (some ((-1 : Int32), v_p0_lanes, v_p0_sizes, v_p0_cells)) else (if x3 ≤ (40 : Int32) then (if 0 ≤ x3 then (ck (ixB x1 4) (bnd (upd v_p0_lanes (x1).toNatClampNeg x2) (fun (w2 : (Nat → Int32)) => (ck (ixB x1 4) (bnd (upd v_p0_sizes (x1).toNatClampNeg x3) (fun (w3 : (Nat → Int32)) => (bnd (0 : Int32) (fun (z4 : Int32) => (lq2 (B_X12_sheet_40 w2 w3 x1) 1000 z4 v_p0_cells))))))))) else (some ((-14 : Int32), v_p0_lanes, v_p0_sizes, v_p0_cells))) else (some ((-1 : Int32), v_p0_lanes, v_p0_sizes, v_p0_cells))))))
abbrev rm_X12_sheet : Room := { frames := 2, cells := 0, slots := 0, locals := 46 }
theorem inX12_sheet_X12 : ∀ w ∈ wsX120, w ∈ wsX12_sheet := by decide +kernel
theorem mwX12_sheet_1 : Cond.fieldLink RX12 72 "LadleKingsModel" "lanes" "[I" ∈ wsX12_sheet := by decide +kernel
theorem mwX12_sheet_2 : Cond.fieldLink RX12 75 "LadleKingsModel" "sizes" "[I" ∈ wsX12_sheet := by decide +kernel
theorem mwX12_sheet_3 : Cond.fieldLink RX12 78 "LadleKingsModel" "cells" "[I" ∈ wsX12_sheet := by decide +kernel
set_option maxHeartbeats 8000000 in
set_option maxRecDepth 100000 in
theorem c_X12_sheet (l : Launch) (D : va_G) (G : Nat → ClassId) (sz : Nat) (a_p0 : Nat) (a_p0_st : Nat) (a_p0_isKept : Nat) (a_p0_brings : Nat) (a_p0_need : Nat) (a_p0_draft : Nat) (a_p0_dStir : Nat) (a_p0_dNeed : Nat) (a_p0_tape : Nat) (a_p0_places : Nat) (a_p0_stirred : Nat) (a_p0_ways : Nat) (a_p0_waysThen : Nat) (a_p0_stays : Nat) (a_p0_fewest : Nat) (a_p0_bowls : Nat) (a_p0_has : Nat) (a_p0_goesOn : Nat) (a_p0_isThere : Nat) (a_p0_isThereThen : Nat) (a_p0_bestRow : Nat) (a_p0_lanes : Nat) (a_p0_sizes : Nat) (a_p0_cells : Nat) (i_p0_seats : Int32) (i_p0_stirs : Int32) (i_p0_dSeats : Int32) (i_p0_dStirs : Int32) (i_p0_told : Int32) (i_p0_highest : Int32) (i_p0_taped : Int32) (i_p0_pos : Int32) (i_p0_from : Int32) (i_p0_sort : Int32) (i_p0_value : Int32) (i_p0_fault : Int32) (i_p0_wrongAt : Int32) (i_p0_torn : Int32) (v_p0_lanes : (Nat → Int32)) (v_p0_sizes : (Nat → Int32)) (v_p0_cells : (Nat → Int32)) (x1 : Int32) (x2 : Int32) (x3 : Int32) (r : Int32) (o_v_p0_lanes : (Nat → Int32)) (o_v_p0_sizes : (Nat → Int32)) (o_v_p0_cells : (Nat → Int32)) (hf : f_X12_sheet v_p0_lanes v_p0_sizes v_p0_cells x1 x2 x3 = some (r, o_v_p0_lanes, o_v_p0_sizes, o_v_p0_cells)) : Met l yX12_sheet wsX12_sheet rm_X12_sheet (pcG D G [.ref a_p0, .int x1, .int x2, .int x3] sz [(a_p0, .inr (12, [.ref a_p0_st, .ref a_p0_isKept, .int i_p0_seats, .int i_p0_stirs, .ref a_p0_brings, .ref a_p0_need, .ref a_p0_draft, .int i_p0_dSeats, .int i_p0_dStirs, .ref a_p0_dStir, .ref a_p0_dNeed, .int i_p0_told, .int i_p0_highest, .ref a_p0_tape, .int i_p0_taped, .int i_p0_pos, .int i_p0_from, .int i_p0_sort, .int i_p0_value, .int i_p0_fault, .int i_p0_wrongAt, .ref a_p0_places, .ref a_p0_stirred, .ref a_p0_ways, .ref a_p0_waysThen, .ref a_p0_stays, .ref a_p0_fewest, .ref a_p0_bowls, .ref a_p0_has, .ref a_p0_goesOn, .ref a_p0_isThere, .ref a_p0_isThereThen, .ref a_p0_bestRow, .ref a_p0_lanes, .ref a_p0_sizes, .ref a_p0_cells, .int i_p0_torn])), (a_p0_lanes, .inl (G 1, 4, .inl v_p0_lanes)), (a_p0_sizes, .inl (G 1, 4, .inl v_p0_sizes)), (a_p0_cells, .inl (G 1, 160, .inl v_p0_cells))]) (qcI D G r [(a_p0, .inr (12, [.ref a_p0_st, .ref a_p0_isKept, .int i_p0_seats, .int i_p0_stirs, .ref a_p0_brings, .ref a_p0_need, .ref a_p0_draft, .int i_p0_dSeats, .int i_p0_dStirs, .ref a_p0_dStir, .ref a_p0_dNeed, .int i_p0_told, .int i_p0_highest, .ref a_p0_tape, .int i_p0_taped, .int i_p0_pos, .int i_p0_from, .int i_p0_sort, .int i_p0_value, .int i_p0_fault, .int i_p0_wrongAt, .ref a_p0_places, .ref a_p0_stirred, .ref a_p0_ways, .ref a_p0_waysThen, .ref a_p0_stays, .ref a_p0_fewest, .ref a_p0_bowls, .ref a_p0_has, .ref a_p0_goesOn, .ref a_p0_isThere, .ref a_p0_isThereThen, .ref a_p0_bestRow, .ref a_p0_lanes, .ref a_p0_sizes, .ref a_p0_cells, .int i_p0_torn])), (a_p0_lanes, .inl (G 1, 4, .inl o_v_p0_lanes)), (a_p0_sizes, .inl (G 1, 4, .inl o_v_p0_sizes)), (a_p0_cells, .inl (G 1, 160, .inl o_v_p0_cells))] (va_A [(a_p0, .inr (12, [.ref a_p0_st, .ref a_p0_isKept, .int i_p0_seats, .int i_p0_stirs, .ref a_p0_brings, .ref a_p0_need, .ref a_p0_draft, .int i_p0_dSeats, .int i_p0_dStirs, .ref a_p0_dStir, .ref a_p0_dNeed, .int i_p0_told, .int i_p0_highest, .ref a_p0_tape, .int i_p0_taped, .int i_p0_pos, .int i_p0_from, .int i_p0_sort, .int i_p0_value, .int i_p0_fault, .int i_p0_wrongAt, .ref a_p0_places, .ref a_p0_stirred, .ref a_p0_ways, .ref a_p0_waysThen, .ref a_p0_stays, .ref a_p0_fewest, .ref a_p0_bowls, .ref a_p0_has, .ref a_p0_goesOn, .ref a_p0_isThere, .ref a_p0_isThereThen, .ref a_p0_bestRow, .ref a_p0_lanes, .ref a_p0_sizes, .ref a_p0_cells, .int i_p0_torn])), (a_p0_lanes, .inl (G 1, 4, .inl v_p0_lanes)), (a_p0_sizes, .inl (G 1, 4, .inl v_p0_sizes)), (a_p0_cells, .inl (G 1, 160, .inl v_p0_cells))] sz)) 0 0 (va_A [(a_p0, .inr (12, [.ref a_p0_st, .ref a_p0_isKept, .int i_p0_seats, .int i_p0_stirs, .ref a_p0_brings, .ref a_p0_need, .ref a_p0_draft, .int i_p0_dSeats, .int i_p0_dStirs, .ref a_p0_dStir, .ref a_p0_dNeed, .int i_p0_told, .int i_p0_highest, .ref a_p0_tape, .int i_p0_taped, .int i_p0_pos, .int i_p0_from, .int i_p0_sort, .int i_p0_value, .int i_p0_fault, .int i_p0_wrongAt, .ref a_p0_places, .ref a_p0_stirred, .ref a_p0_ways, .ref a_p0_waysThen, .ref a_p0_stays, .ref a_p0_fewest, .ref a_p0_bowls, .ref a_p0_has, .ref a_p0_goesOn, .ref a_p0_isThere, .ref a_p0_isThereThen, .ref a_p0_bestRow, .ref a_p0_lanes, .ref a_p0_sizes, .ref a_p0_cells, .int i_p0_torn])), (a_p0_lanes, .inl (G 1, 4, .inl v_p0_lanes)), (a_p0_sizes, .inl (G 1, 4, .inl v_p0_sizes)), (a_p0_cells, .inl (G 1, 160, .inl v_p0_cells))] sz) := by
  refine Met.ofW (cc := cX12_sheet) (maxL := 5) (ret := (some .int)) (by decide) rfl ?_
  intro p e s m args below meth c s₁ B hml hv
  obtain ⟨rfl, hsz, hP, hK, hD0⟩ := hv
  have hx := B.exec
  have hb := B.bytes
  have hr := B.returns
  have hts := atoms_spec (ws := wsX12_sheet) B.pre
  have hown : s.vm.findClass RX12 = some m.cls := findClass_of_methodNamed B.named
  have hlocks := B.notSynchronized
  subst hsz
  have hD := hD0.self (sz := s.heap.size)
  generalize hAe : va_A [(a_p0, .inr (12, [.ref a_p0_st, .ref a_p0_isKept, .int i_p0_seats, .int i_p0_stirs, .ref a_p0_brings, .ref a_p0_need, .ref a_p0_draft, .int i_p0_dSeats, .int i_p0_dStirs, .ref a_p0_dStir, .ref a_p0_dNeed, .int i_p0_told, .int i_p0_highest, .ref a_p0_tape, .int i_p0_taped, .int i_p0_pos, .int i_p0_from, .int i_p0_sort, .int i_p0_value, .int i_p0_fault, .int i_p0_wrongAt, .ref a_p0_places, .ref a_p0_stirred, .ref a_p0_ways, .ref a_p0_waysThen, .ref a_p0_stays, .ref a_p0_fewest, .ref a_p0_bowls, .ref a_p0_has, .ref a_p0_goesOn, .ref a_p0_isThere, .ref a_p0_isThereThen, .ref a_p0_bestRow, .ref a_p0_lanes, .ref a_p0_sizes, .ref a_p0_cells, .int i_p0_torn])), (a_p0_lanes, .inl (G 1, 4, .inl v_p0_lanes)), (a_p0_sizes, .inl (G 1, 4, .inl v_p0_sizes)), (a_p0_cells, .inl (G 1, 160, .inl v_p0_cells))] s.heap.size = A at hD ⊢
  have hA : ∀ q : Nat, s.heap.size ≤ q → A q := fun q h => by rw [← hAe]; exact Or.inr h
  clear hAe hD0
  have hS : va_S A s.heap s.heap [] := va_S.rf
  have hl := lv_entry ([.ref a_p0, .int x1, .int x2, .int x3]) (n := 5) (Nat.le_of_ble_eq_true rfl)
  rw [lg_entry_eq]
  generalize (lg_sl ([.ref a_p0, .int x1, .int x2, .int x3]) ++ List.replicate (5 - (lg_sl ([.ref a_p0, .int x1, .int x2, .int x3])).length) Slot.unset).toArray = ls at hl ⊢
  have hl : lv_has ls 5 [(0, .ref a_p0), (1, .int x1), (2, .int x2), (3, .int x3)] := hl
  refine W_nameQ (fun Q hQ => ?_)
  obtain ⟨H, hH⟩ : ∃ H, H = s.heap := ⟨_, rfl⟩
  replace hS : va_S A s.heap H [] := by rw [hH]; exact hS
  replace hP : va_P D vwCl [(a_p0, .inr (12, [.ref a_p0_st, .ref a_p0_isKept, .int i_p0_seats, .int i_p0_stirs, .ref a_p0_brings, .ref a_p0_need, .ref a_p0_draft, .int i_p0_dSeats, .int i_p0_dStirs, .ref a_p0_dStir, .ref a_p0_dNeed, .int i_p0_told, .int i_p0_highest, .ref a_p0_tape, .int i_p0_taped, .int i_p0_pos, .int i_p0_from, .int i_p0_sort, .int i_p0_value, .int i_p0_fault, .int i_p0_wrongAt, .ref a_p0_places, .ref a_p0_stirred, .ref a_p0_ways, .ref a_p0_waysThen, .ref a_p0_stays, .ref a_p0_fewest, .ref a_p0_bowls, .ref a_p0_has, .ref a_p0_goesOn, .ref a_p0_isThere, .ref a_p0_isThereThen, .ref a_p0_bestRow, .ref a_p0_lanes, .ref a_p0_sizes, .ref a_p0_cells, .int i_p0_torn])), (a_p0_lanes, .inl (G 1, 4, .inl v_p0_lanes)), (a_p0_sizes, .inl (G 1, 4, .inl v_p0_sizes)), (a_p0_cells, .inl (G 1, 160, .inl v_p0_cells))] H := by rw [hH]; exact hP
  rw [← hH]
  clear hH
  unfold f_X12_sheet at hf
  refine lv_iload_n hx hb dX12_sheet_0 rfl (lv_at hl 1 rfl) ?_
  refine lv_iload_n hx hb dX12_sheet_1 rfl (lv_at hl 2 rfl) ?_
  have hq := bd1_s hf
  clear hf
  obtain ⟨z1, hcall, hf⟩ := hq
  refine gcI (ws' := [(a_p0, .inr (12, [.ref a_p0_st, .ref a_p0_isKept, .int i_p0_seats, .int i_p0_stirs, .ref a_p0_brings, .ref a_p0_need, .ref a_p0_draft, .int i_p0_dSeats, .int i_p0_dStirs, .ref a_p0_dStir, .ref a_p0_dNeed, .int i_p0_told, .int i_p0_highest, .ref a_p0_tape, .int i_p0_taped, .int i_p0_pos, .int i_p0_from, .int i_p0_sort, .int i_p0_value, .int i_p0_fault, .int i_p0_wrongAt, .ref a_p0_places, .ref a_p0_stirred, .ref a_p0_ways, .ref a_p0_waysThen, .ref a_p0_stays, .ref a_p0_fewest, .ref a_p0_bowls, .ref a_p0_has, .ref a_p0_goesOn, .ref a_p0_isThere, .ref a_p0_isThereThen, .ref a_p0_bestRow, .ref a_p0_lanes, .ref a_p0_sizes, .ref a_p0_cells, .int i_p0_torn])), (a_p0_lanes, .inl (G 1, 4, .inl v_p0_lanes)), (a_p0_sizes, .inl (G 1, 4, .inl v_p0_sizes)), (a_p0_cells, .inl (G 1, 160, .inl v_p0_cells))]) (va_runS (As := [.int x1, .int x2]) (rest := []) ⟨hx, hb, hml, hown, hts⟩ (c_X12_isSheet (l := l) (D := D) (G := G) (sz := H.size) (x0 := x1) (x1 := x2) (r := z1) (hf := hcall)) (va_cwS 2 hts gX12_sheet_X12_isSheet rfl rfl rfl (by decide +kernel) ⟨Nat.le_of_ble_eq_true rfl, Nat.le_of_ble_eq_true rfl⟩) (preG_S (hP.sub [] rfl) (hD.sub [] rfl rfl) hK) rfl rfl hl.1 rfl (lv_room (Nat.le_of_ble_eq_true rfl)) dX12_sheet_2 ⟨Nat.le_of_ble_eq_true rfl, Nat.le_of_ble_eq_true rfl⟩) hP hD hS hA [] [0, 1, 2, 3] [0, 1, 2, 3] rfl rfl rfl (by decide) rfl rfl rfl (fun H locs hP hD hS => ?_)
  clear hcall
  refine lv_if_eq (tgt := 14) hx hb dX12_sheet_5 (by decide) (fun cc => ?_) (fun cc => ?_)
  ·
    replace hf := ite_t cc hf
    clear cc
    refine lv_iconst (v := (-1 : Int32)) hx hb dX12_sheet_14 (by decide) ?_
    obtain ⟨rfl, rfl, rfl, rfl⟩ := ou4 hf
    rw [hQ]
    exact W.iret hx hb hr (fun t ht hW => ⟨⟨_, (), rfl, rfl, by rw [ht]; exact hP, va_K.moved hW.alike hK, hD⟩, hS.F ht⟩) hS.2.2 dX12_sheet_15
  ·
    replace hf := ite_f cc hf
    clear cc
    refine lv_iload_n hx hb dX12_sheet_8 rfl (lv_at hl 3 rfl) ?_
    refine lv_bipush (v := (40 : Int32)) hx hb dX12_sheet_9 (by decide) ?_
    refine lv_icmp_le (tgt := 16) hx hb dX12_sheet_11 (by decide) (fun cc => ?_) (fun cc => ?_)
    ·
      replace hf := ite_t cc hf
      clear cc
      refine lv_iload_n hx hb dX12_sheet_16 rfl (lv_at hl 3 rfl) ?_
      refine lv_if_ge (tgt := 23) hx hb dX12_sheet_17 (by decide) (fun cc => ?_) (fun cc => ?_)
      ·
        replace hf := ite_t cc hf
        clear cc
        refine lv_aload_n hx hb dX12_sheet_23 rfl (lv_at hl 0 rfl) ?_
        refine va_get (D := D) (ci := 12) (v := .ref a_p0_lanes) (C := RX12) (T := TX12) (N := 37) hx hb hts inX12_sheet_X12 hown hK hP 0 rfl rfl 33 (by decide) (hts _ mwX12_sheet_1) (fun _ h9 => h9) rfl dX12_sheet_24 ?_
        refine lv_iload_n hx hb dX12_sheet_27 rfl (lv_at hl 1 rfl) ?_
        refine lv_iload_n hx hb dX12_sheet_28 rfl (lv_at hl 2 rfl) ?_
        have hc := ck_c hf
        replace hf := ck_r hf
        refine gs_iast (wf := fun w2 => [(a_p0, .inr (12, [.ref a_p0_st, .ref a_p0_isKept, .int i_p0_seats, .int i_p0_stirs, .ref a_p0_brings, .ref a_p0_need, .ref a_p0_draft, .int i_p0_dSeats, .int i_p0_dStirs, .ref a_p0_dStir, .ref a_p0_dNeed, .int i_p0_told, .int i_p0_highest, .ref a_p0_tape, .int i_p0_taped, .int i_p0_pos, .int i_p0_from, .int i_p0_sort, .int i_p0_value, .int i_p0_fault, .int i_p0_wrongAt, .ref a_p0_places, .ref a_p0_stirred, .ref a_p0_ways, .ref a_p0_waysThen, .ref a_p0_stays, .ref a_p0_fewest, .ref a_p0_bowls, .ref a_p0_has, .ref a_p0_goesOn, .ref a_p0_isThere, .ref a_p0_isThereThen, .ref a_p0_bestRow, .ref a_p0_lanes, .ref a_p0_sizes, .ref a_p0_cells, .int i_p0_torn])), (a_p0_lanes, .inl (G 1, 4, .inl w2)), (a_p0_sizes, .inl (G 1, 4, .inl v_p0_sizes)), (a_p0_cells, .inl (G 1, 160, .inl v_p0_cells))]) hx hb hK hP hD hS 1 1 rfl rfl (ixB_in hc) dX12_sheet_29 (fun _ => rfl) (fun w2 ez H locs hP hD hS => ?_)
        replace hf := bnd_s hf ez
        clear ez hc
        refine lv_aload_n hx hb dX12_sheet_30 rfl (lv_at hl 0 rfl) ?_
        refine va_get (D := D) (ci := 12) (v := .ref a_p0_sizes) (C := RX12) (T := TX12) (N := 37) hx hb hts inX12_sheet_X12 hown hK hP 0 rfl rfl 34 (by decide) (hts _ mwX12_sheet_2) (fun _ h9 => h9) rfl dX12_sheet_31 ?_
        refine lv_iload_n hx hb dX12_sheet_34 rfl (lv_at hl 1 rfl) ?_
        refine lv_iload_n hx hb dX12_sheet_35 rfl (lv_at hl 3 rfl) ?_
        have hc := ck_c hf
        replace hf := ck_r hf
        refine gs_iast (wf := fun w3 => [(a_p0, .inr (12, [.ref a_p0_st, .ref a_p0_isKept, .int i_p0_seats, .int i_p0_stirs, .ref a_p0_brings, .ref a_p0_need, .ref a_p0_draft, .int i_p0_dSeats, .int i_p0_dStirs, .ref a_p0_dStir, .ref a_p0_dNeed, .int i_p0_told, .int i_p0_highest, .ref a_p0_tape, .int i_p0_taped, .int i_p0_pos, .int i_p0_from, .int i_p0_sort, .int i_p0_value, .int i_p0_fault, .int i_p0_wrongAt, .ref a_p0_places, .ref a_p0_stirred, .ref a_p0_ways, .ref a_p0_waysThen, .ref a_p0_stays, .ref a_p0_fewest, .ref a_p0_bowls, .ref a_p0_has, .ref a_p0_goesOn, .ref a_p0_isThere, .ref a_p0_isThereThen, .ref a_p0_bestRow, .ref a_p0_lanes, .ref a_p0_sizes, .ref a_p0_cells, .int i_p0_torn])), (a_p0_lanes, .inl (G 1, 4, .inl w2)), (a_p0_sizes, .inl (G 1, 4, .inl w3)), (a_p0_cells, .inl (G 1, 160, .inl v_p0_cells))]) hx hb hK hP hD hS 2 1 rfl rfl (ixB_in hc) dX12_sheet_36 (fun _ => rfl) (fun w3 ez H locs hP hD hS => ?_)
        replace hf := bnd_s hf ez
        clear ez hc
        refine lv_iconst (v := (0 : Int32)) hx hb dX12_sheet_37 (by decide) ?_
        refine lv_topi (fun z4 ez => ?_)
        replace hf := bnd_s hf ez
        clear ez
        refine lv_istore (lv' := [(4, .int z4), (0, .ref a_p0), (1, .int x1), (2, .int x2), (3, .int x3)]) hx hb dX12_sheet_38 hl (by decide) rfl (fun ls hl => ?_)
        have hq := lq2_i hf
        clear hf
        obtain ⟨B7, eB7, NB7, hf⟩ := hq
        have hB7 : ∀ (n : Nat) (z5 : Int32) (w6 : (Nat → Int32)) (ls : Array Slot) (H : Heap) (locs : List Loc), lv_has ls 5 [(4, .int z5), (0, .ref a_p0), (1, .int x1)] → va_P D vwCl [(a_p0, .inr (12, [.ref a_p0_st, .ref a_p0_isKept, .int i_p0_seats, .int i_p0_stirs, .ref a_p0_brings, .ref a_p0_need, .ref a_p0_draft, .int i_p0_dSeats, .int i_p0_dStirs, .ref a_p0_dStir, .ref a_p0_dNeed, .int i_p0_told, .int i_p0_highest, .ref a_p0_tape, .int i_p0_taped, .int i_p0_pos, .int i_p0_from, .int i_p0_sort, .int i_p0_value, .int i_p0_fault, .int i_p0_wrongAt, .ref a_p0_places, .ref a_p0_stirred, .ref a_p0_ways, .ref a_p0_waysThen, .ref a_p0_stays, .ref a_p0_fewest, .ref a_p0_bowls, .ref a_p0_has, .ref a_p0_goesOn, .ref a_p0_isThere, .ref a_p0_isThereThen, .ref a_p0_bestRow, .ref a_p0_lanes, .ref a_p0_sizes, .ref a_p0_cells, .int i_p0_torn])), (a_p0_lanes, .inl (G 1, 4, .inl w2)), (a_p0_sizes, .inl (G 1, 4, .inl w3)), (a_p0_cells, .inl (G 1, 160, .inl w6))] H → va_D A [(a_p0, .inr (12, [.ref a_p0_st, .ref a_p0_isKept, .int i_p0_seats, .int i_p0_stirs, .ref a_p0_brings, .ref a_p0_need, .ref a_p0_draft, .int i_p0_dSeats, .int i_p0_dStirs, .ref a_p0_dStir, .ref a_p0_dNeed, .int i_p0_told, .int i_p0_highest, .ref a_p0_tape, .int i_p0_taped, .int i_p0_pos, .int i_p0_from, .int i_p0_sort, .int i_p0_value, .int i_p0_fault, .int i_p0_wrongAt, .ref a_p0_places, .ref a_p0_stirred, .ref a_p0_ways, .ref a_p0_waysThen, .ref a_p0_stays, .ref a_p0_fewest, .ref a_p0_bowls, .ref a_p0_has, .ref a_p0_goesOn, .ref a_p0_isThere, .ref a_p0_isThereThen, .ref a_p0_bestRow, .ref a_p0_lanes, .ref a_p0_sizes, .ref a_p0_cells, .int i_p0_torn])), (a_p0_lanes, .inl (G 1, 4, .inl w2)), (a_p0_sizes, .inl (G 1, 4, .inl w3)), (a_p0_cells, .inl (G 1, 160, .inl w6))] → va_S A s.heap H locs → lq2 B7 n z5 w6 = some (r, o_v_p0_lanes, o_v_p0_sizes, o_v_p0_cells) → W p l e rm_X12_sheet s m ([.ref a_p0, .int x1, .int x2, .int x3] : List Value).toArray below meth c H locs 0 0 Q (F0 m 40 ls []) := by
          clear hf hl hP hD hS
          intro n
          induction n with
          | zero =>
            intro z5 w6 ls H locs hl hP hD hS hf
            exact (lq2_0 hf).elim
          | succ n ih40 =>
            intro z5 w6 ls H locs hl hP hD hS hf
            replace hf := lq2_s eB7 hf
            unfold B_X12_sheet_40 at hf
            refine lv_iload hx hb dX12_sheet_40 (lv_at hl 0 rfl) ?_
            refine lv_bipush (v := (40 : Int32)) hx hb dX12_sheet_42 (by decide) ?_
            refine lv_icmp_ge (tgt := 66) hx hb dX12_sheet_44 (by decide) (fun cc => ?_) (fun cc => ?_)
            ·
              replace hf := ite_t cc hf
              clear cc
              refine lv_iconst (v := (1 : Int32)) hx hb dX12_sheet_66 (by decide) ?_
              obtain ⟨rfl, rfl, rfl, rfl⟩ := ou4 hf
              rw [hQ]
              exact W.iret hx hb hr (fun t ht hW => ⟨⟨_, (), rfl, rfl, by rw [ht]; exact hP, va_K.moved hW.alike hK, hD⟩, hS.F ht⟩) hS.2.2 dX12_sheet_67
            ·
              replace hf := ite_f cc hf
              clear cc
              refine lv_aload_n hx hb dX12_sheet_47 rfl (lv_at hl 1 rfl) ?_
              refine va_get (D := D) (ci := 12) (v := .ref a_p0_cells) (C := RX12) (T := TX12) (N := 37) hx hb hts inX12_sheet_X12 hown hK hP 0 rfl rfl 35 (by decide) (hts _ mwX12_sheet_3) (fun _ h9 => h9) rfl dX12_sheet_48 ?_
              refine lv_bipush (v := (40 : Int32)) hx hb dX12_sheet_51 (by decide) ?_
              refine lv_iload_n hx hb dX12_sheet_53 rfl (lv_at hl 2 rfl) ?_
              refine lv_imul hx hb dX12_sheet_54 ?_
              refine lv_iload hx hb dX12_sheet_55 (lv_at hl 0 rfl) ?_
              refine lv_iadd hx hb dX12_sheet_57 ?_
              refine lv_iconst (v := (0 : Int32)) hx hb dX12_sheet_58 (by decide) ?_
              have hc := ck_c hf
              replace hf := ck_r hf
              refine gs_iast (wf := fun w8 => [(a_p0, .inr (12, [.ref a_p0_st, .ref a_p0_isKept, .int i_p0_seats, .int i_p0_stirs, .ref a_p0_brings, .ref a_p0_need, .ref a_p0_draft, .int i_p0_dSeats, .int i_p0_dStirs, .ref a_p0_dStir, .ref a_p0_dNeed, .int i_p0_told, .int i_p0_highest, .ref a_p0_tape, .int i_p0_taped, .int i_p0_pos, .int i_p0_from, .int i_p0_sort, .int i_p0_value, .int i_p0_fault, .int i_p0_wrongAt, .ref a_p0_places, .ref a_p0_stirred, .ref a_p0_ways, .ref a_p0_waysThen, .ref a_p0_stays, .ref a_p0_fewest, .ref a_p0_bowls, .ref a_p0_has, .ref a_p0_goesOn, .ref a_p0_isThere, .ref a_p0_isThereThen, .ref a_p0_bestRow, .ref a_p0_lanes, .ref a_p0_sizes, .ref a_p0_cells, .int i_p0_torn])), (a_p0_lanes, .inl (G 1, 4, .inl w2)), (a_p0_sizes, .inl (G 1, 4, .inl w3)), (a_p0_cells, .inl (G 1, 160, .inl w8))]) hx hb hK hP hD hS 3 1 rfl rfl (ixB_in hc) dX12_sheet_59 (fun _ => rfl) (fun w8 ez H locs hP hD hS => ?_)
              replace hf := bnd_s hf ez
              clear ez hc
              obtain ⟨z9, ez⟩ : ∃ y : Int32, y = (z5 + (1 : Int32)) := ⟨_, rfl⟩
              replace hf := bnd_s hf ez
              refine lv_iinc (v := z9) (lv' := [(4, .int z9), (0, .ref a_p0), (1, .int x1)]) hx hb dX12_sheet_60 hl (k := 0) rfl (by rw [ez]; rfl) (by decide) rfl (fun ls hl => ?_)
              clear ez
              refine lv_goto (tgt := 40) hx hb dX12_sheet_63 (by decide) ?_
              exact ih40 _ _ _ _ _ (lv_sub hl [0, 1, 2] rfl) hP hD hS hf
        exact hB7 _ _ _ _ _ _ (lv_sub hl [0, 1, 2] rfl) hP hD hS hf
      ·
        replace hf := ite_f cc hf
        clear cc
        refine lv_bipush (v := (-14 : Int32)) hx hb dX12_sheet_20 (by decide) ?_
        obtain ⟨rfl, rfl, rfl, rfl⟩ := ou4 hf
        rw [hQ]
        exact W.iret hx hb hr (fun t ht hW => ⟨⟨_, (), rfl, rfl, by rw [ht]; exact hP, va_K.moved hW.alike hK, hD⟩, hS.F ht⟩) hS.2.2 dX12_sheet_22
    ·
      replace hf := ite_f cc hf
      clear cc
      refine lv_iconst (v := (-1 : Int32)) hx hb dX12_sheet_14 (by decide) ?_
      obtain ⟨rfl, rfl, rfl, rfl⟩ := ou4 hf
      rw [hQ]
      exact W.iret hx hb hr (fun t ht hW => ⟨⟨_, (), rfl, rfl, by rw [ht]; exact hP, va_K.moved hW.alike hK, hD⟩, hS.F ht⟩) hS.2.2 dX12_sheet_15

noncomputable def f_X12_lay (v_p0_lanes : (Nat → Int32)) (v_p0_sizes : (Nat → Int32)) (v_p0_cells : (Nat → Int32)) (x1 : Int32) (x2 : Int32) (x3 : Int32) : Option (Int32 × (Nat → Int32)) := (bd1 (f_X12_isSheet x1 (0 : Int32)) (fun (z1 : Int32) => (if z1 = 0 then (some ((-1 : Int32), v_p0_cells)) else (ck (ixB x1 4) (if (v_p0_lanes (x1).toNatClampNeg) = (-4 : Int32) then (some ((-11 : Int32), v_p0_cells)) else (ck (ixB x1 4) (bd1 (f_X12_in (x2).toInt64 (0 : Int64) (((v_p0_sizes (x1).toNatClampNeg) - (1 : Int32))).toInt64) (fun (z2 : Int32) => (if z2 = 0 then (some ((-12 : Int32), v_p0_cells)) else (ck (ixB x1 4) (if (v_p0_lanes (x1).toNatClampNeg) = 0 then (ck (ixB (((40 : Int32) * x1) + x2) 160) (bnd (upd v_p0_cells ((((40 : Int32) * x1) + x2)).toNatClampNeg (x3).toInt8.toInt32) (fun (w5 : (Nat → Int32)) => (some ((1 : Int32), w5))))) else (ck (ixB x1 4) (if (v_p0_lanes (x1).toNatClampNeg) = (1 : Int32) then (ck (ixB (((40 : Int32) * x1) + x2) 160) (bnd (upd v_p0_cells ((((40 : Int32) * x1) + x2)).toNatClampNeg (x3).toInt16.toInt32) (fun (w4 : (Nat → Int32)) => (some ((1 : Int32), w4))))) else (ck (ixB (((40 : Int32) * x1) + x2) 160) (bnd (upd v_p0_cells ((((40 : Int32) * x1) + x2)).toNatClampNeg x3) (fun (w3 : (Nat → Int32)) => (some ((1 : Int32), w3))))))))))))))))))
abbrev rm_X12_lay : Room := { frames := 2, cells := 0, slots := 0, locals := 46 }
theorem inX12_lay_X12 : ∀ w ∈ wsX120, w ∈ wsX12_lay := by decide +kernel
theorem mwX12_lay_1 : Cond.fieldLink RX12 72 "LadleKingsModel" "lanes" "[I" ∈ wsX12_lay := by decide +kernel
theorem mwX12_lay_2 : Cond.fieldLink RX12 75 "LadleKingsModel" "sizes" "[I" ∈ wsX12_lay := by decide +kernel
theorem mwX12_lay_3 : Cond.fieldLink RX12 78 "LadleKingsModel" "cells" "[I" ∈ wsX12_lay := by decide +kernel
set_option maxHeartbeats 8000000 in
set_option maxRecDepth 100000 in
theorem c_X12_lay (l : Launch) (D : va_G) (G : Nat → ClassId) (sz : Nat) (a_p0 : Nat) (a_p0_st : Nat) (a_p0_isKept : Nat) (a_p0_brings : Nat) (a_p0_need : Nat) (a_p0_draft : Nat) (a_p0_dStir : Nat) (a_p0_dNeed : Nat) (a_p0_tape : Nat) (a_p0_places : Nat) (a_p0_stirred : Nat) (a_p0_ways : Nat) (a_p0_waysThen : Nat) (a_p0_stays : Nat) (a_p0_fewest : Nat) (a_p0_bowls : Nat) (a_p0_has : Nat) (a_p0_goesOn : Nat) (a_p0_isThere : Nat) (a_p0_isThereThen : Nat) (a_p0_bestRow : Nat) (a_p0_lanes : Nat) (a_p0_sizes : Nat) (a_p0_cells : Nat) (i_p0_seats : Int32) (i_p0_stirs : Int32) (i_p0_dSeats : Int32) (i_p0_dStirs : Int32) (i_p0_told : Int32) (i_p0_highest : Int32) (i_p0_taped : Int32) (i_p0_pos : Int32) (i_p0_from : Int32) (i_p0_sort : Int32) (i_p0_value : Int32) (i_p0_fault : Int32) (i_p0_wrongAt : Int32) (i_p0_torn : Int32) (v_p0_lanes : (Nat → Int32)) (v_p0_sizes : (Nat → Int32)) (v_p0_cells : (Nat → Int32)) (x1 : Int32) (x2 : Int32) (x3 : Int32) (r : Int32) (o_v_p0_cells : (Nat → Int32)) (hf : f_X12_lay v_p0_lanes v_p0_sizes v_p0_cells x1 x2 x3 = some (r, o_v_p0_cells)) : Met l yX12_lay wsX12_lay rm_X12_lay (pcG D G [.ref a_p0, .int x1, .int x2, .int x3] sz [(a_p0, .inr (12, [.ref a_p0_st, .ref a_p0_isKept, .int i_p0_seats, .int i_p0_stirs, .ref a_p0_brings, .ref a_p0_need, .ref a_p0_draft, .int i_p0_dSeats, .int i_p0_dStirs, .ref a_p0_dStir, .ref a_p0_dNeed, .int i_p0_told, .int i_p0_highest, .ref a_p0_tape, .int i_p0_taped, .int i_p0_pos, .int i_p0_from, .int i_p0_sort, .int i_p0_value, .int i_p0_fault, .int i_p0_wrongAt, .ref a_p0_places, .ref a_p0_stirred, .ref a_p0_ways, .ref a_p0_waysThen, .ref a_p0_stays, .ref a_p0_fewest, .ref a_p0_bowls, .ref a_p0_has, .ref a_p0_goesOn, .ref a_p0_isThere, .ref a_p0_isThereThen, .ref a_p0_bestRow, .ref a_p0_lanes, .ref a_p0_sizes, .ref a_p0_cells, .int i_p0_torn])), (a_p0_lanes, .inl (G 1, 4, .inl v_p0_lanes)), (a_p0_sizes, .inl (G 1, 4, .inl v_p0_sizes)), (a_p0_cells, .inl (G 1, 160, .inl v_p0_cells))]) (qcI D G r [(a_p0, .inr (12, [.ref a_p0_st, .ref a_p0_isKept, .int i_p0_seats, .int i_p0_stirs, .ref a_p0_brings, .ref a_p0_need, .ref a_p0_draft, .int i_p0_dSeats, .int i_p0_dStirs, .ref a_p0_dStir, .ref a_p0_dNeed, .int i_p0_told, .int i_p0_highest, .ref a_p0_tape, .int i_p0_taped, .int i_p0_pos, .int i_p0_from, .int i_p0_sort, .int i_p0_value, .int i_p0_fault, .int i_p0_wrongAt, .ref a_p0_places, .ref a_p0_stirred, .ref a_p0_ways, .ref a_p0_waysThen, .ref a_p0_stays, .ref a_p0_fewest, .ref a_p0_bowls, .ref a_p0_has, .ref a_p0_goesOn, .ref a_p0_isThere, .ref a_p0_isThereThen, .ref a_p0_bestRow, .ref a_p0_lanes, .ref a_p0_sizes, .ref a_p0_cells, .int i_p0_torn])), (a_p0_lanes, .inl (G 1, 4, .inl v_p0_lanes)), (a_p0_sizes, .inl (G 1, 4, .inl v_p0_sizes)), (a_p0_cells, .inl (G 1, 160, .inl o_v_p0_cells))] (va_A [(a_p0, .inr (12, [.ref a_p0_st, .ref a_p0_isKept, .int i_p0_seats, .int i_p0_stirs, .ref a_p0_brings, .ref a_p0_need, .ref a_p0_draft, .int i_p0_dSeats, .int i_p0_dStirs, .ref a_p0_dStir, .ref a_p0_dNeed, .int i_p0_told, .int i_p0_highest, .ref a_p0_tape, .int i_p0_taped, .int i_p0_pos, .int i_p0_from, .int i_p0_sort, .int i_p0_value, .int i_p0_fault, .int i_p0_wrongAt, .ref a_p0_places, .ref a_p0_stirred, .ref a_p0_ways, .ref a_p0_waysThen, .ref a_p0_stays, .ref a_p0_fewest, .ref a_p0_bowls, .ref a_p0_has, .ref a_p0_goesOn, .ref a_p0_isThere, .ref a_p0_isThereThen, .ref a_p0_bestRow, .ref a_p0_lanes, .ref a_p0_sizes, .ref a_p0_cells, .int i_p0_torn])), (a_p0_lanes, .inl (G 1, 4, .inl v_p0_lanes)), (a_p0_sizes, .inl (G 1, 4, .inl v_p0_sizes)), (a_p0_cells, .inl (G 1, 160, .inl v_p0_cells))] sz)) 0 0 (va_A [(a_p0, .inr (12, [.ref a_p0_st, .ref a_p0_isKept, .int i_p0_seats, .int i_p0_stirs, .ref a_p0_brings, .ref a_p0_need, .ref a_p0_draft, .int i_p0_dSeats, .int i_p0_dStirs, .ref a_p0_dStir, .ref a_p0_dNeed, .int i_p0_told, .int i_p0_highest, .ref a_p0_tape, .int i_p0_taped, .int i_p0_pos, .int i_p0_from, .int i_p0_sort, .int i_p0_value, .int i_p0_fault, .int i_p0_wrongAt, .ref a_p0_places, .ref a_p0_stirred, .ref a_p0_ways, .ref a_p0_waysThen, .ref a_p0_stays, .ref a_p0_fewest, .ref a_p0_bowls, .ref a_p0_has, .ref a_p0_goesOn, .ref a_p0_isThere, .ref a_p0_isThereThen, .ref a_p0_bestRow, .ref a_p0_lanes, .ref a_p0_sizes, .ref a_p0_cells, .int i_p0_torn])), (a_p0_lanes, .inl (G 1, 4, .inl v_p0_lanes)), (a_p0_sizes, .inl (G 1, 4, .inl v_p0_sizes)), (a_p0_cells, .inl (G 1, 160, .inl v_p0_cells))] sz) := by
  refine Met.ofW (cc := cX12_lay) (maxL := 4) (ret := (some .int)) (by decide) rfl ?_
  intro p e s m args below meth c s₁ B hml hv
  obtain ⟨rfl, hsz, hP, hK, hD0⟩ := hv
  have hx := B.exec
  have hb := B.bytes
  have hr := B.returns
  have hts := atoms_spec (ws := wsX12_lay) B.pre
  have hown : s.vm.findClass RX12 = some m.cls := findClass_of_methodNamed B.named
  have hlocks := B.notSynchronized
  subst hsz
  have hD := hD0.self (sz := s.heap.size)
  generalize hAe : va_A [(a_p0, .inr (12, [.ref a_p0_st, .ref a_p0_isKept, .int i_p0_seats, .int i_p0_stirs, .ref a_p0_brings, .ref a_p0_need, .ref a_p0_draft, .int i_p0_dSeats, .int i_p0_dStirs, .ref a_p0_dStir, .ref a_p0_dNeed, .int i_p0_told, .int i_p0_highest, .ref a_p0_tape, .int i_p0_taped, .int i_p0_pos, .int i_p0_from, .int i_p0_sort, .int i_p0_value, .int i_p0_fault, .int i_p0_wrongAt, .ref a_p0_places, .ref a_p0_stirred, .ref a_p0_ways, .ref a_p0_waysThen, .ref a_p0_stays, .ref a_p0_fewest, .ref a_p0_bowls, .ref a_p0_has, .ref a_p0_goesOn, .ref a_p0_isThere, .ref a_p0_isThereThen, .ref a_p0_bestRow, .ref a_p0_lanes, .ref a_p0_sizes, .ref a_p0_cells, .int i_p0_torn])), (a_p0_lanes, .inl (G 1, 4, .inl v_p0_lanes)), (a_p0_sizes, .inl (G 1, 4, .inl v_p0_sizes)), (a_p0_cells, .inl (G 1, 160, .inl v_p0_cells))] s.heap.size = A at hD ⊢
  have hA : ∀ q : Nat, s.heap.size ≤ q → A q := fun q h => by rw [← hAe]; exact Or.inr h
  clear hAe hD0
  have hS : va_S A s.heap s.heap [] := va_S.rf
  have hl := lv_entry ([.ref a_p0, .int x1, .int x2, .int x3]) (n := 4) (Nat.le_of_ble_eq_true rfl)
  rw [lg_entry_eq]
  generalize (lg_sl ([.ref a_p0, .int x1, .int x2, .int x3]) ++ List.replicate (4 - (lg_sl ([.ref a_p0, .int x1, .int x2, .int x3])).length) Slot.unset).toArray = ls at hl ⊢
  have hl : lv_has ls 4 [(0, .ref a_p0), (1, .int x1), (2, .int x2), (3, .int x3)] := hl
  refine W_nameQ (fun Q hQ => ?_)
  obtain ⟨H, hH⟩ : ∃ H, H = s.heap := ⟨_, rfl⟩
  replace hS : va_S A s.heap H [] := by rw [hH]; exact hS
  replace hP : va_P D vwCl [(a_p0, .inr (12, [.ref a_p0_st, .ref a_p0_isKept, .int i_p0_seats, .int i_p0_stirs, .ref a_p0_brings, .ref a_p0_need, .ref a_p0_draft, .int i_p0_dSeats, .int i_p0_dStirs, .ref a_p0_dStir, .ref a_p0_dNeed, .int i_p0_told, .int i_p0_highest, .ref a_p0_tape, .int i_p0_taped, .int i_p0_pos, .int i_p0_from, .int i_p0_sort, .int i_p0_value, .int i_p0_fault, .int i_p0_wrongAt, .ref a_p0_places, .ref a_p0_stirred, .ref a_p0_ways, .ref a_p0_waysThen, .ref a_p0_stays, .ref a_p0_fewest, .ref a_p0_bowls, .ref a_p0_has, .ref a_p0_goesOn, .ref a_p0_isThere, .ref a_p0_isThereThen, .ref a_p0_bestRow, .ref a_p0_lanes, .ref a_p0_sizes, .ref a_p0_cells, .int i_p0_torn])), (a_p0_lanes, .inl (G 1, 4, .inl v_p0_lanes)), (a_p0_sizes, .inl (G 1, 4, .inl v_p0_sizes)), (a_p0_cells, .inl (G 1, 160, .inl v_p0_cells))] H := by rw [hH]; exact hP
  rw [← hH]
  clear hH
  unfold f_X12_lay at hf
  refine lv_iload_n hx hb dX12_lay_0 rfl (lv_at hl 1 rfl) ?_
  refine lv_iconst (v := (0 : Int32)) hx hb dX12_lay_1 (by decide) ?_
  have hq := bd1_s hf
  clear hf
  obtain ⟨z1, hcall, hf⟩ := hq
  refine gcI (ws' := [(a_p0, .inr (12, [.ref a_p0_st, .ref a_p0_isKept, .int i_p0_seats, .int i_p0_stirs, .ref a_p0_brings, .ref a_p0_need, .ref a_p0_draft, .int i_p0_dSeats, .int i_p0_dStirs, .ref a_p0_dStir, .ref a_p0_dNeed, .int i_p0_told, .int i_p0_highest, .ref a_p0_tape, .int i_p0_taped, .int i_p0_pos, .int i_p0_from, .int i_p0_sort, .int i_p0_value, .int i_p0_fault, .int i_p0_wrongAt, .ref a_p0_places, .ref a_p0_stirred, .ref a_p0_ways, .ref a_p0_waysThen, .ref a_p0_stays, .ref a_p0_fewest, .ref a_p0_bowls, .ref a_p0_has, .ref a_p0_goesOn, .ref a_p0_isThere, .ref a_p0_isThereThen, .ref a_p0_bestRow, .ref a_p0_lanes, .ref a_p0_sizes, .ref a_p0_cells, .int i_p0_torn])), (a_p0_lanes, .inl (G 1, 4, .inl v_p0_lanes)), (a_p0_sizes, .inl (G 1, 4, .inl v_p0_sizes)), (a_p0_cells, .inl (G 1, 160, .inl v_p0_cells))]) (va_runS (As := [.int x1, .int (0 : Int32)]) (rest := []) ⟨hx, hb, hml, hown, hts⟩ (c_X12_isSheet (l := l) (D := D) (G := G) (sz := H.size) (x0 := x1) (x1 := (0 : Int32)) (r := z1) (hf := hcall)) (va_cwS 2 hts gX12_lay_X12_isSheet rfl rfl rfl (by decide +kernel) ⟨Nat.le_of_ble_eq_true rfl, Nat.le_of_ble_eq_true rfl⟩) (preG_S (hP.sub [] rfl) (hD.sub [] rfl rfl) hK) rfl rfl hl.1 rfl (lv_room (Nat.le_of_ble_eq_true rfl)) dX12_lay_2 ⟨Nat.le_of_ble_eq_true rfl, Nat.le_of_ble_eq_true rfl⟩) hP hD hS hA [] [0, 1, 2, 3] [0, 1, 2, 3] rfl rfl rfl (by decide) rfl rfl rfl (fun H locs hP hD hS => ?_)
  clear hcall
  refine lv_if_ne (tgt := 10) hx hb dX12_lay_5 (by decide) (fun cc => ?_) (fun cc => ?_)
  ·
    replace hf := ite_f cc hf
    clear cc
    refine lv_aload_n hx hb dX12_lay_10 rfl (lv_at hl 0 rfl) ?_
    refine va_get (D := D) (ci := 12) (v := .ref a_p0_lanes) (C := RX12) (T := TX12) (N := 37) hx hb hts inX12_lay_X12 hown hK hP 0 rfl rfl 33 (by decide) (hts _ mwX12_lay_1) (fun _ h9 => h9) rfl dX12_lay_11 ?_
    refine lv_iload_n hx hb dX12_lay_14 rfl (lv_at hl 1 rfl) ?_
    have hc := ck_c hf
    replace hf := ck_r hf
    refine va_iald hx hb hK hP 1 1 rfl rfl (ixB_in hc) dX12_lay_15 ?_
    clear hc
    refine lv_bipush (v := (-4 : Int32)) hx hb dX12_lay_16 (by decide) ?_
    refine lv_icmp_ne (tgt := 24) hx hb dX12_lay_18 (by decide) (fun cc => ?_) (fun cc => ?_)
    ·
      replace hf := ite_f cc hf
      clear cc
      refine lv_iload_n hx hb dX12_lay_24 rfl (lv_at hl 2 rfl) ?_
      refine lv_i2l hx hb dX12_lay_25 rfl ?_
      refine lv_lconst (v := (0 : Int64)) hx hb dX12_lay_26 (by decide) ?_
      refine lv_aload_n hx hb dX12_lay_27 rfl (lv_at hl 0 rfl) ?_
      refine va_get (D := D) (ci := 12) (v := .ref a_p0_sizes) (C := RX12) (T := TX12) (N := 37) hx hb hts inX12_lay_X12 hown hK hP 0 rfl rfl 34 (by decide) (hts _ mwX12_lay_2) (fun _ h9 => h9) rfl dX12_lay_28 ?_
      refine lv_iload_n hx hb dX12_lay_31 rfl (lv_at hl 1 rfl) ?_
      have hc := ck_c hf
      replace hf := ck_r hf
      refine va_iald hx hb hK hP 2 1 rfl rfl (ixB_in hc) dX12_lay_32 ?_
      clear hc
      refine lv_iconst (v := (1 : Int32)) hx hb dX12_lay_33 (by decide) ?_
      refine lv_isub hx hb dX12_lay_34 ?_
      refine lv_i2l hx hb dX12_lay_35 rfl ?_
      have hq := bd1_s hf
      clear hf
      obtain ⟨z2, hcall, hf⟩ := hq
      refine gcI (ws' := [(a_p0, .inr (12, [.ref a_p0_st, .ref a_p0_isKept, .int i_p0_seats, .int i_p0_stirs, .ref a_p0_brings, .ref a_p0_need, .ref a_p0_draft, .int i_p0_dSeats, .int i_p0_dStirs, .ref a_p0_dStir, .ref a_p0_dNeed, .int i_p0_told, .int i_p0_highest, .ref a_p0_tape, .int i_p0_taped, .int i_p0_pos, .int i_p0_from, .int i_p0_sort, .int i_p0_value, .int i_p0_fault, .int i_p0_wrongAt, .ref a_p0_places, .ref a_p0_stirred, .ref a_p0_ways, .ref a_p0_waysThen, .ref a_p0_stays, .ref a_p0_fewest, .ref a_p0_bowls, .ref a_p0_has, .ref a_p0_goesOn, .ref a_p0_isThere, .ref a_p0_isThereThen, .ref a_p0_bestRow, .ref a_p0_lanes, .ref a_p0_sizes, .ref a_p0_cells, .int i_p0_torn])), (a_p0_lanes, .inl (G 1, 4, .inl v_p0_lanes)), (a_p0_sizes, .inl (G 1, 4, .inl v_p0_sizes)), (a_p0_cells, .inl (G 1, 160, .inl v_p0_cells))]) (va_runS (As := [.long (x2).toInt64, .long (0 : Int64), .long (((v_p0_sizes (x1).toNatClampNeg) - (1 : Int32))).toInt64]) (rest := []) ⟨hx, hb, hml, hown, hts⟩ (c_X12_in (l := l) (D := D) (G := G) (sz := H.size) (x0 := (x2).toInt64) (x2 := (0 : Int64)) (x4 := (((v_p0_sizes (x1).toNatClampNeg) - (1 : Int32))).toInt64) (r := z2) (hf := hcall)) (va_cwS 3 hts gX12_lay_X12_in rfl rfl rfl (by decide +kernel) ⟨Nat.le_of_ble_eq_true rfl, Nat.le_of_ble_eq_true rfl⟩) (preG_S (hP.sub [] rfl) (hD.sub [] rfl rfl) hK) rfl rfl hl.1 rfl (lv_room (Nat.le_of_ble_eq_true rfl)) dX12_lay_36 ⟨Nat.le_of_ble_eq_true rfl, Nat.le_of_ble_eq_true rfl⟩) hP hD hS hA [] [0, 1, 2, 3] [0, 1, 2, 3] rfl rfl rfl (by decide) rfl rfl rfl (fun H locs hP hD hS => ?_)
      clear hcall
      refine lv_if_ne (tgt := 45) hx hb dX12_lay_39 (by decide) (fun cc => ?_) (fun cc => ?_)
      ·
        replace hf := ite_f cc hf
        clear cc
        refine lv_aload_n hx hb dX12_lay_45 rfl (lv_at hl 0 rfl) ?_
        refine va_get (D := D) (ci := 12) (v := .ref a_p0_cells) (C := RX12) (T := TX12) (N := 37) hx hb hts inX12_lay_X12 hown hK hP 0 rfl rfl 35 (by decide) (hts _ mwX12_lay_3) (fun _ h9 => h9) rfl dX12_lay_46 ?_
        refine lv_bipush (v := (40 : Int32)) hx hb dX12_lay_49 (by decide) ?_
        refine lv_iload_n hx hb dX12_lay_51 rfl (lv_at hl 1 rfl) ?_
        refine lv_imul hx hb dX12_lay_52 ?_
        refine lv_iload_n hx hb dX12_lay_53 rfl (lv_at hl 2 rfl) ?_
        refine lv_iadd hx hb dX12_lay_54 ?_
        refine lv_aload_n hx hb dX12_lay_55 rfl (lv_at hl 0 rfl) ?_
        refine va_get (D := D) (ci := 12) (v := .ref a_p0_lanes) (C := RX12) (T := TX12) (N := 37) hx hb hts inX12_lay_X12 hown hK hP 0 rfl rfl 33 (by decide) (hts _ mwX12_lay_1) (fun _ h9 => h9) rfl dX12_lay_56 ?_
        refine lv_iload_n hx hb dX12_lay_59 rfl (lv_at hl 1 rfl) ?_
        have hc := ck_c hf
        replace hf := ck_r hf
        refine va_iald hx hb hK hP 1 1 rfl rfl (ixB_in hc) dX12_lay_60 ?_
        clear hc
        refine lv_if_ne (tgt := 69) hx hb dX12_lay_61 (by decide) (fun cc => ?_) (fun cc => ?_)
        ·
          replace hf := ite_f cc hf
          clear cc
          refine lv_aload_n hx hb dX12_lay_69 rfl (lv_at hl 0 rfl) ?_
          refine va_get (D := D) (ci := 12) (v := .ref a_p0_lanes) (C := RX12) (T := TX12) (N := 37) hx hb hts inX12_lay_X12 hown hK hP 0 rfl rfl 33 (by decide) (hts _ mwX12_lay_1) (fun _ h9 => h9) rfl dX12_lay_70 ?_
          refine lv_iload_n hx hb dX12_lay_73 rfl (lv_at hl 1 rfl) ?_
          have hc := ck_c hf
          replace hf := ck_r hf
          refine va_iald hx hb hK hP 1 1 rfl rfl (ixB_in hc) dX12_lay_74 ?_
          clear hc
          refine lv_iconst (v := (1 : Int32)) hx hb dX12_lay_75 (by decide) ?_
          refine lv_icmp_ne (tgt := 84) hx hb dX12_lay_76 (by decide) (fun cc => ?_) (fun cc => ?_)
          ·
            replace hf := ite_f cc hf
            clear cc
            refine lv_iload_n hx hb dX12_lay_84 rfl (lv_at hl 3 rfl) ?_
            have hc := ck_c hf
            replace hf := ck_r hf
            refine gs_iast (wf := fun w3 => [(a_p0, .inr (12, [.ref a_p0_st, .ref a_p0_isKept, .int i_p0_seats, .int i_p0_stirs, .ref a_p0_brings, .ref a_p0_need, .ref a_p0_draft, .int i_p0_dSeats, .int i_p0_dStirs, .ref a_p0_dStir, .ref a_p0_dNeed, .int i_p0_told, .int i_p0_highest, .ref a_p0_tape, .int i_p0_taped, .int i_p0_pos, .int i_p0_from, .int i_p0_sort, .int i_p0_value, .int i_p0_fault, .int i_p0_wrongAt, .ref a_p0_places, .ref a_p0_stirred, .ref a_p0_ways, .ref a_p0_waysThen, .ref a_p0_stays, .ref a_p0_fewest, .ref a_p0_bowls, .ref a_p0_has, .ref a_p0_goesOn, .ref a_p0_isThere, .ref a_p0_isThereThen, .ref a_p0_bestRow, .ref a_p0_lanes, .ref a_p0_sizes, .ref a_p0_cells, .int i_p0_torn])), (a_p0_lanes, .inl (G 1, 4, .inl v_p0_lanes)), (a_p0_sizes, .inl (G 1, 4, .inl v_p0_sizes)), (a_p0_cells, .inl (G 1, 160, .inl w3))]) hx hb hK hP hD hS 3 1 rfl rfl (ixB_in hc) dX12_lay_85 (fun _ => rfl) (fun w3 ez H locs hP hD hS => ?_)
            replace hf := bnd_s hf ez
            clear ez hc
            refine lv_iconst (v := (1 : Int32)) hx hb dX12_lay_86 (by decide) ?_
            obtain ⟨rfl, rfl⟩ := ou2 hf
            rw [hQ]
            exact W.iret hx hb hr (fun t ht hW => ⟨⟨_, (), rfl, rfl, by rw [ht]; exact hP, va_K.moved hW.alike hK, hD⟩, hS.F ht⟩) hS.2.2 dX12_lay_87
          ·
            replace hf := ite_t cc hf
            clear cc
            refine lv_iload_n hx hb dX12_lay_79 rfl (lv_at hl 3 rfl) ?_
            refine lv_i2s hx hb dX12_lay_80 rfl ?_
            refine lv_goto (tgt := 85) hx hb dX12_lay_81 (by decide) ?_
            have hc := ck_c hf
            replace hf := ck_r hf
            refine gs_iast (wf := fun w4 => [(a_p0, .inr (12, [.ref a_p0_st, .ref a_p0_isKept, .int i_p0_seats, .int i_p0_stirs, .ref a_p0_brings, .ref a_p0_need, .ref a_p0_draft, .int i_p0_dSeats, .int i_p0_dStirs, .ref a_p0_dStir, .ref a_p0_dNeed, .int i_p0_told, .int i_p0_highest, .ref a_p0_tape, .int i_p0_taped, .int i_p0_pos, .int i_p0_from, .int i_p0_sort, .int i_p0_value, .int i_p0_fault, .int i_p0_wrongAt, .ref a_p0_places, .ref a_p0_stirred, .ref a_p0_ways, .ref a_p0_waysThen, .ref a_p0_stays, .ref a_p0_fewest, .ref a_p0_bowls, .ref a_p0_has, .ref a_p0_goesOn, .ref a_p0_isThere, .ref a_p0_isThereThen, .ref a_p0_bestRow, .ref a_p0_lanes, .ref a_p0_sizes, .ref a_p0_cells, .int i_p0_torn])), (a_p0_lanes, .inl (G 1, 4, .inl v_p0_lanes)), (a_p0_sizes, .inl (G 1, 4, .inl v_p0_sizes)), (a_p0_cells, .inl (G 1, 160, .inl w4))]) hx hb hK hP hD hS 3 1 rfl rfl (ixB_in hc) dX12_lay_85 (fun _ => rfl) (fun w4 ez H locs hP hD hS => ?_)
            replace hf := bnd_s hf ez
            clear ez hc
            refine lv_iconst (v := (1 : Int32)) hx hb dX12_lay_86 (by decide) ?_
            obtain ⟨rfl, rfl⟩ := ou2 hf
            rw [hQ]
            exact W.iret hx hb hr (fun t ht hW => ⟨⟨_, (), rfl, rfl, by rw [ht]; exact hP, va_K.moved hW.alike hK, hD⟩, hS.F ht⟩) hS.2.2 dX12_lay_87
        ·
          replace hf := ite_t cc hf
          clear cc
          refine lv_iload_n hx hb dX12_lay_64 rfl (lv_at hl 3 rfl) ?_
          refine lv_i2b hx hb dX12_lay_65 rfl ?_
          refine lv_goto (tgt := 85) hx hb dX12_lay_66 (by decide) ?_
          have hc := ck_c hf
          replace hf := ck_r hf
          refine gs_iast (wf := fun w5 => [(a_p0, .inr (12, [.ref a_p0_st, .ref a_p0_isKept, .int i_p0_seats, .int i_p0_stirs, .ref a_p0_brings, .ref a_p0_need, .ref a_p0_draft, .int i_p0_dSeats, .int i_p0_dStirs, .ref a_p0_dStir, .ref a_p0_dNeed, .int i_p0_told, .int i_p0_highest, .ref a_p0_tape, .int i_p0_taped, .int i_p0_pos, .int i_p0_from, .int i_p0_sort, .int i_p0_value, .int i_p0_fault, .int i_p0_wrongAt, .ref a_p0_places, .ref a_p0_stirred, .ref a_p0_ways, .ref a_p0_waysThen, .ref a_p0_stays, .ref a_p0_fewest, .ref a_p0_bowls, .ref a_p0_has, .ref a_p0_goesOn, .ref a_p0_isThere, .ref a_p0_isThereThen, .ref a_p0_bestRow, .ref a_p0_lanes, .ref a_p0_sizes, .ref a_p0_cells, .int i_p0_torn])), (a_p0_lanes, .inl (G 1, 4, .inl v_p0_lanes)), (a_p0_sizes, .inl (G 1, 4, .inl v_p0_sizes)), (a_p0_cells, .inl (G 1, 160, .inl w5))]) hx hb hK hP hD hS 3 1 rfl rfl (ixB_in hc) dX12_lay_85 (fun _ => rfl) (fun w5 ez H locs hP hD hS => ?_)
          replace hf := bnd_s hf ez
          clear ez hc
          refine lv_iconst (v := (1 : Int32)) hx hb dX12_lay_86 (by decide) ?_
          obtain ⟨rfl, rfl⟩ := ou2 hf
          rw [hQ]
          exact W.iret hx hb hr (fun t ht hW => ⟨⟨_, (), rfl, rfl, by rw [ht]; exact hP, va_K.moved hW.alike hK, hD⟩, hS.F ht⟩) hS.2.2 dX12_lay_87
      ·
        replace hf := ite_t cc hf
        clear cc
        refine lv_bipush (v := (-12 : Int32)) hx hb dX12_lay_42 (by decide) ?_
        obtain ⟨rfl, rfl⟩ := ou2 hf
        rw [hQ]
        exact W.iret hx hb hr (fun t ht hW => ⟨⟨_, (), rfl, rfl, by rw [ht]; exact hP, va_K.moved hW.alike hK, hD⟩, hS.F ht⟩) hS.2.2 dX12_lay_44
    ·
      replace hf := ite_t cc hf
      clear cc
      refine lv_bipush (v := (-11 : Int32)) hx hb dX12_lay_21 (by decide) ?_
      obtain ⟨rfl, rfl⟩ := ou2 hf
      rw [hQ]
      exact W.iret hx hb hr (fun t ht hW => ⟨⟨_, (), rfl, rfl, by rw [ht]; exact hP, va_K.moved hW.alike hK, hD⟩, hS.F ht⟩) hS.2.2 dX12_lay_23
  ·
    replace hf := ite_t cc hf
    clear cc
    refine lv_iconst (v := (-1 : Int32)) hx hb dX12_lay_8 (by decide) ?_
    obtain ⟨rfl, rfl⟩ := ou2 hf
    rw [hQ]
    exact W.iret hx hb hr (fun t ht hW => ⟨⟨_, (), rfl, rfl, by rw [ht]; exact hP, va_K.moved hW.alike hK, hD⟩, hS.F ht⟩) hS.2.2 dX12_lay_9

noncomputable def B_X12_read_39 (x4 : Int32) (J9 : Int32 → Int32 → Option (Int32 × Int32 × (Nat → Int32))) (x3 : Int32) (x1 : Int32) (i_p0_stirs : Int32) (w3 : (Nat → Int32)) (v_p0_cells : (Nat → Int32)) (J12 : Int32 → Option (Int32 × Int32 × (Nat → Int32))) (v_p0_lanes : (Nat → Int32)) (x2 : Int32) (v_p0_sizes : (Nat → Int32)) (again39 : Int32 → Int32 → Int32 → Option (Int32 × Int32 × (Nat → Int32))) (z14 : Int32) (z15 : Int32) (z16 : Int32) : Option (Int32 × Int32 × (Nat → Int32)) := (if x4 ≤ z14 then (J9 z16 z15) else (if z16 = 0 then (bnd ((x3).toInt64 + (z14).toInt64) (fun (z18 : Int64) => (ck (ixB x1 4) (jn (fun (z19 : Int32) => (bnd z19 (fun (z21 : Int32) => (if z21 = 0 then (ck (ixB ((((40 : Int32) * x1) + x3) + z14) 160) (bd1 (f_X12_day i_p0_stirs w3 (v_p0_cells (((((40 : Int32) * x1) + x3) + z14)).toNatClampNeg)) (fun (z23 : Int32) => (if 0 ≤ z23 then (bnd (z15 + (1 : Int32)) (fun (z24 : Int32) => (bnd (z14 + (1 : Int32)) (fun (z25 : Int32) => (again39 z25 z24 z21))))) else (J12 z14))))) else (bnd (z14 + (1 : Int32)) (fun (z22 : Int32) => (again39 z22 z15 z21))))))) (fun (J20 : Int32 → Option (Int32 × Int32 × (Nat → Int32))) => (if (v_p0_lanes (x1).toNatClampNeg) = (-4 : Int32) then (J20 (1 : Int32)) else (ck (ixB x1 4) (if (v_p0_lanes (x1).toNatClampNeg) = x2 then (if (lg_cmp z18 (0 : Int64)) < 0 then (J20 (2 : Int32)) else (ck (ixB x1 4) (if (lg_cmp z18 ((v_p0_sizes (x1).toNatClampNeg)).toInt64) < 0 then (J20 (0 : Int32)) else (J20 (2 : Int32))))) else (J20 (3 : Int32)))))))))) else (J9 z16 z15)))
noncomputable def f_X12_read (i_p0_stirs : Int32) (i_p0_torn : Int32) (v_p0_st : (Nat → Int32)) (v_p0_lanes : (Nat → Int32)) (v_p0_sizes : (Nat → Int32)) (v_p0_cells : (Nat → Int32)) (x1 : Int32) (x2 : Int32) (x3 : Int32) (x4 : Int32) : Option (Int32 × Int32 × (Nat → Int32)) := (bd1 (f_X12_isSheet x1 x2) (fun (z1 : Int32) => (if z1 = 0 then (some ((-1 : Int32), i_p0_torn, v_p0_st)) else (bd1 (f_X12_in (x4).toInt64 (0 : Int64) (20 : Int64)) (fun (z2 : Int32) => (if z2 = 0 then (some ((-1 : Int32), i_p0_torn, v_p0_st)) else (bd1 (f_X12_copies v_p0_st (114 : Int32) (0 : Int32)) (fun (w3 : (Nat → Int32)) => (bnd (0 : Int32) (fun (z4 : Int32) => (bnd (0 : Int32) (fun (z5 : Int32) => (bnd (0 : Int32) (fun (z6 : Int32) => (jn (fun (z7 : Int32) (z8 : Int32) => (bnd z7 (fun (z10 : Int32) => (some (z8, z10, w3))))) (fun (J9 : Int32 → Int32 → Option (Int32 × Int32 × (Nat → Int32))) => (jn (fun (z11 : Int32) => (bd1 (f_X12_copies w3 (0 : Int32) (114 : Int32)) (fun (w13 : (Nat → Int32)) => (some (((-20 : Int32) - z11), i_p0_torn, w13))))) (fun (J12 : Int32 → Option (Int32 × Int32 × (Nat → Int32))) => (lq3 (B_X12_read_39 x4 J9 x3 x1 i_p0_stirs w3 v_p0_cells J12 v_p0_lanes x2 v_p0_sizes) 1000 z6 z5 z4)))))))))))))))))))
abbrev rm_X12_read : Room := { frames := 3, cells := 0, slots := 0, locals := 67 }
theorem mwX12_read_0 : Cond.constantLong RX12 314 (20) ∈ wsX12_read := by decide +kernel
theorem inX12_read_X12 : ∀ w ∈ wsX120, w ∈ wsX12_read := by decide +kernel
theorem mwX12_read_2 : Cond.fieldLink RX12 319 "LadleKingsModel" "torn" "I" ∈ wsX12_read := by decide +kernel
theorem mwX12_read_3 : Cond.fieldLink RX12 72 "LadleKingsModel" "lanes" "[I" ∈ wsX12_read := by decide +kernel
theorem mwX12_read_4 : Cond.fieldLink RX12 78 "LadleKingsModel" "cells" "[I" ∈ wsX12_read := by decide +kernel
theorem mwX12_read_5 : Cond.fieldLink RX12 75 "LadleKingsModel" "sizes" "[I" ∈ wsX12_read := by decide +kernel
set_option maxHeartbeats 8000000 in
set_option maxRecDepth 100000 in
theorem c_X12_read (l : Launch) (D : va_G) (G : Nat → ClassId) (sz : Nat) (a_p0 : Nat) (a_p0_st : Nat) (a_p0_isKept : Nat) (a_p0_brings : Nat) (a_p0_need : Nat) (a_p0_draft : Nat) (a_p0_dStir : Nat) (a_p0_dNeed : Nat) (a_p0_tape : Nat) (a_p0_places : Nat) (a_p0_stirred : Nat) (a_p0_ways : Nat) (a_p0_waysThen : Nat) (a_p0_stays : Nat) (a_p0_fewest : Nat) (a_p0_bowls : Nat) (a_p0_has : Nat) (a_p0_goesOn : Nat) (a_p0_isThere : Nat) (a_p0_isThereThen : Nat) (a_p0_bestRow : Nat) (a_p0_lanes : Nat) (a_p0_sizes : Nat) (a_p0_cells : Nat) (i_p0_seats : Int32) (i_p0_stirs : Int32) (i_p0_dSeats : Int32) (i_p0_dStirs : Int32) (i_p0_told : Int32) (i_p0_highest : Int32) (i_p0_taped : Int32) (i_p0_pos : Int32) (i_p0_from : Int32) (i_p0_sort : Int32) (i_p0_value : Int32) (i_p0_fault : Int32) (i_p0_wrongAt : Int32) (i_p0_torn : Int32) (v_p0_st : (Nat → Int32)) (v_p0_lanes : (Nat → Int32)) (v_p0_sizes : (Nat → Int32)) (v_p0_cells : (Nat → Int32)) (x1 : Int32) (x2 : Int32) (x3 : Int32) (x4 : Int32) (r : Int32) (o_i_p0_torn : Int32) (o_v_p0_st : (Nat → Int32)) (hf : f_X12_read i_p0_stirs i_p0_torn v_p0_st v_p0_lanes v_p0_sizes v_p0_cells x1 x2 x3 x4 = some (r, o_i_p0_torn, o_v_p0_st)) : Met l yX12_read wsX12_read rm_X12_read (pcG D G [.ref a_p0, .int x1, .int x2, .int x3, .int x4] sz [(a_p0, .inr (12, [.ref a_p0_st, .ref a_p0_isKept, .int i_p0_seats, .int i_p0_stirs, .ref a_p0_brings, .ref a_p0_need, .ref a_p0_draft, .int i_p0_dSeats, .int i_p0_dStirs, .ref a_p0_dStir, .ref a_p0_dNeed, .int i_p0_told, .int i_p0_highest, .ref a_p0_tape, .int i_p0_taped, .int i_p0_pos, .int i_p0_from, .int i_p0_sort, .int i_p0_value, .int i_p0_fault, .int i_p0_wrongAt, .ref a_p0_places, .ref a_p0_stirred, .ref a_p0_ways, .ref a_p0_waysThen, .ref a_p0_stays, .ref a_p0_fewest, .ref a_p0_bowls, .ref a_p0_has, .ref a_p0_goesOn, .ref a_p0_isThere, .ref a_p0_isThereThen, .ref a_p0_bestRow, .ref a_p0_lanes, .ref a_p0_sizes, .ref a_p0_cells, .int i_p0_torn])), (a_p0_st, .inl (G 1, 152, .inl v_p0_st)), (a_p0_lanes, .inl (G 1, 4, .inl v_p0_lanes)), (a_p0_sizes, .inl (G 1, 4, .inl v_p0_sizes)), (a_p0_cells, .inl (G 1, 160, .inl v_p0_cells))]) (qcI D G r [(a_p0, .inr (12, [.ref a_p0_st, .ref a_p0_isKept, .int i_p0_seats, .int i_p0_stirs, .ref a_p0_brings, .ref a_p0_need, .ref a_p0_draft, .int i_p0_dSeats, .int i_p0_dStirs, .ref a_p0_dStir, .ref a_p0_dNeed, .int i_p0_told, .int i_p0_highest, .ref a_p0_tape, .int i_p0_taped, .int i_p0_pos, .int i_p0_from, .int i_p0_sort, .int i_p0_value, .int i_p0_fault, .int i_p0_wrongAt, .ref a_p0_places, .ref a_p0_stirred, .ref a_p0_ways, .ref a_p0_waysThen, .ref a_p0_stays, .ref a_p0_fewest, .ref a_p0_bowls, .ref a_p0_has, .ref a_p0_goesOn, .ref a_p0_isThere, .ref a_p0_isThereThen, .ref a_p0_bestRow, .ref a_p0_lanes, .ref a_p0_sizes, .ref a_p0_cells, .int o_i_p0_torn])), (a_p0_st, .inl (G 1, 152, .inl o_v_p0_st)), (a_p0_lanes, .inl (G 1, 4, .inl v_p0_lanes)), (a_p0_sizes, .inl (G 1, 4, .inl v_p0_sizes)), (a_p0_cells, .inl (G 1, 160, .inl v_p0_cells))] (va_A [(a_p0, .inr (12, [.ref a_p0_st, .ref a_p0_isKept, .int i_p0_seats, .int i_p0_stirs, .ref a_p0_brings, .ref a_p0_need, .ref a_p0_draft, .int i_p0_dSeats, .int i_p0_dStirs, .ref a_p0_dStir, .ref a_p0_dNeed, .int i_p0_told, .int i_p0_highest, .ref a_p0_tape, .int i_p0_taped, .int i_p0_pos, .int i_p0_from, .int i_p0_sort, .int i_p0_value, .int i_p0_fault, .int i_p0_wrongAt, .ref a_p0_places, .ref a_p0_stirred, .ref a_p0_ways, .ref a_p0_waysThen, .ref a_p0_stays, .ref a_p0_fewest, .ref a_p0_bowls, .ref a_p0_has, .ref a_p0_goesOn, .ref a_p0_isThere, .ref a_p0_isThereThen, .ref a_p0_bestRow, .ref a_p0_lanes, .ref a_p0_sizes, .ref a_p0_cells, .int i_p0_torn])), (a_p0_st, .inl (G 1, 152, .inl v_p0_st)), (a_p0_lanes, .inl (G 1, 4, .inl v_p0_lanes)), (a_p0_sizes, .inl (G 1, 4, .inl v_p0_sizes)), (a_p0_cells, .inl (G 1, 160, .inl v_p0_cells))] sz)) 0 0 (va_A [(a_p0, .inr (12, [.ref a_p0_st, .ref a_p0_isKept, .int i_p0_seats, .int i_p0_stirs, .ref a_p0_brings, .ref a_p0_need, .ref a_p0_draft, .int i_p0_dSeats, .int i_p0_dStirs, .ref a_p0_dStir, .ref a_p0_dNeed, .int i_p0_told, .int i_p0_highest, .ref a_p0_tape, .int i_p0_taped, .int i_p0_pos, .int i_p0_from, .int i_p0_sort, .int i_p0_value, .int i_p0_fault, .int i_p0_wrongAt, .ref a_p0_places, .ref a_p0_stirred, .ref a_p0_ways, .ref a_p0_waysThen, .ref a_p0_stays, .ref a_p0_fewest, .ref a_p0_bowls, .ref a_p0_has, .ref a_p0_goesOn, .ref a_p0_isThere, .ref a_p0_isThereThen, .ref a_p0_bestRow, .ref a_p0_lanes, .ref a_p0_sizes, .ref a_p0_cells, .int i_p0_torn])), (a_p0_st, .inl (G 1, 152, .inl v_p0_st)), (a_p0_lanes, .inl (G 1, 4, .inl v_p0_lanes)), (a_p0_sizes, .inl (G 1, 4, .inl v_p0_sizes)), (a_p0_cells, .inl (G 1, 160, .inl v_p0_cells))] sz) := by
  refine Met.ofW (cc := cX12_read) (maxL := 10) (ret := (some .int)) (by decide) rfl ?_
  intro p e s m args below meth c s₁ B hml hv
  obtain ⟨rfl, hsz, hP, hK, hD0⟩ := hv
  have hx := B.exec
  have hb := B.bytes
  have hr := B.returns
  have hts := atoms_spec (ws := wsX12_read) B.pre
  have hown : s.vm.findClass RX12 = some m.cls := findClass_of_methodNamed B.named
  have hlocks := B.notSynchronized
  subst hsz
  have hD := hD0.self (sz := s.heap.size)
  generalize hAe : va_A [(a_p0, .inr (12, [.ref a_p0_st, .ref a_p0_isKept, .int i_p0_seats, .int i_p0_stirs, .ref a_p0_brings, .ref a_p0_need, .ref a_p0_draft, .int i_p0_dSeats, .int i_p0_dStirs, .ref a_p0_dStir, .ref a_p0_dNeed, .int i_p0_told, .int i_p0_highest, .ref a_p0_tape, .int i_p0_taped, .int i_p0_pos, .int i_p0_from, .int i_p0_sort, .int i_p0_value, .int i_p0_fault, .int i_p0_wrongAt, .ref a_p0_places, .ref a_p0_stirred, .ref a_p0_ways, .ref a_p0_waysThen, .ref a_p0_stays, .ref a_p0_fewest, .ref a_p0_bowls, .ref a_p0_has, .ref a_p0_goesOn, .ref a_p0_isThere, .ref a_p0_isThereThen, .ref a_p0_bestRow, .ref a_p0_lanes, .ref a_p0_sizes, .ref a_p0_cells, .int i_p0_torn])), (a_p0_st, .inl (G 1, 152, .inl v_p0_st)), (a_p0_lanes, .inl (G 1, 4, .inl v_p0_lanes)), (a_p0_sizes, .inl (G 1, 4, .inl v_p0_sizes)), (a_p0_cells, .inl (G 1, 160, .inl v_p0_cells))] s.heap.size = A at hD ⊢
  have hA : ∀ q : Nat, s.heap.size ≤ q → A q := fun q h => by rw [← hAe]; exact Or.inr h
  clear hAe hD0
  have hS : va_S A s.heap s.heap [] := va_S.rf
  have hl := lv_entry ([.ref a_p0, .int x1, .int x2, .int x3, .int x4]) (n := 10) (Nat.le_of_ble_eq_true rfl)
  rw [lg_entry_eq]
  generalize (lg_sl ([.ref a_p0, .int x1, .int x2, .int x3, .int x4]) ++ List.replicate (10 - (lg_sl ([.ref a_p0, .int x1, .int x2, .int x3, .int x4])).length) Slot.unset).toArray = ls at hl ⊢
  have hl : lv_has ls 10 [(0, .ref a_p0), (1, .int x1), (2, .int x2), (3, .int x3), (4, .int x4)] := hl
  refine W_nameQ (fun Q hQ => ?_)
  obtain ⟨H, hH⟩ : ∃ H, H = s.heap := ⟨_, rfl⟩
  replace hS : va_S A s.heap H [] := by rw [hH]; exact hS
  replace hP : va_P D vwCl [(a_p0, .inr (12, [.ref a_p0_st, .ref a_p0_isKept, .int i_p0_seats, .int i_p0_stirs, .ref a_p0_brings, .ref a_p0_need, .ref a_p0_draft, .int i_p0_dSeats, .int i_p0_dStirs, .ref a_p0_dStir, .ref a_p0_dNeed, .int i_p0_told, .int i_p0_highest, .ref a_p0_tape, .int i_p0_taped, .int i_p0_pos, .int i_p0_from, .int i_p0_sort, .int i_p0_value, .int i_p0_fault, .int i_p0_wrongAt, .ref a_p0_places, .ref a_p0_stirred, .ref a_p0_ways, .ref a_p0_waysThen, .ref a_p0_stays, .ref a_p0_fewest, .ref a_p0_bowls, .ref a_p0_has, .ref a_p0_goesOn, .ref a_p0_isThere, .ref a_p0_isThereThen, .ref a_p0_bestRow, .ref a_p0_lanes, .ref a_p0_sizes, .ref a_p0_cells, .int i_p0_torn])), (a_p0_st, .inl (G 1, 152, .inl v_p0_st)), (a_p0_lanes, .inl (G 1, 4, .inl v_p0_lanes)), (a_p0_sizes, .inl (G 1, 4, .inl v_p0_sizes)), (a_p0_cells, .inl (G 1, 160, .inl v_p0_cells))] H := by rw [hH]; exact hP
  rw [← hH]
  clear hH
  unfold f_X12_read at hf
  refine lv_iload_n hx hb dX12_read_0 rfl (lv_at hl 1 rfl) ?_
  refine lv_iload_n hx hb dX12_read_1 rfl (lv_at hl 2 rfl) ?_
  have hq := bd1_s hf
  clear hf
  obtain ⟨z1, hcall, hf⟩ := hq
  refine gcI (ws' := [(a_p0, .inr (12, [.ref a_p0_st, .ref a_p0_isKept, .int i_p0_seats, .int i_p0_stirs, .ref a_p0_brings, .ref a_p0_need, .ref a_p0_draft, .int i_p0_dSeats, .int i_p0_dStirs, .ref a_p0_dStir, .ref a_p0_dNeed, .int i_p0_told, .int i_p0_highest, .ref a_p0_tape, .int i_p0_taped, .int i_p0_pos, .int i_p0_from, .int i_p0_sort, .int i_p0_value, .int i_p0_fault, .int i_p0_wrongAt, .ref a_p0_places, .ref a_p0_stirred, .ref a_p0_ways, .ref a_p0_waysThen, .ref a_p0_stays, .ref a_p0_fewest, .ref a_p0_bowls, .ref a_p0_has, .ref a_p0_goesOn, .ref a_p0_isThere, .ref a_p0_isThereThen, .ref a_p0_bestRow, .ref a_p0_lanes, .ref a_p0_sizes, .ref a_p0_cells, .int i_p0_torn])), (a_p0_st, .inl (G 1, 152, .inl v_p0_st)), (a_p0_lanes, .inl (G 1, 4, .inl v_p0_lanes)), (a_p0_sizes, .inl (G 1, 4, .inl v_p0_sizes)), (a_p0_cells, .inl (G 1, 160, .inl v_p0_cells))]) (va_runS (As := [.int x1, .int x2]) (rest := []) ⟨hx, hb, hml, hown, hts⟩ (c_X12_isSheet (l := l) (D := D) (G := G) (sz := H.size) (x0 := x1) (x1 := x2) (r := z1) (hf := hcall)) (va_cwS 2 hts gX12_read_X12_isSheet rfl rfl rfl (by decide +kernel) ⟨Nat.le_of_ble_eq_true rfl, Nat.le_of_ble_eq_true rfl⟩) (preG_S (hP.sub [] rfl) (hD.sub [] rfl rfl) hK) rfl rfl hl.1 rfl (lv_room (Nat.le_of_ble_eq_true rfl)) dX12_read_2 ⟨Nat.le_of_ble_eq_true rfl, Nat.le_of_ble_eq_true rfl⟩) hP hD hS hA [] [0, 1, 2, 3, 4] [0, 1, 2, 3, 4] rfl rfl rfl (by decide) rfl rfl rfl (fun H locs hP hD hS => ?_)
  clear hcall
  refine lv_if_eq (tgt := 21) hx hb dX12_read_5 (by decide) (fun cc => ?_) (fun cc => ?_)
  ·
    replace hf := ite_t cc hf
    clear cc
    refine lv_iconst (v := (-1 : Int32)) hx hb dX12_read_21 (by decide) ?_
    obtain ⟨rfl, rfl, rfl⟩ := ou3 hf
    rw [hQ]
    exact W.iret hx hb hr (fun t ht hW => ⟨⟨_, (), rfl, rfl, by rw [ht]; exact hP, va_K.moved hW.alike hK, hD⟩, hS.F ht⟩) hS.2.2 dX12_read_22
  ·
    replace hf := ite_f cc hf
    clear cc
    refine lv_iload hx hb dX12_read_8 (lv_at hl 4 rfl) ?_
    refine lv_i2l hx hb dX12_read_10 rfl ?_
    refine lv_lconst (v := (0 : Int64)) hx hb dX12_read_11 (by decide) ?_
    refine lv_ldc2 (v := (20 : Int64)) hx hb hown (hts _ mwX12_read_0) dX12_read_12 ?_
    have hq := bd1_s hf
    clear hf
    obtain ⟨z2, hcall, hf⟩ := hq
    refine gcI (ws' := [(a_p0, .inr (12, [.ref a_p0_st, .ref a_p0_isKept, .int i_p0_seats, .int i_p0_stirs, .ref a_p0_brings, .ref a_p0_need, .ref a_p0_draft, .int i_p0_dSeats, .int i_p0_dStirs, .ref a_p0_dStir, .ref a_p0_dNeed, .int i_p0_told, .int i_p0_highest, .ref a_p0_tape, .int i_p0_taped, .int i_p0_pos, .int i_p0_from, .int i_p0_sort, .int i_p0_value, .int i_p0_fault, .int i_p0_wrongAt, .ref a_p0_places, .ref a_p0_stirred, .ref a_p0_ways, .ref a_p0_waysThen, .ref a_p0_stays, .ref a_p0_fewest, .ref a_p0_bowls, .ref a_p0_has, .ref a_p0_goesOn, .ref a_p0_isThere, .ref a_p0_isThereThen, .ref a_p0_bestRow, .ref a_p0_lanes, .ref a_p0_sizes, .ref a_p0_cells, .int i_p0_torn])), (a_p0_st, .inl (G 1, 152, .inl v_p0_st)), (a_p0_lanes, .inl (G 1, 4, .inl v_p0_lanes)), (a_p0_sizes, .inl (G 1, 4, .inl v_p0_sizes)), (a_p0_cells, .inl (G 1, 160, .inl v_p0_cells))]) (va_runS (As := [.long (x4).toInt64, .long (0 : Int64), .long (20 : Int64)]) (rest := []) ⟨hx, hb, hml, hown, hts⟩ (c_X12_in (l := l) (D := D) (G := G) (sz := H.size) (x0 := (x4).toInt64) (x2 := (0 : Int64)) (x4 := (20 : Int64)) (r := z2) (hf := hcall)) (va_cwS 3 hts gX12_read_X12_in rfl rfl rfl (by decide +kernel) ⟨Nat.le_of_ble_eq_true rfl, Nat.le_of_ble_eq_true rfl⟩) (preG_S (hP.sub [] rfl) (hD.sub [] rfl rfl) hK) rfl rfl hl.1 rfl (lv_room (Nat.le_of_ble_eq_true rfl)) dX12_read_15 ⟨Nat.le_of_ble_eq_true rfl, Nat.le_of_ble_eq_true rfl⟩) hP hD hS hA [] [0, 1, 2, 3, 4] [0, 1, 2, 3, 4] rfl rfl rfl (by decide) rfl rfl rfl (fun H locs hP hD hS => ?_)
    clear hcall
    refine lv_if_ne (tgt := 23) hx hb dX12_read_18 (by decide) (fun cc => ?_) (fun cc => ?_)
    ·
      replace hf := ite_f cc hf
      clear cc
      refine lv_aload_n hx hb dX12_read_23 rfl (lv_at hl 0 rfl) ?_
      refine lv_bipush (v := (114 : Int32)) hx hb dX12_read_24 (by decide) ?_
      refine lv_iconst (v := (0 : Int32)) hx hb dX12_read_26 (by decide) ?_
      have hq := bd1_s hf
      clear hf
      obtain ⟨w3, hcall, hf⟩ := hq
      refine gcV (ws' := [(a_p0, .inr (12, [.ref a_p0_st, .ref a_p0_isKept, .int i_p0_seats, .int i_p0_stirs, .ref a_p0_brings, .ref a_p0_need, .ref a_p0_draft, .int i_p0_dSeats, .int i_p0_dStirs, .ref a_p0_dStir, .ref a_p0_dNeed, .int i_p0_told, .int i_p0_highest, .ref a_p0_tape, .int i_p0_taped, .int i_p0_pos, .int i_p0_from, .int i_p0_sort, .int i_p0_value, .int i_p0_fault, .int i_p0_wrongAt, .ref a_p0_places, .ref a_p0_stirred, .ref a_p0_ways, .ref a_p0_waysThen, .ref a_p0_stays, .ref a_p0_fewest, .ref a_p0_bowls, .ref a_p0_has, .ref a_p0_goesOn, .ref a_p0_isThere, .ref a_p0_isThereThen, .ref a_p0_bestRow, .ref a_p0_lanes, .ref a_p0_sizes, .ref a_p0_cells, .int i_p0_torn])), (a_p0_st, .inl (G 1, 152, .inl w3)), (a_p0_lanes, .inl (G 1, 4, .inl v_p0_lanes)), (a_p0_sizes, .inl (G 1, 4, .inl v_p0_sizes)), (a_p0_cells, .inl (G 1, 160, .inl v_p0_cells))]) (va_runV (As := [.int (114 : Int32), .int (0 : Int32)]) (rest := []) ⟨hx, hb, hml, hown, hts⟩ (c_X12_copies (l := l) (D := D) (G := G) (sz := H.size) (a_p0 := a_p0) (a_p0_st := a_p0_st) (a_p0_isKept := a_p0_isKept) (a_p0_brings := a_p0_brings) (a_p0_need := a_p0_need) (a_p0_draft := a_p0_draft) (a_p0_dStir := a_p0_dStir) (a_p0_dNeed := a_p0_dNeed) (a_p0_tape := a_p0_tape) (a_p0_places := a_p0_places) (a_p0_stirred := a_p0_stirred) (a_p0_ways := a_p0_ways) (a_p0_waysThen := a_p0_waysThen) (a_p0_stays := a_p0_stays) (a_p0_fewest := a_p0_fewest) (a_p0_bowls := a_p0_bowls) (a_p0_has := a_p0_has) (a_p0_goesOn := a_p0_goesOn) (a_p0_isThere := a_p0_isThere) (a_p0_isThereThen := a_p0_isThereThen) (a_p0_bestRow := a_p0_bestRow) (a_p0_lanes := a_p0_lanes) (a_p0_sizes := a_p0_sizes) (a_p0_cells := a_p0_cells) (i_p0_seats := i_p0_seats) (i_p0_stirs := i_p0_stirs) (i_p0_dSeats := i_p0_dSeats) (i_p0_dStirs := i_p0_dStirs) (i_p0_told := i_p0_told) (i_p0_highest := i_p0_highest) (i_p0_taped := i_p0_taped) (i_p0_pos := i_p0_pos) (i_p0_from := i_p0_from) (i_p0_sort := i_p0_sort) (i_p0_value := i_p0_value) (i_p0_fault := i_p0_fault) (i_p0_wrongAt := i_p0_wrongAt) (i_p0_torn := i_p0_torn) (v_p0_st := v_p0_st) (x1 := (114 : Int32)) (x2 := (0 : Int32)) (o_v_p0_st := w3) (hf := hcall)) (cwV 2 hts gX12_read_X12_copies rfl rfl rfl (by decide +kernel) ⟨Nat.le_of_ble_eq_true rfl, Nat.le_of_ble_eq_true rfl⟩) (preG_V (ci := 12) (hP.sub [0, 1] rfl) (hD.sub [0, 1] rfl rfl) hK rfl rfl) rfl rfl hl.1 rfl (lv_room (Nat.le_of_ble_eq_true rfl)) dX12_read_27 ⟨Nat.le_of_ble_eq_true rfl, Nat.le_of_ble_eq_true rfl⟩) hP hD hS hA [0, 1] [2, 3, 4] [3, 4, 0, 1, 2] rfl rfl rfl (by decide) rfl rfl rfl (fun H locs hP hD hS => ?_)
      clear hcall
      refine lv_iconst (v := (0 : Int32)) hx hb dX12_read_30 (by decide) ?_
      refine lv_topi (fun z4 ez => ?_)
      replace hf := bnd_s hf ez
      clear ez
      refine lv_istore (lv' := [(5, .int z4), (0, .ref a_p0), (1, .int x1), (2, .int x2), (3, .int x3), (4, .int x4)]) hx hb dX12_read_31 hl (by decide) rfl (fun ls hl => ?_)
      refine lv_iconst (v := (0 : Int32)) hx hb dX12_read_33 (by decide) ?_
      refine lv_topi (fun z5 ez => ?_)
      replace hf := bnd_s hf ez
      clear ez
      refine lv_istore (lv' := [(6, .int z5), (5, .int z4), (0, .ref a_p0), (1, .int x1), (2, .int x2), (3, .int x3), (4, .int x4)]) hx hb dX12_read_34 hl (by decide) rfl (fun ls hl => ?_)
      refine lv_iconst (v := (0 : Int32)) hx hb dX12_read_36 (by decide) ?_
      refine lv_topi (fun z6 ez => ?_)
      replace hf := bnd_s hf ez
      clear ez
      refine lv_istore (lv' := [(7, .int z6), (6, .int z5), (5, .int z4), (0, .ref a_p0), (1, .int x1), (2, .int x2), (3, .int x3), (4, .int x4)]) hx hb dX12_read_37 hl (by decide) rfl (fun ls hl => ?_)
      have hq := jn_i hf
      clear hf
      obtain ⟨J9, eJ9, hf⟩ := hq
      have hJ9 : ∀ (z7 : Int32) (z8 : Int32) (ls : Array Slot) (H : Heap) (locs : List Loc), lv_has ls 10 [(6, .int z8), (5, .int z7), (0, .ref a_p0)] → va_P D vwCl [(a_p0, .inr (12, [.ref a_p0_st, .ref a_p0_isKept, .int i_p0_seats, .int i_p0_stirs, .ref a_p0_brings, .ref a_p0_need, .ref a_p0_draft, .int i_p0_dSeats, .int i_p0_dStirs, .ref a_p0_dStir, .ref a_p0_dNeed, .int i_p0_told, .int i_p0_highest, .ref a_p0_tape, .int i_p0_taped, .int i_p0_pos, .int i_p0_from, .int i_p0_sort, .int i_p0_value, .int i_p0_fault, .int i_p0_wrongAt, .ref a_p0_places, .ref a_p0_stirred, .ref a_p0_ways, .ref a_p0_waysThen, .ref a_p0_stays, .ref a_p0_fewest, .ref a_p0_bowls, .ref a_p0_has, .ref a_p0_goesOn, .ref a_p0_isThere, .ref a_p0_isThereThen, .ref a_p0_bestRow, .ref a_p0_lanes, .ref a_p0_sizes, .ref a_p0_cells, .int i_p0_torn])), (a_p0_st, .inl (G 1, 152, .inl w3)), (a_p0_lanes, .inl (G 1, 4, .inl v_p0_lanes)), (a_p0_sizes, .inl (G 1, 4, .inl v_p0_sizes)), (a_p0_cells, .inl (G 1, 160, .inl v_p0_cells))] H → va_D A [(a_p0, .inr (12, [.ref a_p0_st, .ref a_p0_isKept, .int i_p0_seats, .int i_p0_stirs, .ref a_p0_brings, .ref a_p0_need, .ref a_p0_draft, .int i_p0_dSeats, .int i_p0_dStirs, .ref a_p0_dStir, .ref a_p0_dNeed, .int i_p0_told, .int i_p0_highest, .ref a_p0_tape, .int i_p0_taped, .int i_p0_pos, .int i_p0_from, .int i_p0_sort, .int i_p0_value, .int i_p0_fault, .int i_p0_wrongAt, .ref a_p0_places, .ref a_p0_stirred, .ref a_p0_ways, .ref a_p0_waysThen, .ref a_p0_stays, .ref a_p0_fewest, .ref a_p0_bowls, .ref a_p0_has, .ref a_p0_goesOn, .ref a_p0_isThere, .ref a_p0_isThereThen, .ref a_p0_bestRow, .ref a_p0_lanes, .ref a_p0_sizes, .ref a_p0_cells, .int i_p0_torn])), (a_p0_st, .inl (G 1, 152, .inl w3)), (a_p0_lanes, .inl (G 1, 4, .inl v_p0_lanes)), (a_p0_sizes, .inl (G 1, 4, .inl v_p0_sizes)), (a_p0_cells, .inl (G 1, 160, .inl v_p0_cells))] → va_S A s.heap H locs → J9 z7 z8 = some (r, o_i_p0_torn, o_v_p0_st) → W p l e rm_X12_read s m ([.ref a_p0, .int x1, .int x2, .int x3, .int x4] : List Value).toArray below meth c H locs 0 0 Q (F0 m 163 ls []) := by
        clear hf hl hP hD hS
        intro z7 z8 ls H locs hl hP hD hS hf
        replace hf := jn2_s eJ9 hf
        refine lv_aload_n hx hb dX12_read_163 rfl (lv_at hl 2 rfl) ?_
        refine lv_iload hx hb dX12_read_164 (lv_at hl 1 rfl) ?_
        refine lv_topi (fun z10 ez => ?_)
        replace hf := bnd_s hf ez
        clear ez
        refine va_put (D := D) (ci := 12) (v := .int z10) (ty := .int) (C := RX12) (T := TX12) (N := 37) hx hb hts inX12_read_X12 tyX12 tyX12_ok nmX12 hown hK hP hD hS 0 rfl rfl 36 (by decide) (hts _ mwX12_read_2) (fun _ h9 => h9) rfl (by decide +kernel) rfl rfl (Nat.le_of_ble_eq_true rfl) dX12_read_166 (fun H locs hP hD hS => ?_)
        have hP : va_P D vwCl [(a_p0, .inr (12, [.ref a_p0_st, .ref a_p0_isKept, .int i_p0_seats, .int i_p0_stirs, .ref a_p0_brings, .ref a_p0_need, .ref a_p0_draft, .int i_p0_dSeats, .int i_p0_dStirs, .ref a_p0_dStir, .ref a_p0_dNeed, .int i_p0_told, .int i_p0_highest, .ref a_p0_tape, .int i_p0_taped, .int i_p0_pos, .int i_p0_from, .int i_p0_sort, .int i_p0_value, .int i_p0_fault, .int i_p0_wrongAt, .ref a_p0_places, .ref a_p0_stirred, .ref a_p0_ways, .ref a_p0_waysThen, .ref a_p0_stays, .ref a_p0_fewest, .ref a_p0_bowls, .ref a_p0_has, .ref a_p0_goesOn, .ref a_p0_isThere, .ref a_p0_isThereThen, .ref a_p0_bestRow, .ref a_p0_lanes, .ref a_p0_sizes, .ref a_p0_cells, .int z10])), (a_p0_st, .inl (G 1, 152, .inl w3)), (a_p0_lanes, .inl (G 1, 4, .inl v_p0_lanes)), (a_p0_sizes, .inl (G 1, 4, .inl v_p0_sizes)), (a_p0_cells, .inl (G 1, 160, .inl v_p0_cells))] H := hP
        have hD : va_D A [(a_p0, .inr (12, [.ref a_p0_st, .ref a_p0_isKept, .int i_p0_seats, .int i_p0_stirs, .ref a_p0_brings, .ref a_p0_need, .ref a_p0_draft, .int i_p0_dSeats, .int i_p0_dStirs, .ref a_p0_dStir, .ref a_p0_dNeed, .int i_p0_told, .int i_p0_highest, .ref a_p0_tape, .int i_p0_taped, .int i_p0_pos, .int i_p0_from, .int i_p0_sort, .int i_p0_value, .int i_p0_fault, .int i_p0_wrongAt, .ref a_p0_places, .ref a_p0_stirred, .ref a_p0_ways, .ref a_p0_waysThen, .ref a_p0_stays, .ref a_p0_fewest, .ref a_p0_bowls, .ref a_p0_has, .ref a_p0_goesOn, .ref a_p0_isThere, .ref a_p0_isThereThen, .ref a_p0_bestRow, .ref a_p0_lanes, .ref a_p0_sizes, .ref a_p0_cells, .int z10])), (a_p0_st, .inl (G 1, 152, .inl w3)), (a_p0_lanes, .inl (G 1, 4, .inl v_p0_lanes)), (a_p0_sizes, .inl (G 1, 4, .inl v_p0_sizes)), (a_p0_cells, .inl (G 1, 160, .inl v_p0_cells))] := hD
        refine lv_iload hx hb dX12_read_169 (lv_at hl 0 rfl) ?_
        obtain ⟨rfl, rfl, rfl⟩ := ou3 hf
        rw [hQ]
        exact W.iret hx hb hr (fun t ht hW => ⟨⟨_, (), rfl, rfl, by rw [ht]; exact hP, va_K.moved hW.alike hK, hD⟩, hS.F ht⟩) hS.2.2 dX12_read_171
      have hq := jn_i hf
      clear hf
      obtain ⟨J12, eJ12, hf⟩ := hq
      have hJ12 : ∀ (z11 : Int32) (ls : Array Slot) (H : Heap) (locs : List Loc), lv_has ls 10 [(7, .int z11), (0, .ref a_p0)] → va_P D vwCl [(a_p0, .inr (12, [.ref a_p0_st, .ref a_p0_isKept, .int i_p0_seats, .int i_p0_stirs, .ref a_p0_brings, .ref a_p0_need, .ref a_p0_draft, .int i_p0_dSeats, .int i_p0_dStirs, .ref a_p0_dStir, .ref a_p0_dNeed, .int i_p0_told, .int i_p0_highest, .ref a_p0_tape, .int i_p0_taped, .int i_p0_pos, .int i_p0_from, .int i_p0_sort, .int i_p0_value, .int i_p0_fault, .int i_p0_wrongAt, .ref a_p0_places, .ref a_p0_stirred, .ref a_p0_ways, .ref a_p0_waysThen, .ref a_p0_stays, .ref a_p0_fewest, .ref a_p0_bowls, .ref a_p0_has, .ref a_p0_goesOn, .ref a_p0_isThere, .ref a_p0_isThereThen, .ref a_p0_bestRow, .ref a_p0_lanes, .ref a_p0_sizes, .ref a_p0_cells, .int i_p0_torn])), (a_p0_st, .inl (G 1, 152, .inl w3)), (a_p0_lanes, .inl (G 1, 4, .inl v_p0_lanes)), (a_p0_sizes, .inl (G 1, 4, .inl v_p0_sizes)), (a_p0_cells, .inl (G 1, 160, .inl v_p0_cells))] H → va_D A [(a_p0, .inr (12, [.ref a_p0_st, .ref a_p0_isKept, .int i_p0_seats, .int i_p0_stirs, .ref a_p0_brings, .ref a_p0_need, .ref a_p0_draft, .int i_p0_dSeats, .int i_p0_dStirs, .ref a_p0_dStir, .ref a_p0_dNeed, .int i_p0_told, .int i_p0_highest, .ref a_p0_tape, .int i_p0_taped, .int i_p0_pos, .int i_p0_from, .int i_p0_sort, .int i_p0_value, .int i_p0_fault, .int i_p0_wrongAt, .ref a_p0_places, .ref a_p0_stirred, .ref a_p0_ways, .ref a_p0_waysThen, .ref a_p0_stays, .ref a_p0_fewest, .ref a_p0_bowls, .ref a_p0_has, .ref a_p0_goesOn, .ref a_p0_isThere, .ref a_p0_isThereThen, .ref a_p0_bestRow, .ref a_p0_lanes, .ref a_p0_sizes, .ref a_p0_cells, .int i_p0_torn])), (a_p0_st, .inl (G 1, 152, .inl w3)), (a_p0_lanes, .inl (G 1, 4, .inl v_p0_lanes)), (a_p0_sizes, .inl (G 1, 4, .inl v_p0_sizes)), (a_p0_cells, .inl (G 1, 160, .inl v_p0_cells))] → va_S A s.heap H locs → J12 z11 = some (r, o_i_p0_torn, o_v_p0_st) → W p l e rm_X12_read s m ([.ref a_p0, .int x1, .int x2, .int x3, .int x4] : List Value).toArray below meth c H locs 0 0 Q (F0 m 141 ls []) := by
        clear hf hl hP hD hS
        intro z11 ls H locs hl hP hD hS hf
        replace hf := jn1_s eJ12 hf
        refine lv_aload_n hx hb dX12_read_141 rfl (lv_at hl 1 rfl) ?_
        refine lv_iconst (v := (0 : Int32)) hx hb dX12_read_142 (by decide) ?_
        refine lv_bipush (v := (114 : Int32)) hx hb dX12_read_143 (by decide) ?_
        have hq := bd1_s hf
        clear hf
        obtain ⟨w13, hcall, hf⟩ := hq
        refine gcV (ws' := [(a_p0, .inr (12, [.ref a_p0_st, .ref a_p0_isKept, .int i_p0_seats, .int i_p0_stirs, .ref a_p0_brings, .ref a_p0_need, .ref a_p0_draft, .int i_p0_dSeats, .int i_p0_dStirs, .ref a_p0_dStir, .ref a_p0_dNeed, .int i_p0_told, .int i_p0_highest, .ref a_p0_tape, .int i_p0_taped, .int i_p0_pos, .int i_p0_from, .int i_p0_sort, .int i_p0_value, .int i_p0_fault, .int i_p0_wrongAt, .ref a_p0_places, .ref a_p0_stirred, .ref a_p0_ways, .ref a_p0_waysThen, .ref a_p0_stays, .ref a_p0_fewest, .ref a_p0_bowls, .ref a_p0_has, .ref a_p0_goesOn, .ref a_p0_isThere, .ref a_p0_isThereThen, .ref a_p0_bestRow, .ref a_p0_lanes, .ref a_p0_sizes, .ref a_p0_cells, .int i_p0_torn])), (a_p0_st, .inl (G 1, 152, .inl w13)), (a_p0_lanes, .inl (G 1, 4, .inl v_p0_lanes)), (a_p0_sizes, .inl (G 1, 4, .inl v_p0_sizes)), (a_p0_cells, .inl (G 1, 160, .inl v_p0_cells))]) (va_runV (As := [.int (0 : Int32), .int (114 : Int32)]) (rest := []) ⟨hx, hb, hml, hown, hts⟩ (c_X12_copies (l := l) (D := D) (G := G) (sz := H.size) (a_p0 := a_p0) (a_p0_st := a_p0_st) (a_p0_isKept := a_p0_isKept) (a_p0_brings := a_p0_brings) (a_p0_need := a_p0_need) (a_p0_draft := a_p0_draft) (a_p0_dStir := a_p0_dStir) (a_p0_dNeed := a_p0_dNeed) (a_p0_tape := a_p0_tape) (a_p0_places := a_p0_places) (a_p0_stirred := a_p0_stirred) (a_p0_ways := a_p0_ways) (a_p0_waysThen := a_p0_waysThen) (a_p0_stays := a_p0_stays) (a_p0_fewest := a_p0_fewest) (a_p0_bowls := a_p0_bowls) (a_p0_has := a_p0_has) (a_p0_goesOn := a_p0_goesOn) (a_p0_isThere := a_p0_isThere) (a_p0_isThereThen := a_p0_isThereThen) (a_p0_bestRow := a_p0_bestRow) (a_p0_lanes := a_p0_lanes) (a_p0_sizes := a_p0_sizes) (a_p0_cells := a_p0_cells) (i_p0_seats := i_p0_seats) (i_p0_stirs := i_p0_stirs) (i_p0_dSeats := i_p0_dSeats) (i_p0_dStirs := i_p0_dStirs) (i_p0_told := i_p0_told) (i_p0_highest := i_p0_highest) (i_p0_taped := i_p0_taped) (i_p0_pos := i_p0_pos) (i_p0_from := i_p0_from) (i_p0_sort := i_p0_sort) (i_p0_value := i_p0_value) (i_p0_fault := i_p0_fault) (i_p0_wrongAt := i_p0_wrongAt) (i_p0_torn := i_p0_torn) (v_p0_st := w3) (x1 := (0 : Int32)) (x2 := (114 : Int32)) (o_v_p0_st := w13) (hf := hcall)) (cwV 2 hts gX12_read_X12_copies rfl rfl rfl (by decide +kernel) ⟨Nat.le_of_ble_eq_true rfl, Nat.le_of_ble_eq_true rfl⟩) (preG_V (ci := 12) (hP.sub [0, 1] rfl) (hD.sub [0, 1] rfl rfl) hK rfl rfl) rfl rfl hl.1 rfl (lv_room (Nat.le_of_ble_eq_true rfl)) dX12_read_145 ⟨Nat.le_of_ble_eq_true rfl, Nat.le_of_ble_eq_true rfl⟩) hP hD hS hA [0, 1] [2, 3, 4] [3, 4, 0, 1, 2] rfl rfl rfl (by decide) rfl rfl rfl (fun H locs hP hD hS => ?_)
        clear hcall
        refine lv_bipush (v := (-20 : Int32)) hx hb dX12_read_148 (by decide) ?_
        refine lv_iload hx hb dX12_read_150 (lv_at hl 0 rfl) ?_
        refine lv_isub hx hb dX12_read_152 ?_
        obtain ⟨rfl, rfl, rfl⟩ := ou3 hf
        rw [hQ]
        exact W.iret hx hb hr (fun t ht hW => ⟨⟨_, (), rfl, rfl, by rw [ht]; exact hP, va_K.moved hW.alike hK, hD⟩, hS.F ht⟩) hS.2.2 dX12_read_153
      have hq := lq3_i hf
      clear hf
      obtain ⟨B17, eB17, NB17, hf⟩ := hq
      have hB17 : ∀ (n : Nat) (z14 : Int32) (z15 : Int32) (z16 : Int32) (ls : Array Slot) (H : Heap) (locs : List Loc), lv_has ls 10 [(7, .int z14), (6, .int z15), (5, .int z16), (0, .ref a_p0), (1, .int x1), (2, .int x2), (3, .int x3), (4, .int x4)] → va_P D vwCl [(a_p0, .inr (12, [.ref a_p0_st, .ref a_p0_isKept, .int i_p0_seats, .int i_p0_stirs, .ref a_p0_brings, .ref a_p0_need, .ref a_p0_draft, .int i_p0_dSeats, .int i_p0_dStirs, .ref a_p0_dStir, .ref a_p0_dNeed, .int i_p0_told, .int i_p0_highest, .ref a_p0_tape, .int i_p0_taped, .int i_p0_pos, .int i_p0_from, .int i_p0_sort, .int i_p0_value, .int i_p0_fault, .int i_p0_wrongAt, .ref a_p0_places, .ref a_p0_stirred, .ref a_p0_ways, .ref a_p0_waysThen, .ref a_p0_stays, .ref a_p0_fewest, .ref a_p0_bowls, .ref a_p0_has, .ref a_p0_goesOn, .ref a_p0_isThere, .ref a_p0_isThereThen, .ref a_p0_bestRow, .ref a_p0_lanes, .ref a_p0_sizes, .ref a_p0_cells, .int i_p0_torn])), (a_p0_st, .inl (G 1, 152, .inl w3)), (a_p0_lanes, .inl (G 1, 4, .inl v_p0_lanes)), (a_p0_sizes, .inl (G 1, 4, .inl v_p0_sizes)), (a_p0_cells, .inl (G 1, 160, .inl v_p0_cells))] H → va_D A [(a_p0, .inr (12, [.ref a_p0_st, .ref a_p0_isKept, .int i_p0_seats, .int i_p0_stirs, .ref a_p0_brings, .ref a_p0_need, .ref a_p0_draft, .int i_p0_dSeats, .int i_p0_dStirs, .ref a_p0_dStir, .ref a_p0_dNeed, .int i_p0_told, .int i_p0_highest, .ref a_p0_tape, .int i_p0_taped, .int i_p0_pos, .int i_p0_from, .int i_p0_sort, .int i_p0_value, .int i_p0_fault, .int i_p0_wrongAt, .ref a_p0_places, .ref a_p0_stirred, .ref a_p0_ways, .ref a_p0_waysThen, .ref a_p0_stays, .ref a_p0_fewest, .ref a_p0_bowls, .ref a_p0_has, .ref a_p0_goesOn, .ref a_p0_isThere, .ref a_p0_isThereThen, .ref a_p0_bestRow, .ref a_p0_lanes, .ref a_p0_sizes, .ref a_p0_cells, .int i_p0_torn])), (a_p0_st, .inl (G 1, 152, .inl w3)), (a_p0_lanes, .inl (G 1, 4, .inl v_p0_lanes)), (a_p0_sizes, .inl (G 1, 4, .inl v_p0_sizes)), (a_p0_cells, .inl (G 1, 160, .inl v_p0_cells))] → va_S A s.heap H locs → lq3 B17 n z14 z15 z16 = some (r, o_i_p0_torn, o_v_p0_st) → W p l e rm_X12_read s m ([.ref a_p0, .int x1, .int x2, .int x3, .int x4] : List Value).toArray below meth c H locs 0 0 Q (F0 m 39 ls []) := by
        clear hf hl hP hD hS
        intro n
        induction n with
        | zero =>
          intro z14 z15 z16 ls H locs hl hP hD hS hf
          exact (lq3_0 hf).elim
        | succ n ih39 =>
          intro z14 z15 z16 ls H locs hl hP hD hS hf
          replace hf := lq3_s eB17 hf
          unfold B_X12_read_39 at hf
          refine lv_iload hx hb dX12_read_39 (lv_at hl 0 rfl) ?_
          refine lv_iload hx hb dX12_read_41 (lv_at hl 7 rfl) ?_
          refine lv_icmp_ge (tgt := 163) hx hb dX12_read_43 (by decide) (fun cc => ?_) (fun cc => ?_)
          ·
            replace hf := ite_t cc hf
            clear cc
            exact hJ9 _ _ _ _ _ (lv_sub hl [1, 2, 3] rfl) hP hD hS hf
          ·
            replace hf := ite_f cc hf
            clear cc
            refine lv_iload hx hb dX12_read_46 (lv_at hl 2 rfl) ?_
            refine lv_if_ne (tgt := 163) hx hb dX12_read_48 (by decide) (fun cc => ?_) (fun cc => ?_)
            ·
              replace hf := ite_f cc hf
              clear cc
              exact hJ9 _ _ _ _ _ (lv_sub hl [1, 2, 3] rfl) hP hD hS hf
            ·
              replace hf := ite_t cc hf
              clear cc
              refine lv_iload_n hx hb dX12_read_51 rfl (lv_at hl 6 rfl) ?_
              refine lv_i2l hx hb dX12_read_52 rfl ?_
              refine lv_iload hx hb dX12_read_53 (lv_at hl 0 rfl) ?_
              refine lv_i2l hx hb dX12_read_55 rfl ?_
              refine lv_ladd hx hb dX12_read_56 ?_
              refine lv_topl (fun z18 ez => ?_)
              replace hf := bnd_s hf ez
              clear ez
              refine lv_lstore (lv' := [(8, .long z18), (7, .int z14), (6, .int z15), (5, .int z16), (0, .ref a_p0), (1, .int x1), (2, .int x2), (3, .int x3), (4, .int x4)]) hx hb dX12_read_57 hl (by decide) rfl (fun ls hl => ?_)
              refine lv_aload_n hx hb dX12_read_59 rfl (lv_at hl 4 rfl) ?_
              refine va_get (D := D) (ci := 12) (v := .ref a_p0_lanes) (C := RX12) (T := TX12) (N := 37) hx hb hts inX12_read_X12 hown hK hP 0 rfl rfl 33 (by decide) (hts _ mwX12_read_3) (fun _ h9 => h9) rfl dX12_read_60 ?_
              refine lv_iload_n hx hb dX12_read_63 rfl (lv_at hl 5 rfl) ?_
              have hc := ck_c hf
              replace hf := ck_r hf
              refine va_iald hx hb hK hP 2 1 rfl rfl (ixB_in hc) dX12_read_64 ?_
              clear hc
              refine lv_bipush (v := (-4 : Int32)) hx hb dX12_read_65 (by decide) ?_
              have hq := jn_i hf
              clear hf
              obtain ⟨J20, eJ20, hf⟩ := hq
              have hJ20 : ∀ (z19 : Int32) (ls : Array Slot) (H : Heap) (locs : List Loc), lv_has ls 10 [(7, .int z14), (6, .int z15), (0, .ref a_p0), (1, .int x1), (2, .int x2), (3, .int x3), (4, .int x4)] → va_P D vwCl [(a_p0, .inr (12, [.ref a_p0_st, .ref a_p0_isKept, .int i_p0_seats, .int i_p0_stirs, .ref a_p0_brings, .ref a_p0_need, .ref a_p0_draft, .int i_p0_dSeats, .int i_p0_dStirs, .ref a_p0_dStir, .ref a_p0_dNeed, .int i_p0_told, .int i_p0_highest, .ref a_p0_tape, .int i_p0_taped, .int i_p0_pos, .int i_p0_from, .int i_p0_sort, .int i_p0_value, .int i_p0_fault, .int i_p0_wrongAt, .ref a_p0_places, .ref a_p0_stirred, .ref a_p0_ways, .ref a_p0_waysThen, .ref a_p0_stays, .ref a_p0_fewest, .ref a_p0_bowls, .ref a_p0_has, .ref a_p0_goesOn, .ref a_p0_isThere, .ref a_p0_isThereThen, .ref a_p0_bestRow, .ref a_p0_lanes, .ref a_p0_sizes, .ref a_p0_cells, .int i_p0_torn])), (a_p0_st, .inl (G 1, 152, .inl w3)), (a_p0_lanes, .inl (G 1, 4, .inl v_p0_lanes)), (a_p0_sizes, .inl (G 1, 4, .inl v_p0_sizes)), (a_p0_cells, .inl (G 1, 160, .inl v_p0_cells))] H → va_D A [(a_p0, .inr (12, [.ref a_p0_st, .ref a_p0_isKept, .int i_p0_seats, .int i_p0_stirs, .ref a_p0_brings, .ref a_p0_need, .ref a_p0_draft, .int i_p0_dSeats, .int i_p0_dStirs, .ref a_p0_dStir, .ref a_p0_dNeed, .int i_p0_told, .int i_p0_highest, .ref a_p0_tape, .int i_p0_taped, .int i_p0_pos, .int i_p0_from, .int i_p0_sort, .int i_p0_value, .int i_p0_fault, .int i_p0_wrongAt, .ref a_p0_places, .ref a_p0_stirred, .ref a_p0_ways, .ref a_p0_waysThen, .ref a_p0_stays, .ref a_p0_fewest, .ref a_p0_bowls, .ref a_p0_has, .ref a_p0_goesOn, .ref a_p0_isThere, .ref a_p0_isThereThen, .ref a_p0_bestRow, .ref a_p0_lanes, .ref a_p0_sizes, .ref a_p0_cells, .int i_p0_torn])), (a_p0_st, .inl (G 1, 152, .inl w3)), (a_p0_lanes, .inl (G 1, 4, .inl v_p0_lanes)), (a_p0_sizes, .inl (G 1, 4, .inl v_p0_sizes)), (a_p0_cells, .inl (G 1, 160, .inl v_p0_cells))] → va_S A s.heap H locs → J20 z19 = some (r, o_i_p0_torn, o_v_p0_st) → W p l e rm_X12_read s m ([.ref a_p0, .int x1, .int x2, .int x3, .int x4] : List Value).toArray below meth c H locs 0 0 Q (F0 m 113 ls [.int z19]) := by
                clear hf hl hP hD hS
                intro z19 ls H locs hl hP hD hS hf
                replace hf := jn1_s eJ20 hf
                refine lv_topi (fun z21 ez => ?_)
                replace hf := bnd_s hf ez
                clear ez
                refine lv_istore (lv' := [(5, .int z21), (7, .int z14), (6, .int z15), (0, .ref a_p0), (1, .int x1), (2, .int x2), (3, .int x3), (4, .int x4)]) hx hb dX12_read_113 hl (by decide) rfl (fun ls hl => ?_)
                refine lv_iload hx hb dX12_read_115 (lv_at hl 0 rfl) ?_
                refine lv_if_ne (tgt := 157) hx hb dX12_read_117 (by decide) (fun cc => ?_) (fun cc => ?_)
                ·
                  replace hf := ite_f cc hf
                  clear cc
                  obtain ⟨z22, ez⟩ : ∃ y : Int32, y = (z14 + (1 : Int32)) := ⟨_, rfl⟩
                  replace hf := bnd_s hf ez
                  refine lv_iinc (v := z22) (lv' := [(7, .int z22), (5, .int z21), (6, .int z15), (0, .ref a_p0), (1, .int x1), (2, .int x2), (3, .int x3), (4, .int x4)]) hx hb dX12_read_157 hl (k := 1) rfl (by rw [ez]; rfl) (by decide) rfl (fun ls hl => ?_)
                  clear ez
                  refine lv_goto (tgt := 39) hx hb dX12_read_160 (by decide) ?_
                  exact ih39 _ _ _ _ _ _ (lv_sub hl [0, 2, 1, 3, 4, 5, 6, 7] rfl) hP hD hS hf
                ·
                  replace hf := ite_t cc hf
                  clear cc
                  refine lv_aload_n hx hb dX12_read_120 rfl (lv_at hl 3 rfl) ?_
                  refine lv_aload_n hx hb dX12_read_121 rfl (lv_at hl 3 rfl) ?_
                  refine va_get (D := D) (ci := 12) (v := .ref a_p0_cells) (C := RX12) (T := TX12) (N := 37) hx hb hts inX12_read_X12 hown hK hP 0 rfl rfl 35 (by decide) (hts _ mwX12_read_4) (fun _ h9 => h9) rfl dX12_read_122 ?_
                  refine lv_bipush (v := (40 : Int32)) hx hb dX12_read_125 (by decide) ?_
                  refine lv_iload_n hx hb dX12_read_127 rfl (lv_at hl 4 rfl) ?_
                  refine lv_imul hx hb dX12_read_128 ?_
                  refine lv_iload_n hx hb dX12_read_129 rfl (lv_at hl 6 rfl) ?_
                  refine lv_iadd hx hb dX12_read_130 ?_
                  refine lv_iload hx hb dX12_read_131 (lv_at hl 1 rfl) ?_
                  refine lv_iadd hx hb dX12_read_133 ?_
                  have hc := ck_c hf
                  replace hf := ck_r hf
                  refine va_iald hx hb hK hP 4 1 rfl rfl (ixB_in hc) dX12_read_134 ?_
                  clear hc
                  have hq := bd1_s hf
                  clear hf
                  obtain ⟨z23, hcall, hf⟩ := hq
                  refine gcI (ws' := [(a_p0, .inr (12, [.ref a_p0_st, .ref a_p0_isKept, .int i_p0_seats, .int i_p0_stirs, .ref a_p0_brings, .ref a_p0_need, .ref a_p0_draft, .int i_p0_dSeats, .int i_p0_dStirs, .ref a_p0_dStir, .ref a_p0_dNeed, .int i_p0_told, .int i_p0_highest, .ref a_p0_tape, .int i_p0_taped, .int i_p0_pos, .int i_p0_from, .int i_p0_sort, .int i_p0_value, .int i_p0_fault, .int i_p0_wrongAt, .ref a_p0_places, .ref a_p0_stirred, .ref a_p0_ways, .ref a_p0_waysThen, .ref a_p0_stays, .ref a_p0_fewest, .ref a_p0_bowls, .ref a_p0_has, .ref a_p0_goesOn, .ref a_p0_isThere, .ref a_p0_isThereThen, .ref a_p0_bestRow, .ref a_p0_lanes, .ref a_p0_sizes, .ref a_p0_cells, .int i_p0_torn])), (a_p0_st, .inl (G 1, 152, .inl w3)), (a_p0_lanes, .inl (G 1, 4, .inl v_p0_lanes)), (a_p0_sizes, .inl (G 1, 4, .inl v_p0_sizes)), (a_p0_cells, .inl (G 1, 160, .inl v_p0_cells))]) (va_runV (As := [.int (v_p0_cells (((((40 : Int32) * x1) + x3) + z14)).toNatClampNeg)]) (rest := []) ⟨hx, hb, hml, hown, hts⟩ (c_X12_day (l := l) (D := D) (G := G) (sz := H.size) (a_p0 := a_p0) (a_p0_st := a_p0_st) (a_p0_isKept := a_p0_isKept) (a_p0_brings := a_p0_brings) (a_p0_need := a_p0_need) (a_p0_draft := a_p0_draft) (a_p0_dStir := a_p0_dStir) (a_p0_dNeed := a_p0_dNeed) (a_p0_tape := a_p0_tape) (a_p0_places := a_p0_places) (a_p0_stirred := a_p0_stirred) (a_p0_ways := a_p0_ways) (a_p0_waysThen := a_p0_waysThen) (a_p0_stays := a_p0_stays) (a_p0_fewest := a_p0_fewest) (a_p0_bowls := a_p0_bowls) (a_p0_has := a_p0_has) (a_p0_goesOn := a_p0_goesOn) (a_p0_isThere := a_p0_isThere) (a_p0_isThereThen := a_p0_isThereThen) (a_p0_bestRow := a_p0_bestRow) (a_p0_lanes := a_p0_lanes) (a_p0_sizes := a_p0_sizes) (a_p0_cells := a_p0_cells) (i_p0_seats := i_p0_seats) (i_p0_stirs := i_p0_stirs) (i_p0_dSeats := i_p0_dSeats) (i_p0_dStirs := i_p0_dStirs) (i_p0_told := i_p0_told) (i_p0_highest := i_p0_highest) (i_p0_taped := i_p0_taped) (i_p0_pos := i_p0_pos) (i_p0_from := i_p0_from) (i_p0_sort := i_p0_sort) (i_p0_value := i_p0_value) (i_p0_fault := i_p0_fault) (i_p0_wrongAt := i_p0_wrongAt) (i_p0_torn := i_p0_torn) (v_p0_st := w3) (x1 := (v_p0_cells (((((40 : Int32) * x1) + x3) + z14)).toNatClampNeg)) (r := z23) (hf := hcall)) (cwV 1 hts gX12_read_X12_day rfl rfl rfl (by decide +kernel) ⟨Nat.le_of_ble_eq_true rfl, Nat.le_of_ble_eq_true rfl⟩) (preG_V (ci := 12) (hP.sub [0, 1] rfl) (hD.sub [0, 1] rfl rfl) hK rfl rfl) rfl rfl hl.1 rfl (lv_room (Nat.le_of_ble_eq_true rfl)) dX12_read_135 ⟨Nat.le_of_ble_eq_true rfl, Nat.le_of_ble_eq_true rfl⟩) hP hD hS hA [0, 1] [2, 3, 4] [3, 4, 0, 1, 2] rfl rfl rfl (by decide) rfl rfl rfl (fun H locs hP hD hS => ?_)
                  clear hcall
                  refine lv_if_ge (tgt := 154) hx hb dX12_read_138 (by decide) (fun cc => ?_) (fun cc => ?_)
                  ·
                    replace hf := ite_t cc hf
                    clear cc
                    obtain ⟨z24, ez⟩ : ∃ y : Int32, y = (z15 + (1 : Int32)) := ⟨_, rfl⟩
                    replace hf := bnd_s hf ez
                    refine lv_iinc (v := z24) (lv' := [(6, .int z24), (5, .int z21), (7, .int z14), (0, .ref a_p0), (1, .int x1), (2, .int x2), (3, .int x3), (4, .int x4)]) hx hb dX12_read_154 hl (k := 2) rfl (by rw [ez]; rfl) (by decide) rfl (fun ls hl => ?_)
                    clear ez
                    obtain ⟨z25, ez⟩ : ∃ y : Int32, y = (z14 + (1 : Int32)) := ⟨_, rfl⟩
                    replace hf := bnd_s hf ez
                    refine lv_iinc (v := z25) (lv' := [(7, .int z25), (6, .int z24), (5, .int z21), (0, .ref a_p0), (1, .int x1), (2, .int x2), (3, .int x3), (4, .int x4)]) hx hb dX12_read_157 hl (k := 2) rfl (by rw [ez]; rfl) (by decide) rfl (fun ls hl => ?_)
                    clear ez
                    refine lv_goto (tgt := 39) hx hb dX12_read_160 (by decide) ?_
                    exact ih39 _ _ _ _ _ _ (lv_sub hl [0, 1, 2, 3, 4, 5, 6, 7] rfl) hP hD hS hf
                  ·
                    replace hf := ite_f cc hf
                    clear cc
                    exact hJ12 _ _ _ _ (lv_sub hl [1, 3] rfl) hP hD hS hf
              refine lv_icmp_ne (tgt := 74) hx hb dX12_read_67 (by decide) (fun cc => ?_) (fun cc => ?_)
              ·
                replace hf := ite_f cc hf
                clear cc
                refine lv_aload_n hx hb dX12_read_74 rfl (lv_at hl 4 rfl) ?_
                refine va_get (D := D) (ci := 12) (v := .ref a_p0_lanes) (C := RX12) (T := TX12) (N := 37) hx hb hts inX12_read_X12 hown hK hP 0 rfl rfl 33 (by decide) (hts _ mwX12_read_3) (fun _ h9 => h9) rfl dX12_read_75 ?_
                refine lv_iload_n hx hb dX12_read_78 rfl (lv_at hl 5 rfl) ?_
                have hc := ck_c hf
                replace hf := ck_r hf
                refine va_iald hx hb hK hP 2 1 rfl rfl (ixB_in hc) dX12_read_79 ?_
                clear hc
                refine lv_iload_n hx hb dX12_read_80 rfl (lv_at hl 6 rfl) ?_
                refine lv_icmp_eq (tgt := 88) hx hb dX12_read_81 (by decide) (fun cc => ?_) (fun cc => ?_)
                ·
                  replace hf := ite_t cc hf
                  clear cc
                  refine lv_lload hx hb dX12_read_88 (lv_at hl 0 rfl) ?_
                  refine lv_lconst (v := (0 : Int64)) hx hb dX12_read_90 (by decide) ?_
                  refine W.lcmp hx hb dX12_read_91 ?_
                  refine lv_if_lt (tgt := 108) hx hb dX12_read_92 (by decide) (fun cc => ?_) (fun cc => ?_)
                  ·
                    replace hf := ite_t cc hf
                    clear cc
                    refine lv_iconst (v := (2 : Int32)) hx hb dX12_read_108 (by decide) ?_
                    refine lv_goto (tgt := 113) hx hb dX12_read_109 (by decide) ?_
                    exact hJ20 _ _ _ _ (lv_sub hl [1, 2, 4, 5, 6, 7, 8] rfl) hP hD hS hf
                  ·
                    replace hf := ite_f cc hf
                    clear cc
                    refine lv_lload hx hb dX12_read_95 (lv_at hl 0 rfl) ?_
                    refine lv_aload_n hx hb dX12_read_97 rfl (lv_at hl 4 rfl) ?_
                    refine va_get (D := D) (ci := 12) (v := .ref a_p0_sizes) (C := RX12) (T := TX12) (N := 37) hx hb hts inX12_read_X12 hown hK hP 0 rfl rfl 34 (by decide) (hts _ mwX12_read_5) (fun _ h9 => h9) rfl dX12_read_98 ?_
                    refine lv_iload_n hx hb dX12_read_101 rfl (lv_at hl 5 rfl) ?_
                    have hc := ck_c hf
                    replace hf := ck_r hf
                    refine va_iald hx hb hK hP 3 1 rfl rfl (ixB_in hc) dX12_read_102 ?_
                    clear hc
                    refine lv_i2l hx hb dX12_read_103 rfl ?_
                    refine W.lcmp hx hb dX12_read_104 ?_
                    refine lv_if_lt (tgt := 112) hx hb dX12_read_105 (by decide) (fun cc => ?_) (fun cc => ?_)
                    ·
                      replace hf := ite_t cc hf
                      clear cc
                      refine lv_iconst (v := (0 : Int32)) hx hb dX12_read_112 (by decide) ?_
                      exact hJ20 _ _ _ _ (lv_sub hl [1, 2, 4, 5, 6, 7, 8] rfl) hP hD hS hf
                    ·
                      replace hf := ite_f cc hf
                      clear cc
                      refine lv_iconst (v := (2 : Int32)) hx hb dX12_read_108 (by decide) ?_
                      refine lv_goto (tgt := 113) hx hb dX12_read_109 (by decide) ?_
                      exact hJ20 _ _ _ _ (lv_sub hl [1, 2, 4, 5, 6, 7, 8] rfl) hP hD hS hf
                ·
                  replace hf := ite_f cc hf
                  clear cc
                  refine lv_iconst (v := (3 : Int32)) hx hb dX12_read_84 (by decide) ?_
                  refine lv_goto (tgt := 113) hx hb dX12_read_85 (by decide) ?_
                  exact hJ20 _ _ _ _ (lv_sub hl [1, 2, 4, 5, 6, 7, 8] rfl) hP hD hS hf
              ·
                replace hf := ite_t cc hf
                clear cc
                refine lv_iconst (v := (1 : Int32)) hx hb dX12_read_70 (by decide) ?_
                refine lv_goto (tgt := 113) hx hb dX12_read_71 (by decide) ?_
                exact hJ20 _ _ _ _ (lv_sub hl [1, 2, 4, 5, 6, 7, 8] rfl) hP hD hS hf
      exact hB17 _ _ _ _ _ _ _ (lv_sub hl [0, 1, 2, 3, 4, 5, 6, 7] rfl) hP hD hS hf
    ·
      replace hf := ite_t cc hf
      clear cc
      refine lv_iconst (v := (-1 : Int32)) hx hb dX12_read_21 (by decide) ?_
      obtain ⟨rfl, rfl, rfl⟩ := ou3 hf
      rw [hQ]
      exact W.iret hx hb hr (fun t ht hW => ⟨⟨_, (), rfl, rfl, by rw [ht]; exact hP, va_K.moved hW.alike hK, hD⟩, hS.F ht⟩) hS.2.2 dX12_read_22

noncomputable def f_X12_torn (i_p0_torn : Int32) : Option (Int32) := (some i_p0_torn)
abbrev rm_X12_torn : Room := { frames := 0, cells := 0, slots := 0, locals := 0 }
theorem inX12_torn_X12 : ∀ w ∈ wsX120, w ∈ wsX12_torn := by decide +kernel
theorem mwX12_torn_1 : Cond.fieldLink RX12 319 "LadleKingsModel" "torn" "I" ∈ wsX12_torn := by decide +kernel
set_option maxHeartbeats 8000000 in
set_option maxRecDepth 100000 in
theorem c_X12_torn (l : Launch) (D : va_G) (G : Nat → ClassId) (sz : Nat) (a_p0 : Nat) (a_p0_st : Nat) (a_p0_isKept : Nat) (a_p0_brings : Nat) (a_p0_need : Nat) (a_p0_draft : Nat) (a_p0_dStir : Nat) (a_p0_dNeed : Nat) (a_p0_tape : Nat) (a_p0_places : Nat) (a_p0_stirred : Nat) (a_p0_ways : Nat) (a_p0_waysThen : Nat) (a_p0_stays : Nat) (a_p0_fewest : Nat) (a_p0_bowls : Nat) (a_p0_has : Nat) (a_p0_goesOn : Nat) (a_p0_isThere : Nat) (a_p0_isThereThen : Nat) (a_p0_bestRow : Nat) (a_p0_lanes : Nat) (a_p0_sizes : Nat) (a_p0_cells : Nat) (i_p0_seats : Int32) (i_p0_stirs : Int32) (i_p0_dSeats : Int32) (i_p0_dStirs : Int32) (i_p0_told : Int32) (i_p0_highest : Int32) (i_p0_taped : Int32) (i_p0_pos : Int32) (i_p0_from : Int32) (i_p0_sort : Int32) (i_p0_value : Int32) (i_p0_fault : Int32) (i_p0_wrongAt : Int32) (i_p0_torn : Int32) (r : Int32) (hf : f_X12_torn i_p0_torn = some r) : Met l yX12_torn wsX12_torn rm_X12_torn (pcG D G [.ref a_p0] sz [(a_p0, .inr (12, [.ref a_p0_st, .ref a_p0_isKept, .int i_p0_seats, .int i_p0_stirs, .ref a_p0_brings, .ref a_p0_need, .ref a_p0_draft, .int i_p0_dSeats, .int i_p0_dStirs, .ref a_p0_dStir, .ref a_p0_dNeed, .int i_p0_told, .int i_p0_highest, .ref a_p0_tape, .int i_p0_taped, .int i_p0_pos, .int i_p0_from, .int i_p0_sort, .int i_p0_value, .int i_p0_fault, .int i_p0_wrongAt, .ref a_p0_places, .ref a_p0_stirred, .ref a_p0_ways, .ref a_p0_waysThen, .ref a_p0_stays, .ref a_p0_fewest, .ref a_p0_bowls, .ref a_p0_has, .ref a_p0_goesOn, .ref a_p0_isThere, .ref a_p0_isThereThen, .ref a_p0_bestRow, .ref a_p0_lanes, .ref a_p0_sizes, .ref a_p0_cells, .int i_p0_torn]))]) (qcI D G r [(a_p0, .inr (12, [.ref a_p0_st, .ref a_p0_isKept, .int i_p0_seats, .int i_p0_stirs, .ref a_p0_brings, .ref a_p0_need, .ref a_p0_draft, .int i_p0_dSeats, .int i_p0_dStirs, .ref a_p0_dStir, .ref a_p0_dNeed, .int i_p0_told, .int i_p0_highest, .ref a_p0_tape, .int i_p0_taped, .int i_p0_pos, .int i_p0_from, .int i_p0_sort, .int i_p0_value, .int i_p0_fault, .int i_p0_wrongAt, .ref a_p0_places, .ref a_p0_stirred, .ref a_p0_ways, .ref a_p0_waysThen, .ref a_p0_stays, .ref a_p0_fewest, .ref a_p0_bowls, .ref a_p0_has, .ref a_p0_goesOn, .ref a_p0_isThere, .ref a_p0_isThereThen, .ref a_p0_bestRow, .ref a_p0_lanes, .ref a_p0_sizes, .ref a_p0_cells, .int i_p0_torn]))] (va_A [(a_p0, .inr (12, [.ref a_p0_st, .ref a_p0_isKept, .int i_p0_seats, .int i_p0_stirs, .ref a_p0_brings, .ref a_p0_need, .ref a_p0_draft, .int i_p0_dSeats, .int i_p0_dStirs, .ref a_p0_dStir, .ref a_p0_dNeed, .int i_p0_told, .int i_p0_highest, .ref a_p0_tape, .int i_p0_taped, .int i_p0_pos, .int i_p0_from, .int i_p0_sort, .int i_p0_value, .int i_p0_fault, .int i_p0_wrongAt, .ref a_p0_places, .ref a_p0_stirred, .ref a_p0_ways, .ref a_p0_waysThen, .ref a_p0_stays, .ref a_p0_fewest, .ref a_p0_bowls, .ref a_p0_has, .ref a_p0_goesOn, .ref a_p0_isThere, .ref a_p0_isThereThen, .ref a_p0_bestRow, .ref a_p0_lanes, .ref a_p0_sizes, .ref a_p0_cells, .int i_p0_torn]))] sz)) 0 0 (va_A [(a_p0, .inr (12, [.ref a_p0_st, .ref a_p0_isKept, .int i_p0_seats, .int i_p0_stirs, .ref a_p0_brings, .ref a_p0_need, .ref a_p0_draft, .int i_p0_dSeats, .int i_p0_dStirs, .ref a_p0_dStir, .ref a_p0_dNeed, .int i_p0_told, .int i_p0_highest, .ref a_p0_tape, .int i_p0_taped, .int i_p0_pos, .int i_p0_from, .int i_p0_sort, .int i_p0_value, .int i_p0_fault, .int i_p0_wrongAt, .ref a_p0_places, .ref a_p0_stirred, .ref a_p0_ways, .ref a_p0_waysThen, .ref a_p0_stays, .ref a_p0_fewest, .ref a_p0_bowls, .ref a_p0_has, .ref a_p0_goesOn, .ref a_p0_isThere, .ref a_p0_isThereThen, .ref a_p0_bestRow, .ref a_p0_lanes, .ref a_p0_sizes, .ref a_p0_cells, .int i_p0_torn]))] sz) := by
  refine Met.ofW (cc := cX12_torn) (maxL := 1) (ret := (some .int)) (by decide) rfl ?_
  intro p e s m args below meth c s₁ B hml hv
  obtain ⟨rfl, hsz, hP, hK, hD0⟩ := hv
  have hx := B.exec
  have hb := B.bytes
  have hr := B.returns
  have hts := atoms_spec (ws := wsX12_torn) B.pre
  have hown : s.vm.findClass RX12 = some m.cls := findClass_of_methodNamed B.named
  have hlocks := B.notSynchronized
  subst hsz
  have hD := hD0.self (sz := s.heap.size)
  generalize hAe : va_A [(a_p0, .inr (12, [.ref a_p0_st, .ref a_p0_isKept, .int i_p0_seats, .int i_p0_stirs, .ref a_p0_brings, .ref a_p0_need, .ref a_p0_draft, .int i_p0_dSeats, .int i_p0_dStirs, .ref a_p0_dStir, .ref a_p0_dNeed, .int i_p0_told, .int i_p0_highest, .ref a_p0_tape, .int i_p0_taped, .int i_p0_pos, .int i_p0_from, .int i_p0_sort, .int i_p0_value, .int i_p0_fault, .int i_p0_wrongAt, .ref a_p0_places, .ref a_p0_stirred, .ref a_p0_ways, .ref a_p0_waysThen, .ref a_p0_stays, .ref a_p0_fewest, .ref a_p0_bowls, .ref a_p0_has, .ref a_p0_goesOn, .ref a_p0_isThere, .ref a_p0_isThereThen, .ref a_p0_bestRow, .ref a_p0_lanes, .ref a_p0_sizes, .ref a_p0_cells, .int i_p0_torn]))] s.heap.size = A at hD ⊢
  have hA : ∀ q : Nat, s.heap.size ≤ q → A q := fun q h => by rw [← hAe]; exact Or.inr h
  clear hAe hD0
  have hS : va_S A s.heap s.heap [] := va_S.rf
  have hl := lv_entry ([.ref a_p0]) (n := 1) (Nat.le_of_ble_eq_true rfl)
  rw [lg_entry_eq]
  generalize (lg_sl ([.ref a_p0]) ++ List.replicate (1 - (lg_sl ([.ref a_p0])).length) Slot.unset).toArray = ls at hl ⊢
  have hl : lv_has ls 1 [(0, .ref a_p0)] := hl
  refine W_nameQ (fun Q hQ => ?_)
  obtain ⟨H, hH⟩ : ∃ H, H = s.heap := ⟨_, rfl⟩
  replace hS : va_S A s.heap H [] := by rw [hH]; exact hS
  replace hP : va_P D vwCl [(a_p0, .inr (12, [.ref a_p0_st, .ref a_p0_isKept, .int i_p0_seats, .int i_p0_stirs, .ref a_p0_brings, .ref a_p0_need, .ref a_p0_draft, .int i_p0_dSeats, .int i_p0_dStirs, .ref a_p0_dStir, .ref a_p0_dNeed, .int i_p0_told, .int i_p0_highest, .ref a_p0_tape, .int i_p0_taped, .int i_p0_pos, .int i_p0_from, .int i_p0_sort, .int i_p0_value, .int i_p0_fault, .int i_p0_wrongAt, .ref a_p0_places, .ref a_p0_stirred, .ref a_p0_ways, .ref a_p0_waysThen, .ref a_p0_stays, .ref a_p0_fewest, .ref a_p0_bowls, .ref a_p0_has, .ref a_p0_goesOn, .ref a_p0_isThere, .ref a_p0_isThereThen, .ref a_p0_bestRow, .ref a_p0_lanes, .ref a_p0_sizes, .ref a_p0_cells, .int i_p0_torn]))] H := by rw [hH]; exact hP
  rw [← hH]
  clear hH
  unfold f_X12_torn at hf
  refine lv_aload_n hx hb dX12_torn_0 rfl (lv_at hl 0 rfl) ?_
  refine va_get (D := D) (ci := 12) (v := .int i_p0_torn) (C := RX12) (T := TX12) (N := 37) hx hb hts inX12_torn_X12 hown hK hP 0 rfl rfl 36 (by decide) (hts _ mwX12_torn_1) (fun _ h9 => h9) rfl dX12_torn_1 ?_
  obtain rfl := ou1 hf
  rw [hQ]
  exact W.iret hx hb hr (fun t ht hW => ⟨⟨_, (), rfl, rfl, by rw [ht]; exact hP, va_K.moved hW.alike hK, hD⟩, hS.F ht⟩) hS.2.2 dX12_torn_4

noncomputable def B_X12_count_4 (i_p0_seats : Int32) (J4 : Int32 → Option (Int32)) (v_p0_st : (Nat → Int32)) (again4 : Int32 → Int32 → Option (Int32)) (z12 : Int32) (z13 : Int32) : Option (Int32) := (if i_p0_seats ≤ z12 then (J4 z13) else (ck (ixB z12 152) (bnd (z13 + (v_p0_st (z12).toNatClampNeg)) (fun (z15 : Int32) => (bnd (z12 + (1 : Int32)) (fun (z16 : Int32) => (again4 z16 z15)))))))
noncomputable def f_X12_count (i_p0_seats : Int32) (i_p0_taped : Int32) (v_p0_st : (Nat → Int32)) (v_p0_isKept : (Nat → Int32)) (v_p0_lanes : (Nat → Int32)) (v_p0_sizes : (Nat → Int32)) (x1 : Int32) : Option (Int32) := (bnd (0 : Int32) (fun (z1 : Int32) => (bnd (0 : Int32) (fun (z2 : Int32) => (jn (fun (z3 : Int32) => (if x1 = (0 : Int32) then (ck (ixB (31 : Int32) 152) (some (v_p0_st ((31 : Int32)).toNatClampNeg))) else (if x1 = (1 : Int32) then (ck (ixB (0 : Int32) 2) (bd1 (f_X12_flag (v_p0_isKept ((0 : Int32)).toNatClampNeg)) (fun (z7 : Int32) => (ck (ixB (1 : Int32) 2) (bd1 (f_X12_flag (v_p0_isKept ((1 : Int32)).toNatClampNeg)) (fun (z8 : Int32) => (some (z7 + z8)))))))) else (if x1 = (2 : Int32) then (some i_p0_taped) else (if x1 = (3 : Int32) then (ck (ixB (0 : Int32) 4) (if (v_p0_lanes ((0 : Int32)).toNatClampNeg) = (-4 : Int32) then (some (-4 : Int32)) else (ck (ixB (0 : Int32) 4) (some (v_p0_sizes ((0 : Int32)).toNatClampNeg))))) else (if x1 = (4 : Int32) then (some z3) else (some (-1 : Int32)))))))) (fun (J4 : Int32 → Option (Int32)) => (lq2 (B_X12_count_4 i_p0_seats J4 v_p0_st) 1000 z2 z1)))))))
abbrev rm_X12_count : Room := { frames := 1, cells := 0, slots := 0, locals := 20 }
theorem inX12_count_X12 : ∀ w ∈ wsX120, w ∈ wsX12_count := by decide +kernel
theorem mwX12_count_1 : Cond.fieldLink RX12 7 "LadleKingsModel" "st" "[I" ∈ wsX12_count := by decide +kernel
theorem mwX12_count_2 : Cond.fieldLink RX12 13 "LadleKingsModel" "isKept" "[Z" ∈ wsX12_count := by decide +kernel
theorem mwX12_count_3 : Cond.fieldLink RX12 110 "LadleKingsModel" "taped" "I" ∈ wsX12_count := by decide +kernel
theorem mwX12_count_4 : Cond.fieldLink RX12 72 "LadleKingsModel" "lanes" "[I" ∈ wsX12_count := by decide +kernel
theorem mwX12_count_5 : Cond.fieldLink RX12 75 "LadleKingsModel" "sizes" "[I" ∈ wsX12_count := by decide +kernel
theorem mwX12_count_6 : Cond.fieldLink RX12 100 "LadleKingsModel" "seats" "I" ∈ wsX12_count := by decide +kernel
set_option maxHeartbeats 8000000 in
set_option maxRecDepth 100000 in
theorem c_X12_count (l : Launch) (D : va_G) (G : Nat → ClassId) (sz : Nat) (a_p0 : Nat) (a_p0_st : Nat) (a_p0_isKept : Nat) (a_p0_brings : Nat) (a_p0_need : Nat) (a_p0_draft : Nat) (a_p0_dStir : Nat) (a_p0_dNeed : Nat) (a_p0_tape : Nat) (a_p0_places : Nat) (a_p0_stirred : Nat) (a_p0_ways : Nat) (a_p0_waysThen : Nat) (a_p0_stays : Nat) (a_p0_fewest : Nat) (a_p0_bowls : Nat) (a_p0_has : Nat) (a_p0_goesOn : Nat) (a_p0_isThere : Nat) (a_p0_isThereThen : Nat) (a_p0_bestRow : Nat) (a_p0_lanes : Nat) (a_p0_sizes : Nat) (a_p0_cells : Nat) (i_p0_seats : Int32) (i_p0_stirs : Int32) (i_p0_dSeats : Int32) (i_p0_dStirs : Int32) (i_p0_told : Int32) (i_p0_highest : Int32) (i_p0_taped : Int32) (i_p0_pos : Int32) (i_p0_from : Int32) (i_p0_sort : Int32) (i_p0_value : Int32) (i_p0_fault : Int32) (i_p0_wrongAt : Int32) (i_p0_torn : Int32) (v_p0_st : (Nat → Int32)) (v_p0_isKept : (Nat → Int32)) (v_p0_lanes : (Nat → Int32)) (v_p0_sizes : (Nat → Int32)) (x1 : Int32) (r : Int32) (hf : f_X12_count i_p0_seats i_p0_taped v_p0_st v_p0_isKept v_p0_lanes v_p0_sizes x1 = some r) : Met l yX12_count wsX12_count rm_X12_count (pcG D G [.ref a_p0, .int x1] sz [(a_p0, .inr (12, [.ref a_p0_st, .ref a_p0_isKept, .int i_p0_seats, .int i_p0_stirs, .ref a_p0_brings, .ref a_p0_need, .ref a_p0_draft, .int i_p0_dSeats, .int i_p0_dStirs, .ref a_p0_dStir, .ref a_p0_dNeed, .int i_p0_told, .int i_p0_highest, .ref a_p0_tape, .int i_p0_taped, .int i_p0_pos, .int i_p0_from, .int i_p0_sort, .int i_p0_value, .int i_p0_fault, .int i_p0_wrongAt, .ref a_p0_places, .ref a_p0_stirred, .ref a_p0_ways, .ref a_p0_waysThen, .ref a_p0_stays, .ref a_p0_fewest, .ref a_p0_bowls, .ref a_p0_has, .ref a_p0_goesOn, .ref a_p0_isThere, .ref a_p0_isThereThen, .ref a_p0_bestRow, .ref a_p0_lanes, .ref a_p0_sizes, .ref a_p0_cells, .int i_p0_torn])), (a_p0_st, .inl (G 1, 152, .inl v_p0_st)), (a_p0_isKept, .inl (G 3, 2, .inl v_p0_isKept)), (a_p0_lanes, .inl (G 1, 4, .inl v_p0_lanes)), (a_p0_sizes, .inl (G 1, 4, .inl v_p0_sizes))]) (qcI D G r [(a_p0, .inr (12, [.ref a_p0_st, .ref a_p0_isKept, .int i_p0_seats, .int i_p0_stirs, .ref a_p0_brings, .ref a_p0_need, .ref a_p0_draft, .int i_p0_dSeats, .int i_p0_dStirs, .ref a_p0_dStir, .ref a_p0_dNeed, .int i_p0_told, .int i_p0_highest, .ref a_p0_tape, .int i_p0_taped, .int i_p0_pos, .int i_p0_from, .int i_p0_sort, .int i_p0_value, .int i_p0_fault, .int i_p0_wrongAt, .ref a_p0_places, .ref a_p0_stirred, .ref a_p0_ways, .ref a_p0_waysThen, .ref a_p0_stays, .ref a_p0_fewest, .ref a_p0_bowls, .ref a_p0_has, .ref a_p0_goesOn, .ref a_p0_isThere, .ref a_p0_isThereThen, .ref a_p0_bestRow, .ref a_p0_lanes, .ref a_p0_sizes, .ref a_p0_cells, .int i_p0_torn])), (a_p0_st, .inl (G 1, 152, .inl v_p0_st)), (a_p0_isKept, .inl (G 3, 2, .inl v_p0_isKept)), (a_p0_lanes, .inl (G 1, 4, .inl v_p0_lanes)), (a_p0_sizes, .inl (G 1, 4, .inl v_p0_sizes))] (va_A [(a_p0, .inr (12, [.ref a_p0_st, .ref a_p0_isKept, .int i_p0_seats, .int i_p0_stirs, .ref a_p0_brings, .ref a_p0_need, .ref a_p0_draft, .int i_p0_dSeats, .int i_p0_dStirs, .ref a_p0_dStir, .ref a_p0_dNeed, .int i_p0_told, .int i_p0_highest, .ref a_p0_tape, .int i_p0_taped, .int i_p0_pos, .int i_p0_from, .int i_p0_sort, .int i_p0_value, .int i_p0_fault, .int i_p0_wrongAt, .ref a_p0_places, .ref a_p0_stirred, .ref a_p0_ways, .ref a_p0_waysThen, .ref a_p0_stays, .ref a_p0_fewest, .ref a_p0_bowls, .ref a_p0_has, .ref a_p0_goesOn, .ref a_p0_isThere, .ref a_p0_isThereThen, .ref a_p0_bestRow, .ref a_p0_lanes, .ref a_p0_sizes, .ref a_p0_cells, .int i_p0_torn])), (a_p0_st, .inl (G 1, 152, .inl v_p0_st)), (a_p0_isKept, .inl (G 3, 2, .inl v_p0_isKept)), (a_p0_lanes, .inl (G 1, 4, .inl v_p0_lanes)), (a_p0_sizes, .inl (G 1, 4, .inl v_p0_sizes))] sz)) 0 0 (va_A [(a_p0, .inr (12, [.ref a_p0_st, .ref a_p0_isKept, .int i_p0_seats, .int i_p0_stirs, .ref a_p0_brings, .ref a_p0_need, .ref a_p0_draft, .int i_p0_dSeats, .int i_p0_dStirs, .ref a_p0_dStir, .ref a_p0_dNeed, .int i_p0_told, .int i_p0_highest, .ref a_p0_tape, .int i_p0_taped, .int i_p0_pos, .int i_p0_from, .int i_p0_sort, .int i_p0_value, .int i_p0_fault, .int i_p0_wrongAt, .ref a_p0_places, .ref a_p0_stirred, .ref a_p0_ways, .ref a_p0_waysThen, .ref a_p0_stays, .ref a_p0_fewest, .ref a_p0_bowls, .ref a_p0_has, .ref a_p0_goesOn, .ref a_p0_isThere, .ref a_p0_isThereThen, .ref a_p0_bestRow, .ref a_p0_lanes, .ref a_p0_sizes, .ref a_p0_cells, .int i_p0_torn])), (a_p0_st, .inl (G 1, 152, .inl v_p0_st)), (a_p0_isKept, .inl (G 3, 2, .inl v_p0_isKept)), (a_p0_lanes, .inl (G 1, 4, .inl v_p0_lanes)), (a_p0_sizes, .inl (G 1, 4, .inl v_p0_sizes))] sz) := by
  refine Met.ofW (cc := cX12_count) (maxL := 4) (ret := (some .int)) (by decide) rfl ?_
  intro p e s m args below meth c s₁ B hml hv
  obtain ⟨rfl, hsz, hP, hK, hD0⟩ := hv
  have hx := B.exec
  have hb := B.bytes
  have hr := B.returns
  have hts := atoms_spec (ws := wsX12_count) B.pre
  have hown : s.vm.findClass RX12 = some m.cls := findClass_of_methodNamed B.named
  have hlocks := B.notSynchronized
  subst hsz
  have hD := hD0.self (sz := s.heap.size)
  generalize hAe : va_A [(a_p0, .inr (12, [.ref a_p0_st, .ref a_p0_isKept, .int i_p0_seats, .int i_p0_stirs, .ref a_p0_brings, .ref a_p0_need, .ref a_p0_draft, .int i_p0_dSeats, .int i_p0_dStirs, .ref a_p0_dStir, .ref a_p0_dNeed, .int i_p0_told, .int i_p0_highest, .ref a_p0_tape, .int i_p0_taped, .int i_p0_pos, .int i_p0_from, .int i_p0_sort, .int i_p0_value, .int i_p0_fault, .int i_p0_wrongAt, .ref a_p0_places, .ref a_p0_stirred, .ref a_p0_ways, .ref a_p0_waysThen, .ref a_p0_stays, .ref a_p0_fewest, .ref a_p0_bowls, .ref a_p0_has, .ref a_p0_goesOn, .ref a_p0_isThere, .ref a_p0_isThereThen, .ref a_p0_bestRow, .ref a_p0_lanes, .ref a_p0_sizes, .ref a_p0_cells, .int i_p0_torn])), (a_p0_st, .inl (G 1, 152, .inl v_p0_st)), (a_p0_isKept, .inl (G 3, 2, .inl v_p0_isKept)), (a_p0_lanes, .inl (G 1, 4, .inl v_p0_lanes)), (a_p0_sizes, .inl (G 1, 4, .inl v_p0_sizes))] s.heap.size = A at hD ⊢
  have hA : ∀ q : Nat, s.heap.size ≤ q → A q := fun q h => by rw [← hAe]; exact Or.inr h
  clear hAe hD0
  have hS : va_S A s.heap s.heap [] := va_S.rf
  have hl := lv_entry ([.ref a_p0, .int x1]) (n := 4) (Nat.le_of_ble_eq_true rfl)
  rw [lg_entry_eq]
  generalize (lg_sl ([.ref a_p0, .int x1]) ++ List.replicate (4 - (lg_sl ([.ref a_p0, .int x1])).length) Slot.unset).toArray = ls at hl ⊢
  have hl : lv_has ls 4 [(0, .ref a_p0), (1, .int x1)] := hl
  refine W_nameQ (fun Q hQ => ?_)
  obtain ⟨H, hH⟩ : ∃ H, H = s.heap := ⟨_, rfl⟩
  replace hS : va_S A s.heap H [] := by rw [hH]; exact hS
  replace hP : va_P D vwCl [(a_p0, .inr (12, [.ref a_p0_st, .ref a_p0_isKept, .int i_p0_seats, .int i_p0_stirs, .ref a_p0_brings, .ref a_p0_need, .ref a_p0_draft, .int i_p0_dSeats, .int i_p0_dStirs, .ref a_p0_dStir, .ref a_p0_dNeed, .int i_p0_told, .int i_p0_highest, .ref a_p0_tape, .int i_p0_taped, .int i_p0_pos, .int i_p0_from, .int i_p0_sort, .int i_p0_value, .int i_p0_fault, .int i_p0_wrongAt, .ref a_p0_places, .ref a_p0_stirred, .ref a_p0_ways, .ref a_p0_waysThen, .ref a_p0_stays, .ref a_p0_fewest, .ref a_p0_bowls, .ref a_p0_has, .ref a_p0_goesOn, .ref a_p0_isThere, .ref a_p0_isThereThen, .ref a_p0_bestRow, .ref a_p0_lanes, .ref a_p0_sizes, .ref a_p0_cells, .int i_p0_torn])), (a_p0_st, .inl (G 1, 152, .inl v_p0_st)), (a_p0_isKept, .inl (G 3, 2, .inl v_p0_isKept)), (a_p0_lanes, .inl (G 1, 4, .inl v_p0_lanes)), (a_p0_sizes, .inl (G 1, 4, .inl v_p0_sizes))] H := by rw [hH]; exact hP
  rw [← hH]
  clear hH
  unfold f_X12_count at hf
  refine lv_iconst (v := (0 : Int32)) hx hb dX12_count_0 (by decide) ?_
  refine lv_topi (fun z1 ez => ?_)
  replace hf := bnd_s hf ez
  clear ez
  refine lv_istore_n (lv' := [(2, .int z1), (0, .ref a_p0), (1, .int x1)]) hx hb dX12_count_1 rfl hl (by decide) rfl (fun ls hl => ?_)
  refine lv_iconst (v := (0 : Int32)) hx hb dX12_count_2 (by decide) ?_
  refine lv_topi (fun z2 ez => ?_)
  replace hf := bnd_s hf ez
  clear ez
  refine lv_istore_n (lv' := [(3, .int z2), (2, .int z1), (0, .ref a_p0), (1, .int x1)]) hx hb dX12_count_3 rfl hl (by decide) rfl (fun ls hl => ?_)
  have hq := jn_i hf
  clear hf
  obtain ⟨J4, eJ4, hf⟩ := hq
  have hJ4 : ∀ (z3 : Int32) (ls : Array Slot) (H : Heap) (locs : List Loc), lv_has ls 4 [(2, .int z3), (0, .ref a_p0), (1, .int x1)] → va_P D vwCl [(a_p0, .inr (12, [.ref a_p0_st, .ref a_p0_isKept, .int i_p0_seats, .int i_p0_stirs, .ref a_p0_brings, .ref a_p0_need, .ref a_p0_draft, .int i_p0_dSeats, .int i_p0_dStirs, .ref a_p0_dStir, .ref a_p0_dNeed, .int i_p0_told, .int i_p0_highest, .ref a_p0_tape, .int i_p0_taped, .int i_p0_pos, .int i_p0_from, .int i_p0_sort, .int i_p0_value, .int i_p0_fault, .int i_p0_wrongAt, .ref a_p0_places, .ref a_p0_stirred, .ref a_p0_ways, .ref a_p0_waysThen, .ref a_p0_stays, .ref a_p0_fewest, .ref a_p0_bowls, .ref a_p0_has, .ref a_p0_goesOn, .ref a_p0_isThere, .ref a_p0_isThereThen, .ref a_p0_bestRow, .ref a_p0_lanes, .ref a_p0_sizes, .ref a_p0_cells, .int i_p0_torn])), (a_p0_st, .inl (G 1, 152, .inl v_p0_st)), (a_p0_isKept, .inl (G 3, 2, .inl v_p0_isKept)), (a_p0_lanes, .inl (G 1, 4, .inl v_p0_lanes)), (a_p0_sizes, .inl (G 1, 4, .inl v_p0_sizes))] H → va_D A [(a_p0, .inr (12, [.ref a_p0_st, .ref a_p0_isKept, .int i_p0_seats, .int i_p0_stirs, .ref a_p0_brings, .ref a_p0_need, .ref a_p0_draft, .int i_p0_dSeats, .int i_p0_dStirs, .ref a_p0_dStir, .ref a_p0_dNeed, .int i_p0_told, .int i_p0_highest, .ref a_p0_tape, .int i_p0_taped, .int i_p0_pos, .int i_p0_from, .int i_p0_sort, .int i_p0_value, .int i_p0_fault, .int i_p0_wrongAt, .ref a_p0_places, .ref a_p0_stirred, .ref a_p0_ways, .ref a_p0_waysThen, .ref a_p0_stays, .ref a_p0_fewest, .ref a_p0_bowls, .ref a_p0_has, .ref a_p0_goesOn, .ref a_p0_isThere, .ref a_p0_isThereThen, .ref a_p0_bestRow, .ref a_p0_lanes, .ref a_p0_sizes, .ref a_p0_cells, .int i_p0_torn])), (a_p0_st, .inl (G 1, 152, .inl v_p0_st)), (a_p0_isKept, .inl (G 3, 2, .inl v_p0_isKept)), (a_p0_lanes, .inl (G 1, 4, .inl v_p0_lanes)), (a_p0_sizes, .inl (G 1, 4, .inl v_p0_sizes))] → va_S A s.heap H locs → J4 z3 = some r → W p l e rm_X12_count s m ([.ref a_p0, .int x1] : List Value).toArray below meth c H locs 0 0 Q (F0 m 27 ls []) := by
    clear hf hl hP hD hS
    intro z3 ls H locs hl hP hD hS hf
    replace hf := jn1_s eJ4 hf
    refine lv_iload_n hx hb dX12_count_27 rfl (lv_at hl 2 rfl) ?_
    rcases Decidable.em (x1 = (0 : Int32)) with hk5 | hk5
    ·
      replace hf := ite_t hk5 hf
      refine lv_tableIn (tgt := 64) hx hb dX12_count_28 (by rw [hk5]; decide) (by rw [hk5]; decide) (by rw [hk5]; rfl) (by decide) ?_
      clear hk5
      refine lv_aload_n hx hb dX12_count_64 rfl (lv_at hl 1 rfl) ?_
      refine va_get (D := D) (ci := 12) (v := .ref a_p0_st) (C := RX12) (T := TX12) (N := 37) hx hb hts inX12_count_X12 hown hK hP 0 rfl rfl 0 (by decide) (hts _ mwX12_count_1) (fun _ h9 => h9) rfl dX12_count_65 ?_
      refine lv_bipush (v := (31 : Int32)) hx hb dX12_count_68 (by decide) ?_
      have hc := ck_c hf
      replace hf := ck_r hf
      refine va_iald hx hb hK hP 1 1 rfl rfl (ixB_in hc) dX12_count_70 ?_
      clear hc
      obtain rfl := ou1 hf
      rw [hQ]
      exact W.iret hx hb hr (fun t ht hW => ⟨⟨_, (), rfl, rfl, by rw [ht]; exact hP, va_K.moved hW.alike hK, hD⟩, hS.F ht⟩) hS.2.2 dX12_count_71
    replace hf := ite_f hk5 hf
    rcases Decidable.em (x1 = (1 : Int32)) with hk6 | hk6
    ·
      replace hf := ite_t hk6 hf
      refine lv_tableIn (tgt := 72) hx hb dX12_count_28 (by rw [hk6]; decide) (by rw [hk6]; decide) (by rw [hk6]; rfl) (by decide) ?_
      clear hk6 hk5
      refine lv_aload_n hx hb dX12_count_72 rfl (lv_at hl 1 rfl) ?_
      refine va_get (D := D) (ci := 12) (v := .ref a_p0_isKept) (C := RX12) (T := TX12) (N := 37) hx hb hts inX12_count_X12 hown hK hP 0 rfl rfl 1 (by decide) (hts _ mwX12_count_2) (fun _ h9 => h9) rfl dX12_count_73 ?_
      refine lv_iconst (v := (0 : Int32)) hx hb dX12_count_76 (by decide) ?_
      have hc := ck_c hf
      replace hf := ck_r hf
      refine va_zald hx hb hK hP 2 3 rfl rfl (ixB_in hc) dX12_count_77 ?_
      clear hc
      have hq := bd1_s hf
      clear hf
      obtain ⟨z7, hcall, hf⟩ := hq
      refine gcI (ws' := [(a_p0, .inr (12, [.ref a_p0_st, .ref a_p0_isKept, .int i_p0_seats, .int i_p0_stirs, .ref a_p0_brings, .ref a_p0_need, .ref a_p0_draft, .int i_p0_dSeats, .int i_p0_dStirs, .ref a_p0_dStir, .ref a_p0_dNeed, .int i_p0_told, .int i_p0_highest, .ref a_p0_tape, .int i_p0_taped, .int i_p0_pos, .int i_p0_from, .int i_p0_sort, .int i_p0_value, .int i_p0_fault, .int i_p0_wrongAt, .ref a_p0_places, .ref a_p0_stirred, .ref a_p0_ways, .ref a_p0_waysThen, .ref a_p0_stays, .ref a_p0_fewest, .ref a_p0_bowls, .ref a_p0_has, .ref a_p0_goesOn, .ref a_p0_isThere, .ref a_p0_isThereThen, .ref a_p0_bestRow, .ref a_p0_lanes, .ref a_p0_sizes, .ref a_p0_cells, .int i_p0_torn])), (a_p0_st, .inl (G 1, 152, .inl v_p0_st)), (a_p0_isKept, .inl (G 3, 2, .inl v_p0_isKept)), (a_p0_lanes, .inl (G 1, 4, .inl v_p0_lanes)), (a_p0_sizes, .inl (G 1, 4, .inl v_p0_sizes))]) (va_runS (As := [.int (v_p0_isKept ((0 : Int32)).toNatClampNeg)]) (rest := []) ⟨hx, hb, hml, hown, hts⟩ (c_X12_flag (l := l) (D := D) (G := G) (sz := H.size) (x0 := (v_p0_isKept ((0 : Int32)).toNatClampNeg)) (r := z7) (hf := hcall)) (va_cwS 1 hts gX12_count_X12_flag rfl rfl rfl (by decide +kernel) ⟨Nat.le_of_ble_eq_true rfl, Nat.le_of_ble_eq_true rfl⟩) (preG_S (hP.sub [] rfl) (hD.sub [] rfl rfl) hK) rfl rfl hl.1 rfl (lv_room (Nat.le_of_ble_eq_true rfl)) dX12_count_78 ⟨Nat.le_of_ble_eq_true rfl, Nat.le_of_ble_eq_true rfl⟩) hP hD hS hA [] [0, 1, 2, 3, 4] [0, 1, 2, 3, 4] rfl rfl rfl (by decide) rfl rfl rfl (fun H locs hP hD hS => ?_)
      clear hcall
      refine lv_aload_n hx hb dX12_count_81 rfl (lv_at hl 1 rfl) ?_
      refine va_get (D := D) (ci := 12) (v := .ref a_p0_isKept) (C := RX12) (T := TX12) (N := 37) hx hb hts inX12_count_X12 hown hK hP 0 rfl rfl 1 (by decide) (hts _ mwX12_count_2) (fun _ h9 => h9) rfl dX12_count_82 ?_
      refine lv_iconst (v := (1 : Int32)) hx hb dX12_count_85 (by decide) ?_
      have hc := ck_c hf
      replace hf := ck_r hf
      refine va_zald hx hb hK hP 2 3 rfl rfl (ixB_in hc) dX12_count_86 ?_
      clear hc
      have hq := bd1_s hf
      clear hf
      obtain ⟨z8, hcall, hf⟩ := hq
      refine gcI (ws' := [(a_p0, .inr (12, [.ref a_p0_st, .ref a_p0_isKept, .int i_p0_seats, .int i_p0_stirs, .ref a_p0_brings, .ref a_p0_need, .ref a_p0_draft, .int i_p0_dSeats, .int i_p0_dStirs, .ref a_p0_dStir, .ref a_p0_dNeed, .int i_p0_told, .int i_p0_highest, .ref a_p0_tape, .int i_p0_taped, .int i_p0_pos, .int i_p0_from, .int i_p0_sort, .int i_p0_value, .int i_p0_fault, .int i_p0_wrongAt, .ref a_p0_places, .ref a_p0_stirred, .ref a_p0_ways, .ref a_p0_waysThen, .ref a_p0_stays, .ref a_p0_fewest, .ref a_p0_bowls, .ref a_p0_has, .ref a_p0_goesOn, .ref a_p0_isThere, .ref a_p0_isThereThen, .ref a_p0_bestRow, .ref a_p0_lanes, .ref a_p0_sizes, .ref a_p0_cells, .int i_p0_torn])), (a_p0_st, .inl (G 1, 152, .inl v_p0_st)), (a_p0_isKept, .inl (G 3, 2, .inl v_p0_isKept)), (a_p0_lanes, .inl (G 1, 4, .inl v_p0_lanes)), (a_p0_sizes, .inl (G 1, 4, .inl v_p0_sizes))]) (va_runS (As := [.int (v_p0_isKept ((1 : Int32)).toNatClampNeg)]) (rest := [.int z7]) ⟨hx, hb, hml, hown, hts⟩ (c_X12_flag (l := l) (D := D) (G := G) (sz := H.size) (x0 := (v_p0_isKept ((1 : Int32)).toNatClampNeg)) (r := z8) (hf := hcall)) (va_cwS 1 hts gX12_count_X12_flag rfl rfl rfl (by decide +kernel) ⟨Nat.le_of_ble_eq_true rfl, Nat.le_of_ble_eq_true rfl⟩) (preG_S (hP.sub [] rfl) (hD.sub [] rfl rfl) hK) rfl rfl hl.1 rfl (lv_room (Nat.le_of_ble_eq_true rfl)) dX12_count_87 ⟨Nat.le_of_ble_eq_true rfl, Nat.le_of_ble_eq_true rfl⟩) hP hD hS hA [] [0, 1, 2, 3, 4] [0, 1, 2, 3, 4] rfl rfl rfl (by decide) rfl rfl rfl (fun H locs hP hD hS => ?_)
      clear hcall
      refine lv_iadd hx hb dX12_count_90 ?_
      obtain rfl := ou1 hf
      rw [hQ]
      exact W.iret hx hb hr (fun t ht hW => ⟨⟨_, (), rfl, rfl, by rw [ht]; exact hP, va_K.moved hW.alike hK, hD⟩, hS.F ht⟩) hS.2.2 dX12_count_91
    replace hf := ite_f hk6 hf
    rcases Decidable.em (x1 = (2 : Int32)) with hk9 | hk9
    ·
      replace hf := ite_t hk9 hf
      refine lv_tableIn (tgt := 92) hx hb dX12_count_28 (by rw [hk9]; decide) (by rw [hk9]; decide) (by rw [hk9]; rfl) (by decide) ?_
      clear hk9 hk5 hk6
      refine lv_aload_n hx hb dX12_count_92 rfl (lv_at hl 1 rfl) ?_
      refine va_get (D := D) (ci := 12) (v := .int i_p0_taped) (C := RX12) (T := TX12) (N := 37) hx hb hts inX12_count_X12 hown hK hP 0 rfl rfl 14 (by decide) (hts _ mwX12_count_3) (fun _ h9 => h9) rfl dX12_count_93 ?_
      obtain rfl := ou1 hf
      rw [hQ]
      exact W.iret hx hb hr (fun t ht hW => ⟨⟨_, (), rfl, rfl, by rw [ht]; exact hP, va_K.moved hW.alike hK, hD⟩, hS.F ht⟩) hS.2.2 dX12_count_96
    replace hf := ite_f hk9 hf
    rcases Decidable.em (x1 = (3 : Int32)) with hk10 | hk10
    ·
      replace hf := ite_t hk10 hf
      refine lv_tableIn (tgt := 97) hx hb dX12_count_28 (by rw [hk10]; decide) (by rw [hk10]; decide) (by rw [hk10]; rfl) (by decide) ?_
      clear hk10 hk5 hk6 hk9
      refine lv_aload_n hx hb dX12_count_97 rfl (lv_at hl 1 rfl) ?_
      refine va_get (D := D) (ci := 12) (v := .ref a_p0_lanes) (C := RX12) (T := TX12) (N := 37) hx hb hts inX12_count_X12 hown hK hP 0 rfl rfl 33 (by decide) (hts _ mwX12_count_4) (fun _ h9 => h9) rfl dX12_count_98 ?_
      refine lv_iconst (v := (0 : Int32)) hx hb dX12_count_101 (by decide) ?_
      have hc := ck_c hf
      replace hf := ck_r hf
      refine va_iald hx hb hK hP 3 1 rfl rfl (ixB_in hc) dX12_count_102 ?_
      clear hc
      refine lv_bipush (v := (-4 : Int32)) hx hb dX12_count_103 (by decide) ?_
      refine lv_icmp_ne (tgt := 113) hx hb dX12_count_105 (by decide) (fun cc => ?_) (fun cc => ?_)
      ·
        replace hf := ite_f cc hf
        clear cc
        refine lv_aload_n hx hb dX12_count_113 rfl (lv_at hl 1 rfl) ?_
        refine va_get (D := D) (ci := 12) (v := .ref a_p0_sizes) (C := RX12) (T := TX12) (N := 37) hx hb hts inX12_count_X12 hown hK hP 0 rfl rfl 34 (by decide) (hts _ mwX12_count_5) (fun _ h9 => h9) rfl dX12_count_114 ?_
        refine lv_iconst (v := (0 : Int32)) hx hb dX12_count_117 (by decide) ?_
        have hc := ck_c hf
        replace hf := ck_r hf
        refine va_iald hx hb hK hP 4 1 rfl rfl (ixB_in hc) dX12_count_118 ?_
        clear hc
        obtain rfl := ou1 hf
        rw [hQ]
        exact W.iret hx hb hr (fun t ht hW => ⟨⟨_, (), rfl, rfl, by rw [ht]; exact hP, va_K.moved hW.alike hK, hD⟩, hS.F ht⟩) hS.2.2 dX12_count_119
      ·
        replace hf := ite_t cc hf
        clear cc
        refine lv_bipush (v := (-4 : Int32)) hx hb dX12_count_108 (by decide) ?_
        refine lv_goto (tgt := 119) hx hb dX12_count_110 (by decide) ?_
        obtain rfl := ou1 hf
        rw [hQ]
        exact W.iret hx hb hr (fun t ht hW => ⟨⟨_, (), rfl, rfl, by rw [ht]; exact hP, va_K.moved hW.alike hK, hD⟩, hS.F ht⟩) hS.2.2 dX12_count_119
    replace hf := ite_f hk10 hf
    rcases Decidable.em (x1 = (4 : Int32)) with hk11 | hk11
    ·
      replace hf := ite_t hk11 hf
      refine lv_tableIn (tgt := 120) hx hb dX12_count_28 (by rw [hk11]; decide) (by rw [hk11]; decide) (by rw [hk11]; rfl) (by decide) ?_
      clear hk11 hk5 hk6 hk9 hk10
      refine lv_iload_n hx hb dX12_count_120 rfl (lv_at hl 0 rfl) ?_
      obtain rfl := ou1 hf
      rw [hQ]
      exact W.iret hx hb hr (fun t ht hW => ⟨⟨_, (), rfl, rfl, by rw [ht]; exact hP, va_K.moved hW.alike hK, hD⟩, hS.F ht⟩) hS.2.2 dX12_count_121
    replace hf := ite_f hk11 hf
    have thk5 := tsw_ne hk5
    have thk6 := tsw_ne hk6
    have thk9 := tsw_ne hk9
    have thk10 := tsw_ne hk10
    have thk11 := tsw_ne hk11
    rw [show ((0 : Int32)).toInt = 0 from by decide] at thk5
    rw [show ((1 : Int32)).toInt = 1 from by decide] at thk6
    rw [show ((2 : Int32)).toInt = 2 from by decide] at thk9
    rw [show ((3 : Int32)).toInt = 3 from by decide] at thk10
    rw [show ((4 : Int32)).toInt = 4 from by decide] at thk11
    refine lv_tableOut (tgt := 122) hx hb dX12_count_28 (by omega) (by decide) ?_
    clear thk5 thk6 thk9 thk10 thk11 hk5 hk6 hk9 hk10 hk11
    refine lv_iconst (v := (-1 : Int32)) hx hb dX12_count_122 (by decide) ?_
    obtain rfl := ou1 hf
    rw [hQ]
    exact W.iret hx hb hr (fun t ht hW => ⟨⟨_, (), rfl, rfl, by rw [ht]; exact hP, va_K.moved hW.alike hK, hD⟩, hS.F ht⟩) hS.2.2 dX12_count_123
  have hq := lq2_i hf
  clear hf
  obtain ⟨B14, eB14, NB14, hf⟩ := hq
  have hB14 : ∀ (n : Nat) (z12 : Int32) (z13 : Int32) (ls : Array Slot) (H : Heap) (locs : List Loc), lv_has ls 4 [(3, .int z12), (2, .int z13), (0, .ref a_p0), (1, .int x1)] → va_P D vwCl [(a_p0, .inr (12, [.ref a_p0_st, .ref a_p0_isKept, .int i_p0_seats, .int i_p0_stirs, .ref a_p0_brings, .ref a_p0_need, .ref a_p0_draft, .int i_p0_dSeats, .int i_p0_dStirs, .ref a_p0_dStir, .ref a_p0_dNeed, .int i_p0_told, .int i_p0_highest, .ref a_p0_tape, .int i_p0_taped, .int i_p0_pos, .int i_p0_from, .int i_p0_sort, .int i_p0_value, .int i_p0_fault, .int i_p0_wrongAt, .ref a_p0_places, .ref a_p0_stirred, .ref a_p0_ways, .ref a_p0_waysThen, .ref a_p0_stays, .ref a_p0_fewest, .ref a_p0_bowls, .ref a_p0_has, .ref a_p0_goesOn, .ref a_p0_isThere, .ref a_p0_isThereThen, .ref a_p0_bestRow, .ref a_p0_lanes, .ref a_p0_sizes, .ref a_p0_cells, .int i_p0_torn])), (a_p0_st, .inl (G 1, 152, .inl v_p0_st)), (a_p0_isKept, .inl (G 3, 2, .inl v_p0_isKept)), (a_p0_lanes, .inl (G 1, 4, .inl v_p0_lanes)), (a_p0_sizes, .inl (G 1, 4, .inl v_p0_sizes))] H → va_D A [(a_p0, .inr (12, [.ref a_p0_st, .ref a_p0_isKept, .int i_p0_seats, .int i_p0_stirs, .ref a_p0_brings, .ref a_p0_need, .ref a_p0_draft, .int i_p0_dSeats, .int i_p0_dStirs, .ref a_p0_dStir, .ref a_p0_dNeed, .int i_p0_told, .int i_p0_highest, .ref a_p0_tape, .int i_p0_taped, .int i_p0_pos, .int i_p0_from, .int i_p0_sort, .int i_p0_value, .int i_p0_fault, .int i_p0_wrongAt, .ref a_p0_places, .ref a_p0_stirred, .ref a_p0_ways, .ref a_p0_waysThen, .ref a_p0_stays, .ref a_p0_fewest, .ref a_p0_bowls, .ref a_p0_has, .ref a_p0_goesOn, .ref a_p0_isThere, .ref a_p0_isThereThen, .ref a_p0_bestRow, .ref a_p0_lanes, .ref a_p0_sizes, .ref a_p0_cells, .int i_p0_torn])), (a_p0_st, .inl (G 1, 152, .inl v_p0_st)), (a_p0_isKept, .inl (G 3, 2, .inl v_p0_isKept)), (a_p0_lanes, .inl (G 1, 4, .inl v_p0_lanes)), (a_p0_sizes, .inl (G 1, 4, .inl v_p0_sizes))] → va_S A s.heap H locs → lq2 B14 n z12 z13 = some r → W p l e rm_X12_count s m ([.ref a_p0, .int x1] : List Value).toArray below meth c H locs 0 0 Q (F0 m 4 ls []) := by
    clear hf hl hP hD hS
    intro n
    induction n with
    | zero =>
      intro z12 z13 ls H locs hl hP hD hS hf
      exact (lq2_0 hf).elim
    | succ n ih4 =>
      intro z12 z13 ls H locs hl hP hD hS hf
      replace hf := lq2_s eB14 hf
      unfold B_X12_count_4 at hf
      refine lv_iload_n hx hb dX12_count_4 rfl (lv_at hl 0 rfl) ?_
      refine lv_aload_n hx hb dX12_count_5 rfl (lv_at hl 2 rfl) ?_
      refine va_get (D := D) (ci := 12) (v := .int i_p0_seats) (C := RX12) (T := TX12) (N := 37) hx hb hts inX12_count_X12 hown hK hP 0 rfl rfl 2 (by decide) (hts _ mwX12_count_6) (fun _ h9 => h9) rfl dX12_count_6 ?_
      refine lv_icmp_ge (tgt := 27) hx hb dX12_count_9 (by decide) (fun cc => ?_) (fun cc => ?_)
      ·
        replace hf := ite_t cc hf
        clear cc
        exact hJ4 _ _ _ _ (lv_sub hl [1, 2, 3] rfl) hP hD hS hf
      ·
        replace hf := ite_f cc hf
        clear cc
        refine lv_iload_n hx hb dX12_count_12 rfl (lv_at hl 1 rfl) ?_
        refine lv_aload_n hx hb dX12_count_13 rfl (lv_at hl 2 rfl) ?_
        refine va_get (D := D) (ci := 12) (v := .ref a_p0_st) (C := RX12) (T := TX12) (N := 37) hx hb hts inX12_count_X12 hown hK hP 0 rfl rfl 0 (by decide) (hts _ mwX12_count_1) (fun _ h9 => h9) rfl dX12_count_14 ?_
        refine lv_iload_n hx hb dX12_count_17 rfl (lv_at hl 0 rfl) ?_
        have hc := ck_c hf
        replace hf := ck_r hf
        refine va_iald hx hb hK hP 1 1 rfl rfl (ixB_in hc) dX12_count_18 ?_
        clear hc
        refine lv_iadd hx hb dX12_count_19 ?_
        refine lv_topi (fun z15 ez => ?_)
        replace hf := bnd_s hf ez
        clear ez
        refine lv_istore_n (lv' := [(2, .int z15), (3, .int z12), (0, .ref a_p0), (1, .int x1)]) hx hb dX12_count_20 rfl hl (by decide) rfl (fun ls hl => ?_)
        obtain ⟨z16, ez⟩ : ∃ y : Int32, y = (z12 + (1 : Int32)) := ⟨_, rfl⟩
        replace hf := bnd_s hf ez
        refine lv_iinc (v := z16) (lv' := [(3, .int z16), (2, .int z15), (0, .ref a_p0), (1, .int x1)]) hx hb dX12_count_21 hl (k := 1) rfl (by rw [ez]; rfl) (by decide) rfl (fun ls hl => ?_)
        clear ez
        refine lv_goto (tgt := 4) hx hb dX12_count_24 (by decide) ?_
        exact ih4 _ _ _ _ _ (lv_sub hl [0, 1, 2, 3] rfl) hP hD hS hf
  exact hB14 _ _ _ _ _ _ (lv_sub hl [0, 1, 2, 3] rfl) hP hD hS hf
