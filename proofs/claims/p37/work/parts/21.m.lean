noncomputable def B_X12_blind_43 (x2 : Int) (J13 : Int → Option (Int)) (x1 : Int) (i_p0_seats : Int) (again43 : Int → Int → Int → Option (Int)) (z17 : Int) (z18 : Int) (z19 : Int) : Option (Int) := (ck (z_r32 z17) (if x2 < z17 then (J13 z19) else (jn (fun (z22 : Int) (z23 : Int) => (bnd (z22 + z23) (fun (z25 : Int) => (ck (z_r32 (x2 - z17)) (ck (z_r32 (z17 + (1 : Int))) (ck (w_dv (z18 * (x2 - z17)) (z17 + (1 : Int))) (bnd ((z18 * (x2 - z17)) / (z17 + (1 : Int))) (fun (z28 : Int) => (bnd (z17 + (1 : Int)) (fun (z29 : Int) => (again43 z29 z28 z25))))))))))) (fun (J24 : Int → Int → Option (Int)) => (if z17 < x1 then (J24 z19 (0 : Int)) else (ck (z_r32 i_p0_seats) (bd1 (f_X12_power (i_p0_seats - (1 : Int)) (x2 - z17)) (fun (z31 : Int) => (J24 z19 (z18 * z31))))))))))
noncomputable def f_X12_blind (i_p0_seats : Int) (x1 : Int) (x2 : Int) (x3 : Int) : Option (Int) := (ck (z_r32 x2) (bd1 (f_X12_in x2 (1 : Int) (12 : Int)) (fun (z2 : Int) => (ck (z_r32 z2) (if z2 = (0 : Int) then (some (-1 : Int)) else (ck (z_r32 x1) (bd1 (f_X12_in x1 (0 : Int) x2) (fun (z5 : Int) => (ck (z_r32 z5) (if z5 = (0 : Int) then (some (-1 : Int)) else (bd1 (f_X12_isTold x3) (fun (z7 : Int) => (ck (z_r32 z7) (if z7 = (0 : Int) then (some (-1 : Int)) else (bnd (0 : Int) (fun (z9 : Int) => (bnd (1 : Int) (fun (z10 : Int) => (bnd (0 : Int) (fun (z11 : Int) => (jn (fun (z12 : Int) => (ck (z_r32 i_p0_seats) (bd1 (f_X12_power i_p0_seats x2) (fun (z15 : Int) => (bd1 (f_X12_lowest z12 z15 x3) (fun (z16 : Int) => (some z16))))))) (fun (J13 : Int → Option (Int)) => (lq3 (B_X12_blind_43 x2 J13 x1 i_p0_seats) 1000 z11 z10 z9)))))))))))))))))))))))
abbrev rm_X12_blind : Room := { frames := 2, cells := 0, slots := 0, locals := 55 }
theorem mwX12_blind_0 : Cond.constantLong RX12 296 (12) ∈ wsX12_blind := by first | exact List.mem_of_getElem? (i := 1) rfl | decide +kernel
theorem mwX12_blind_1 : Cond.constantLong RX12 241 (-1) ∈ wsX12_blind := by first | exact List.mem_of_getElem? (i := 2) rfl | decide +kernel
theorem inX12_blind_X12 : ∀ w ∈ wsX120, w ∈ wsX12_blind := by first | exact fun w h => List.mem_cons_of_mem _ (List.mem_append_right _ h) | decide +kernel
theorem mwX12_blind_3 : Cond.fieldLink RX12 100 "LadleKingsModel" "seats" "I" ∈ wsX12_blind := by first | exact List.mem_of_getElem? (i := 3) rfl | decide +kernel
set_option maxHeartbeats 8000000 in
set_option maxRecDepth 100000 in
theorem c_X12_blind (l : Launch) (D : va_G) (G : Nat → ClassId) (sz : Nat) (a_p0 : Nat) (a_p0_st : Nat) (a_p0_isKept : Nat) (a_p0_brings : Nat) (a_p0_need : Nat) (a_p0_draft : Nat) (a_p0_dStir : Nat) (a_p0_dNeed : Nat) (a_p0_tape : Nat) (a_p0_places : Nat) (a_p0_stirred : Nat) (a_p0_ways : Nat) (a_p0_waysThen : Nat) (a_p0_stays : Nat) (a_p0_fewest : Nat) (a_p0_bowls : Nat) (a_p0_has : Nat) (a_p0_goesOn : Nat) (a_p0_isThere : Nat) (a_p0_isThereThen : Nat) (a_p0_bestRow : Nat) (a_p0_lanes : Nat) (a_p0_sizes : Nat) (a_p0_cells : Nat) (i_p0_seats : Int) (i_p0_stirs : Int) (i_p0_dSeats : Int) (i_p0_dStirs : Int) (i_p0_told : Int) (i_p0_highest : Int) (i_p0_taped : Int) (i_p0_pos : Int) (i_p0_from : Int) (i_p0_sort : Int) (i_p0_value : Int) (i_p0_fault : Int) (i_p0_wrongAt : Int) (i_p0_torn : Int) (x1 : Int) (x2 : Int) (x3 : Int) (r : Int) (hf : f_X12_blind i_p0_seats x1 x2 x3 = some r) : Met l yX12_blind wsX12_blind rm_X12_blind (pcG D G [.ref a_p0, .int (Int32.ofInt x1), .int (Int32.ofInt x2), .int (Int32.ofInt x3)] sz [(a_p0, .inr (12, [.ref a_p0_st, .ref a_p0_isKept, .int (Int32.ofInt i_p0_seats), .int (Int32.ofInt i_p0_stirs), .ref a_p0_brings, .ref a_p0_need, .ref a_p0_draft, .int (Int32.ofInt i_p0_dSeats), .int (Int32.ofInt i_p0_dStirs), .ref a_p0_dStir, .ref a_p0_dNeed, .int (Int32.ofInt i_p0_told), .int (Int32.ofInt i_p0_highest), .ref a_p0_tape, .int (Int32.ofInt i_p0_taped), .int (Int32.ofInt i_p0_pos), .int (Int32.ofInt i_p0_from), .int (Int32.ofInt i_p0_sort), .int (Int32.ofInt i_p0_value), .int (Int32.ofInt i_p0_fault), .int (Int32.ofInt i_p0_wrongAt), .ref a_p0_places, .ref a_p0_stirred, .ref a_p0_ways, .ref a_p0_waysThen, .ref a_p0_stays, .ref a_p0_fewest, .ref a_p0_bowls, .ref a_p0_has, .ref a_p0_goesOn, .ref a_p0_isThere, .ref a_p0_isThereThen, .ref a_p0_bestRow, .ref a_p0_lanes, .ref a_p0_sizes, .ref a_p0_cells, .int (Int32.ofInt i_p0_torn)]))]) (qcL D G (Int64.ofInt r) [(a_p0, .inr (12, [.ref a_p0_st, .ref a_p0_isKept, .int (Int32.ofInt i_p0_seats), .int (Int32.ofInt i_p0_stirs), .ref a_p0_brings, .ref a_p0_need, .ref a_p0_draft, .int (Int32.ofInt i_p0_dSeats), .int (Int32.ofInt i_p0_dStirs), .ref a_p0_dStir, .ref a_p0_dNeed, .int (Int32.ofInt i_p0_told), .int (Int32.ofInt i_p0_highest), .ref a_p0_tape, .int (Int32.ofInt i_p0_taped), .int (Int32.ofInt i_p0_pos), .int (Int32.ofInt i_p0_from), .int (Int32.ofInt i_p0_sort), .int (Int32.ofInt i_p0_value), .int (Int32.ofInt i_p0_fault), .int (Int32.ofInt i_p0_wrongAt), .ref a_p0_places, .ref a_p0_stirred, .ref a_p0_ways, .ref a_p0_waysThen, .ref a_p0_stays, .ref a_p0_fewest, .ref a_p0_bowls, .ref a_p0_has, .ref a_p0_goesOn, .ref a_p0_isThere, .ref a_p0_isThereThen, .ref a_p0_bestRow, .ref a_p0_lanes, .ref a_p0_sizes, .ref a_p0_cells, .int (Int32.ofInt i_p0_torn)]))] (va_A [(a_p0, .inr (12, [.ref a_p0_st, .ref a_p0_isKept, .int (Int32.ofInt i_p0_seats), .int (Int32.ofInt i_p0_stirs), .ref a_p0_brings, .ref a_p0_need, .ref a_p0_draft, .int (Int32.ofInt i_p0_dSeats), .int (Int32.ofInt i_p0_dStirs), .ref a_p0_dStir, .ref a_p0_dNeed, .int (Int32.ofInt i_p0_told), .int (Int32.ofInt i_p0_highest), .ref a_p0_tape, .int (Int32.ofInt i_p0_taped), .int (Int32.ofInt i_p0_pos), .int (Int32.ofInt i_p0_from), .int (Int32.ofInt i_p0_sort), .int (Int32.ofInt i_p0_value), .int (Int32.ofInt i_p0_fault), .int (Int32.ofInt i_p0_wrongAt), .ref a_p0_places, .ref a_p0_stirred, .ref a_p0_ways, .ref a_p0_waysThen, .ref a_p0_stays, .ref a_p0_fewest, .ref a_p0_bowls, .ref a_p0_has, .ref a_p0_goesOn, .ref a_p0_isThere, .ref a_p0_isThereThen, .ref a_p0_bestRow, .ref a_p0_lanes, .ref a_p0_sizes, .ref a_p0_cells, .int (Int32.ofInt i_p0_torn)]))] sz)) 0 0 (va_A [(a_p0, .inr (12, [.ref a_p0_st, .ref a_p0_isKept, .int (Int32.ofInt i_p0_seats), .int (Int32.ofInt i_p0_stirs), .ref a_p0_brings, .ref a_p0_need, .ref a_p0_draft, .int (Int32.ofInt i_p0_dSeats), .int (Int32.ofInt i_p0_dStirs), .ref a_p0_dStir, .ref a_p0_dNeed, .int (Int32.ofInt i_p0_told), .int (Int32.ofInt i_p0_highest), .ref a_p0_tape, .int (Int32.ofInt i_p0_taped), .int (Int32.ofInt i_p0_pos), .int (Int32.ofInt i_p0_from), .int (Int32.ofInt i_p0_sort), .int (Int32.ofInt i_p0_value), .int (Int32.ofInt i_p0_fault), .int (Int32.ofInt i_p0_wrongAt), .ref a_p0_places, .ref a_p0_stirred, .ref a_p0_ways, .ref a_p0_waysThen, .ref a_p0_stays, .ref a_p0_fewest, .ref a_p0_bowls, .ref a_p0_has, .ref a_p0_goesOn, .ref a_p0_isThere, .ref a_p0_isThereThen, .ref a_p0_bestRow, .ref a_p0_lanes, .ref a_p0_sizes, .ref a_p0_cells, .int (Int32.ofInt i_p0_torn)]))] sz) := by
  refine Met.ofW (cc := cX12_blind) (maxL := 9) (ret := (some .long)) (by decide) rfl ?_
  intro p e s m args below meth c s₁ B hml hv
  obtain ⟨rfl, hsz, hP, hK, hD0⟩ := hv
  have hx := B.exec
  have hb := B.bytes
  have hr := B.returns
  have hts := atoms_spec (ws := wsX12_blind) B.pre
  have hown : s.vm.findClass RX12 = some m.cls := findClass_of_methodNamed B.named
  have hlocks := B.notSynchronized
  subst hsz
  have hD := hD0.self (sz := s.heap.size)
  generalize hAe : va_A [(a_p0, .inr (12, [.ref a_p0_st, .ref a_p0_isKept, .int (Int32.ofInt i_p0_seats), .int (Int32.ofInt i_p0_stirs), .ref a_p0_brings, .ref a_p0_need, .ref a_p0_draft, .int (Int32.ofInt i_p0_dSeats), .int (Int32.ofInt i_p0_dStirs), .ref a_p0_dStir, .ref a_p0_dNeed, .int (Int32.ofInt i_p0_told), .int (Int32.ofInt i_p0_highest), .ref a_p0_tape, .int (Int32.ofInt i_p0_taped), .int (Int32.ofInt i_p0_pos), .int (Int32.ofInt i_p0_from), .int (Int32.ofInt i_p0_sort), .int (Int32.ofInt i_p0_value), .int (Int32.ofInt i_p0_fault), .int (Int32.ofInt i_p0_wrongAt), .ref a_p0_places, .ref a_p0_stirred, .ref a_p0_ways, .ref a_p0_waysThen, .ref a_p0_stays, .ref a_p0_fewest, .ref a_p0_bowls, .ref a_p0_has, .ref a_p0_goesOn, .ref a_p0_isThere, .ref a_p0_isThereThen, .ref a_p0_bestRow, .ref a_p0_lanes, .ref a_p0_sizes, .ref a_p0_cells, .int (Int32.ofInt i_p0_torn)]))] s.heap.size = A at hD ⊢
  have hA : ∀ q : Nat, s.heap.size ≤ q → A q := fun q h => by rw [← hAe]; exact Or.inr h
  clear hAe hD0
  have hS : va_S A s.heap s.heap [] := va_S.rf
  have hl := lv_entry ([.ref a_p0, .int (Int32.ofInt x1), .int (Int32.ofInt x2), .int (Int32.ofInt x3)]) (n := 9) (Nat.le_of_ble_eq_true rfl)
  rw [lg_entry_eq]
  generalize (lg_sl ([.ref a_p0, .int (Int32.ofInt x1), .int (Int32.ofInt x2), .int (Int32.ofInt x3)]) ++ List.replicate (9 - (lg_sl ([.ref a_p0, .int (Int32.ofInt x1), .int (Int32.ofInt x2), .int (Int32.ofInt x3)])).length) Slot.unset).toArray = ls at hl ⊢
  have hl : lv_has ls 9 [(0, .ref a_p0), (1, .int (Int32.ofInt x1)), (2, .int (Int32.ofInt x2)), (3, .int (Int32.ofInt x3))] := hl
  refine W_nameQ (fun Q hQ => ?_)
  obtain ⟨H, hH⟩ : ∃ H, H = s.heap := ⟨_, rfl⟩
  replace hS : va_S A s.heap H [] := by rw [hH]; exact hS
  replace hP : va_P D vwCl [(a_p0, .inr (12, [.ref a_p0_st, .ref a_p0_isKept, .int (Int32.ofInt i_p0_seats), .int (Int32.ofInt i_p0_stirs), .ref a_p0_brings, .ref a_p0_need, .ref a_p0_draft, .int (Int32.ofInt i_p0_dSeats), .int (Int32.ofInt i_p0_dStirs), .ref a_p0_dStir, .ref a_p0_dNeed, .int (Int32.ofInt i_p0_told), .int (Int32.ofInt i_p0_highest), .ref a_p0_tape, .int (Int32.ofInt i_p0_taped), .int (Int32.ofInt i_p0_pos), .int (Int32.ofInt i_p0_from), .int (Int32.ofInt i_p0_sort), .int (Int32.ofInt i_p0_value), .int (Int32.ofInt i_p0_fault), .int (Int32.ofInt i_p0_wrongAt), .ref a_p0_places, .ref a_p0_stirred, .ref a_p0_ways, .ref a_p0_waysThen, .ref a_p0_stays, .ref a_p0_fewest, .ref a_p0_bowls, .ref a_p0_has, .ref a_p0_goesOn, .ref a_p0_isThere, .ref a_p0_isThereThen, .ref a_p0_bestRow, .ref a_p0_lanes, .ref a_p0_sizes, .ref a_p0_cells, .int (Int32.ofInt i_p0_torn)]))] H := by rw [hH]; exact hP
  rw [← hH]
  clear hH
  unfold f_X12_blind at hf
  refine lv_iload_n hx hb dX12_blind_0 rfl (lv_at hl 2 rfl) ?_
  have hr0 := ck_c hf
  replace hf := ck_r hf
  refine lv_i2l (v := Int64.ofInt x2) hx hb dX12_blind_1 (z_i2l hr0) ?_
  refine lv_lconst (v := Int64.ofInt (1 : Int)) hx hb dX12_blind_2 (by decide) ?_
  refine lv_ldc2 (v := (12 : Int64)) hx hb hown (hts _ mwX12_blind_0) dX12_blind_3 (z_cl (show Int64.ofInt (12 : Int) = _ from by decide) ?_)
  have hq := bd1_s hf
  clear hf
  obtain ⟨z2, hcall, hf⟩ := hq
  refine gnI (va_runS (As := [.long (Int64.ofInt x2), .long (Int64.ofInt (1 : Int)), .long (Int64.ofInt (12 : Int))]) (rest := []) ⟨hx, hb, hml, hown, hts⟩ (c_X12_in (l := l) (D := D) (G := G) (sz := H.size) (x0 := x2) (x2 := (1 : Int)) (x4 := (12 : Int)) (r := z2) (hf := hcall)) (va_cwS 3 hts gX12_blind_X12_in rfl rfl rfl (by decide +kernel) ⟨Nat.le_of_ble_eq_true rfl, Nat.le_of_ble_eq_true rfl⟩) (preG_S (hP.sub [] rfl) (hD.sub [] rfl rfl) hK) rfl rfl hl.1 rfl (lv_room (Nat.le_of_ble_eq_true rfl)) dX12_blind_6 ⟨Nat.le_of_ble_eq_true rfl, Nat.le_of_ble_eq_true rfl⟩) hP hD hS hA [] rfl (fun H locs hP hD hS => ?_)
  clear hcall
  have hr2 := ck_c hf
  replace hf := ck_r hf
  refine lv_if_eq (tgt := 30) hx hb dX12_blind_9 (by decide) (fun cc => ?_) (fun cc => ?_)
  ·
    replace hf := ite_t ((z_eq0 hr2).mp cc) hf
    clear cc
    refine lv_ldc2 (v := (-1 : Int64)) hx hb hown (hts _ mwX12_blind_1) dX12_blind_30 (z_cl (show Int64.ofInt (-1 : Int) = _ from by decide) ?_)
    obtain rfl := ou1 hf
    rw [hQ]
    exact W.lret hx hb hr (fun t ht hW => ⟨⟨_, (), rfl, rfl, by rw [ht]; exact hP, va_K.moved hW.alike hK, hD⟩, hS.F ht⟩) hS.2.2 dX12_blind_33
  ·
    replace hf := ite_f (fun h9 => cc ((z_eq0 hr2).mpr h9)) hf
    clear cc
    refine lv_iload_n hx hb dX12_blind_12 rfl (lv_at hl 1 rfl) ?_
    have hr3 := ck_c hf
    replace hf := ck_r hf
    refine lv_i2l (v := Int64.ofInt x1) hx hb dX12_blind_13 (z_i2l hr3) ?_
    refine lv_lconst (v := Int64.ofInt (0 : Int)) hx hb dX12_blind_14 (by decide) ?_
    refine lv_iload_n hx hb dX12_blind_15 rfl (lv_at hl 2 rfl) ?_
    refine lv_i2l (v := Int64.ofInt x2) hx hb dX12_blind_16 (z_i2l hr0) ?_
    have hq := bd1_s hf
    clear hf
    obtain ⟨z5, hcall, hf⟩ := hq
    refine gnI (va_runS (As := [.long (Int64.ofInt x1), .long (Int64.ofInt (0 : Int)), .long (Int64.ofInt x2)]) (rest := []) ⟨hx, hb, hml, hown, hts⟩ (c_X12_in (l := l) (D := D) (G := G) (sz := H.size) (x0 := x1) (x2 := (0 : Int)) (x4 := x2) (r := z5) (hf := hcall)) (va_cwS 3 hts gX12_blind_X12_in rfl rfl rfl (by decide +kernel) ⟨Nat.le_of_ble_eq_true rfl, Nat.le_of_ble_eq_true rfl⟩) (preG_S (hP.sub [] rfl) (hD.sub [] rfl rfl) hK) rfl rfl hl.1 rfl (lv_room (Nat.le_of_ble_eq_true rfl)) dX12_blind_17 ⟨Nat.le_of_ble_eq_true rfl, Nat.le_of_ble_eq_true rfl⟩) hP hD hS hA [] rfl (fun H locs hP hD hS => ?_)
    clear hcall
    have hr5 := ck_c hf
    replace hf := ck_r hf
    refine lv_if_eq (tgt := 30) hx hb dX12_blind_20 (by decide) (fun cc => ?_) (fun cc => ?_)
    ·
      replace hf := ite_t ((z_eq0 hr5).mp cc) hf
      clear cc
      refine lv_ldc2 (v := (-1 : Int64)) hx hb hown (hts _ mwX12_blind_1) dX12_blind_30 (z_cl (show Int64.ofInt (-1 : Int) = _ from by decide) ?_)
      obtain rfl := ou1 hf
      rw [hQ]
      exact W.lret hx hb hr (fun t ht hW => ⟨⟨_, (), rfl, rfl, by rw [ht]; exact hP, va_K.moved hW.alike hK, hD⟩, hS.F ht⟩) hS.2.2 dX12_blind_33
    ·
      replace hf := ite_f (fun h9 => cc ((z_eq0 hr5).mpr h9)) hf
      clear cc
      refine lv_iload_n hx hb dX12_blind_23 rfl (lv_at hl 3 rfl) ?_
      have hq := bd1_s hf
      clear hf
      obtain ⟨z7, hcall, hf⟩ := hq
      refine gnI (va_runS (As := [.int (Int32.ofInt x3)]) (rest := []) ⟨hx, hb, hml, hown, hts⟩ (c_X12_isTold (l := l) (D := D) (G := G) (sz := H.size) (x0 := x3) (r := z7) (hf := hcall)) (va_cwS 1 hts gX12_blind_X12_isTold rfl rfl rfl (by decide +kernel) ⟨Nat.le_of_ble_eq_true rfl, Nat.le_of_ble_eq_true rfl⟩) (preG_S (hP.sub [] rfl) (hD.sub [] rfl rfl) hK) rfl rfl hl.1 rfl (lv_room (Nat.le_of_ble_eq_true rfl)) dX12_blind_24 ⟨Nat.le_of_ble_eq_true rfl, Nat.le_of_ble_eq_true rfl⟩) hP hD hS hA [] rfl (fun H locs hP hD hS => ?_)
      clear hcall
      have hr7 := ck_c hf
      replace hf := ck_r hf
      refine lv_if_ne (tgt := 34) hx hb dX12_blind_27 (by decide) (fun cc => ?_) (fun cc => ?_)
      ·
        replace hf := ite_f (fun h9 => cc ((z_eq0 hr7).mpr h9)) hf
        clear cc
        refine lv_lconst (v := Int64.ofInt (0 : Int)) hx hb dX12_blind_34 (by decide) ?_
        refine z_topl (fun z9 ez => ?_)
        replace hf := bnd_s hf ez
        clear ez
        refine lv_lstore (lv' := [(4, .long (Int64.ofInt z9)), (0, .ref a_p0), (1, .int (Int32.ofInt x1)), (2, .int (Int32.ofInt x2)), (3, .int (Int32.ofInt x3))]) hx hb dX12_blind_35 hl (by decide) rfl (fun ls hl => ?_)
        refine lv_lconst (v := Int64.ofInt (1 : Int)) hx hb dX12_blind_37 (by decide) ?_
        refine z_topl (fun z10 ez => ?_)
        replace hf := bnd_s hf ez
        clear ez
        refine lv_lstore (lv' := [(6, .long (Int64.ofInt z10)), (4, .long (Int64.ofInt z9)), (0, .ref a_p0), (1, .int (Int32.ofInt x1)), (2, .int (Int32.ofInt x2)), (3, .int (Int32.ofInt x3))]) hx hb dX12_blind_38 hl (by decide) rfl (fun ls hl => ?_)
        refine lv_iconst (v := Int32.ofInt (0 : Int)) hx hb dX12_blind_40 (by decide) ?_
        refine z_topi (fun z11 ez => ?_)
        replace hf := bnd_s hf ez
        clear ez
        refine lv_istore (lv' := [(8, .int (Int32.ofInt z11)), (6, .long (Int64.ofInt z10)), (4, .long (Int64.ofInt z9)), (0, .ref a_p0), (1, .int (Int32.ofInt x1)), (2, .int (Int32.ofInt x2)), (3, .int (Int32.ofInt x3))]) hx hb dX12_blind_41 hl (by decide) rfl (fun ls hl => ?_)
        have hq := jn_i hf
        clear hf
        obtain ⟨J13, eJ13, hf⟩ := hq
        have hJ13 : ∀ (z12 : Int) (ls : Array Slot) (H : Heap) (locs : List Loc), lv_has ls 9 [(4, .long (Int64.ofInt z12)), (0, .ref a_p0), (2, .int (Int32.ofInt x2)), (3, .int (Int32.ofInt x3))] → va_P D vwCl [(a_p0, .inr (12, [.ref a_p0_st, .ref a_p0_isKept, .int (Int32.ofInt i_p0_seats), .int (Int32.ofInt i_p0_stirs), .ref a_p0_brings, .ref a_p0_need, .ref a_p0_draft, .int (Int32.ofInt i_p0_dSeats), .int (Int32.ofInt i_p0_dStirs), .ref a_p0_dStir, .ref a_p0_dNeed, .int (Int32.ofInt i_p0_told), .int (Int32.ofInt i_p0_highest), .ref a_p0_tape, .int (Int32.ofInt i_p0_taped), .int (Int32.ofInt i_p0_pos), .int (Int32.ofInt i_p0_from), .int (Int32.ofInt i_p0_sort), .int (Int32.ofInt i_p0_value), .int (Int32.ofInt i_p0_fault), .int (Int32.ofInt i_p0_wrongAt), .ref a_p0_places, .ref a_p0_stirred, .ref a_p0_ways, .ref a_p0_waysThen, .ref a_p0_stays, .ref a_p0_fewest, .ref a_p0_bowls, .ref a_p0_has, .ref a_p0_goesOn, .ref a_p0_isThere, .ref a_p0_isThereThen, .ref a_p0_bestRow, .ref a_p0_lanes, .ref a_p0_sizes, .ref a_p0_cells, .int (Int32.ofInt i_p0_torn)]))] H → va_D A [(a_p0, .inr (12, [.ref a_p0_st, .ref a_p0_isKept, .int (Int32.ofInt i_p0_seats), .int (Int32.ofInt i_p0_stirs), .ref a_p0_brings, .ref a_p0_need, .ref a_p0_draft, .int (Int32.ofInt i_p0_dSeats), .int (Int32.ofInt i_p0_dStirs), .ref a_p0_dStir, .ref a_p0_dNeed, .int (Int32.ofInt i_p0_told), .int (Int32.ofInt i_p0_highest), .ref a_p0_tape, .int (Int32.ofInt i_p0_taped), .int (Int32.ofInt i_p0_pos), .int (Int32.ofInt i_p0_from), .int (Int32.ofInt i_p0_sort), .int (Int32.ofInt i_p0_value), .int (Int32.ofInt i_p0_fault), .int (Int32.ofInt i_p0_wrongAt), .ref a_p0_places, .ref a_p0_stirred, .ref a_p0_ways, .ref a_p0_waysThen, .ref a_p0_stays, .ref a_p0_fewest, .ref a_p0_bowls, .ref a_p0_has, .ref a_p0_goesOn, .ref a_p0_isThere, .ref a_p0_isThereThen, .ref a_p0_bestRow, .ref a_p0_lanes, .ref a_p0_sizes, .ref a_p0_cells, .int (Int32.ofInt i_p0_torn)]))] → va_S A s.heap H locs → J13 z12 = some r → W p l e rm_X12_blind s m ([.ref a_p0, .int (Int32.ofInt x1), .int (Int32.ofInt x2), .int (Int32.ofInt x3)] : List Value).toArray below meth c H locs 0 0 Q (F0 m 104 ls []) := by
          clear hf hl hP hD hS
          intro z12 ls H locs hl hP hD hS hf
          replace hf := jn1_s eJ13 hf
          refine lv_lload hx hb dX12_blind_104 (lv_at hl 0 rfl) ?_
          refine lv_aload_n hx hb dX12_blind_106 rfl (lv_at hl 1 rfl) ?_
          refine lv_aload_n hx hb dX12_blind_107 rfl (lv_at hl 1 rfl) ?_
          refine va_get (D := D) (ci := 12) (v := .int (Int32.ofInt i_p0_seats)) (C := RX12) (T := TX12) (N := 37) hx hb hts inX12_blind_X12 hown hK hP 0 rfl rfl 2 (by decide) (hts _ mwX12_blind_3) (fun _ h9 => h9) rfl dX12_blind_108 ?_
          have hr13 := ck_c hf
          replace hf := ck_r hf
          refine lv_i2l (v := Int64.ofInt i_p0_seats) hx hb dX12_blind_111 (z_i2l hr13) ?_
          refine lv_iload_n hx hb dX12_blind_112 rfl (lv_at hl 2 rfl) ?_
          have hq := bd1_s hf
          clear hf
          obtain ⟨z15, hcall, hf⟩ := hq
          refine gnL (va_runV (As := [.long (Int64.ofInt i_p0_seats), .int (Int32.ofInt x2)]) (rest := [.long (Int64.ofInt z12)]) ⟨hx, hb, hml, hown, hts⟩ (c_X12_power (l := l) (D := D) (G := G) (sz := H.size) (a_p0 := a_p0) (a_p0_st := a_p0_st) (a_p0_isKept := a_p0_isKept) (a_p0_brings := a_p0_brings) (a_p0_need := a_p0_need) (a_p0_draft := a_p0_draft) (a_p0_dStir := a_p0_dStir) (a_p0_dNeed := a_p0_dNeed) (a_p0_tape := a_p0_tape) (a_p0_places := a_p0_places) (a_p0_stirred := a_p0_stirred) (a_p0_ways := a_p0_ways) (a_p0_waysThen := a_p0_waysThen) (a_p0_stays := a_p0_stays) (a_p0_fewest := a_p0_fewest) (a_p0_bowls := a_p0_bowls) (a_p0_has := a_p0_has) (a_p0_goesOn := a_p0_goesOn) (a_p0_isThere := a_p0_isThere) (a_p0_isThereThen := a_p0_isThereThen) (a_p0_bestRow := a_p0_bestRow) (a_p0_lanes := a_p0_lanes) (a_p0_sizes := a_p0_sizes) (a_p0_cells := a_p0_cells) (i_p0_seats := i_p0_seats) (i_p0_stirs := i_p0_stirs) (i_p0_dSeats := i_p0_dSeats) (i_p0_dStirs := i_p0_dStirs) (i_p0_told := i_p0_told) (i_p0_highest := i_p0_highest) (i_p0_taped := i_p0_taped) (i_p0_pos := i_p0_pos) (i_p0_from := i_p0_from) (i_p0_sort := i_p0_sort) (i_p0_value := i_p0_value) (i_p0_fault := i_p0_fault) (i_p0_wrongAt := i_p0_wrongAt) (i_p0_torn := i_p0_torn) (x1 := i_p0_seats) (x3 := x2) (r := z15) (hf := hcall)) (cwV 2 hts gX12_blind_X12_power rfl rfl rfl hdV_yX12_power_RX12 ⟨Nat.le_of_ble_eq_true rfl, Nat.le_of_ble_eq_true rfl⟩) (preG_V (ci := 12) (q := (RX12, TX12, 37)) (hP.sub [0] rfl) (hD.sub [0] rfl rfl) hK rfl rfl) rfl rfl hl.1 rfl (lv_room (Nat.le_of_ble_eq_true rfl)) dX12_blind_113 ⟨Nat.le_of_ble_eq_true rfl, Nat.le_of_ble_eq_true rfl⟩) hP hD hS hA [0] rfl (fun H locs hP hD hS => ?_)
          clear hcall
          refine lv_iload_n hx hb dX12_blind_116 rfl (lv_at hl 3 rfl) ?_
          have hq := bd1_s hf
          clear hf
          obtain ⟨z16, hcall, hf⟩ := hq
          refine gnL (va_runS (As := [.long (Int64.ofInt z12), .long (Int64.ofInt z15), .int (Int32.ofInt x3)]) (rest := []) ⟨hx, hb, hml, hown, hts⟩ (c_X12_lowest (l := l) (D := D) (G := G) (sz := H.size) (x0 := z12) (x2 := z15) (x4 := x3) (r := z16) (hf := hcall)) (va_cwS 3 hts gX12_blind_X12_lowest rfl rfl rfl (by decide +kernel) ⟨Nat.le_of_ble_eq_true rfl, Nat.le_of_ble_eq_true rfl⟩) (preG_S (hP.sub [] rfl) (hD.sub [] rfl rfl) hK) rfl rfl hl.1 rfl (lv_room (Nat.le_of_ble_eq_true rfl)) dX12_blind_117 ⟨Nat.le_of_ble_eq_true rfl, Nat.le_of_ble_eq_true rfl⟩) hP hD hS hA [] rfl (fun H locs hP hD hS => ?_)
          clear hcall
          obtain rfl := ou1 hf
          rw [hQ]
          exact W.lret hx hb hr (fun t ht hW => ⟨⟨_, (), rfl, rfl, by rw [ht]; exact hP, va_K.moved hW.alike hK, hD⟩, hS.F ht⟩) hS.2.2 dX12_blind_120
        have hq := lq3_i hf
        clear hf
        obtain ⟨B20, eB20, NB20, hf⟩ := hq
        have hB20 : ∀ (n : Nat) (z17 : Int) (z18 : Int) (z19 : Int) (ls : Array Slot) (H : Heap) (locs : List Loc), lv_has ls 9 [(8, .int (Int32.ofInt z17)), (6, .long (Int64.ofInt z18)), (4, .long (Int64.ofInt z19)), (0, .ref a_p0), (1, .int (Int32.ofInt x1)), (2, .int (Int32.ofInt x2)), (3, .int (Int32.ofInt x3))] → va_P D vwCl [(a_p0, .inr (12, [.ref a_p0_st, .ref a_p0_isKept, .int (Int32.ofInt i_p0_seats), .int (Int32.ofInt i_p0_stirs), .ref a_p0_brings, .ref a_p0_need, .ref a_p0_draft, .int (Int32.ofInt i_p0_dSeats), .int (Int32.ofInt i_p0_dStirs), .ref a_p0_dStir, .ref a_p0_dNeed, .int (Int32.ofInt i_p0_told), .int (Int32.ofInt i_p0_highest), .ref a_p0_tape, .int (Int32.ofInt i_p0_taped), .int (Int32.ofInt i_p0_pos), .int (Int32.ofInt i_p0_from), .int (Int32.ofInt i_p0_sort), .int (Int32.ofInt i_p0_value), .int (Int32.ofInt i_p0_fault), .int (Int32.ofInt i_p0_wrongAt), .ref a_p0_places, .ref a_p0_stirred, .ref a_p0_ways, .ref a_p0_waysThen, .ref a_p0_stays, .ref a_p0_fewest, .ref a_p0_bowls, .ref a_p0_has, .ref a_p0_goesOn, .ref a_p0_isThere, .ref a_p0_isThereThen, .ref a_p0_bestRow, .ref a_p0_lanes, .ref a_p0_sizes, .ref a_p0_cells, .int (Int32.ofInt i_p0_torn)]))] H → va_D A [(a_p0, .inr (12, [.ref a_p0_st, .ref a_p0_isKept, .int (Int32.ofInt i_p0_seats), .int (Int32.ofInt i_p0_stirs), .ref a_p0_brings, .ref a_p0_need, .ref a_p0_draft, .int (Int32.ofInt i_p0_dSeats), .int (Int32.ofInt i_p0_dStirs), .ref a_p0_dStir, .ref a_p0_dNeed, .int (Int32.ofInt i_p0_told), .int (Int32.ofInt i_p0_highest), .ref a_p0_tape, .int (Int32.ofInt i_p0_taped), .int (Int32.ofInt i_p0_pos), .int (Int32.ofInt i_p0_from), .int (Int32.ofInt i_p0_sort), .int (Int32.ofInt i_p0_value), .int (Int32.ofInt i_p0_fault), .int (Int32.ofInt i_p0_wrongAt), .ref a_p0_places, .ref a_p0_stirred, .ref a_p0_ways, .ref a_p0_waysThen, .ref a_p0_stays, .ref a_p0_fewest, .ref a_p0_bowls, .ref a_p0_has, .ref a_p0_goesOn, .ref a_p0_isThere, .ref a_p0_isThereThen, .ref a_p0_bestRow, .ref a_p0_lanes, .ref a_p0_sizes, .ref a_p0_cells, .int (Int32.ofInt i_p0_torn)]))] → va_S A s.heap H locs → lq3 B20 n z17 z18 z19 = some r → W p l e rm_X12_blind s m ([.ref a_p0, .int (Int32.ofInt x1), .int (Int32.ofInt x2), .int (Int32.ofInt x3)] : List Value).toArray below meth c H locs 0 0 Q (F0 m 43 ls []) := by
          clear hf hl hP hD hS
          intro n
          induction n with
          | zero =>
            intro z17 z18 z19 ls H locs hl hP hD hS hf
            exact (lq3_0 hf).elim
          | succ n ih43 =>
            intro z17 z18 z19 ls H locs hl hP hD hS hf
            replace hf := lq3_s eB20 hf
            unfold B_X12_blind_43 at hf
            refine lv_iload hx hb dX12_blind_43 (lv_at hl 0 rfl) ?_
            refine lv_iload_n hx hb dX12_blind_45 rfl (lv_at hl 5 rfl) ?_
            have hr20 := ck_c hf
            replace hf := ck_r hf
            refine lv_icmp_gt (tgt := 104) hx hb dX12_blind_46 (by decide) (fun cc => ?_) (fun cc => ?_)
            ·
              replace hf := ite_t ((z_lt hr0 hr20).mp cc) hf
              clear cc
              exact hJ13 _ _ _ _ (lv_sub hl [2, 3, 5, 6] rfl) hP hD hS hf
            ·
              replace hf := ite_f (fun h9 => cc ((z_lt hr0 hr20).mpr h9)) hf
              clear cc
              refine lv_lload hx hb dX12_blind_49 (lv_at hl 2 rfl) ?_
              refine lv_iload hx hb dX12_blind_51 (lv_at hl 0 rfl) ?_
              refine lv_iload_n hx hb dX12_blind_53 rfl (lv_at hl 4 rfl) ?_
              have hq := jn_i hf
              clear hf
              obtain ⟨J24, eJ24, hf⟩ := hq
              have hJ24 : ∀ (z22 : Int) (z23 : Int) (ls : Array Slot) (H : Heap) (locs : List Loc), lv_has ls 9 [(8, .int (Int32.ofInt z17)), (6, .long (Int64.ofInt z18)), (0, .ref a_p0), (1, .int (Int32.ofInt x1)), (2, .int (Int32.ofInt x2)), (3, .int (Int32.ofInt x3))] → va_P D vwCl [(a_p0, .inr (12, [.ref a_p0_st, .ref a_p0_isKept, .int (Int32.ofInt i_p0_seats), .int (Int32.ofInt i_p0_stirs), .ref a_p0_brings, .ref a_p0_need, .ref a_p0_draft, .int (Int32.ofInt i_p0_dSeats), .int (Int32.ofInt i_p0_dStirs), .ref a_p0_dStir, .ref a_p0_dNeed, .int (Int32.ofInt i_p0_told), .int (Int32.ofInt i_p0_highest), .ref a_p0_tape, .int (Int32.ofInt i_p0_taped), .int (Int32.ofInt i_p0_pos), .int (Int32.ofInt i_p0_from), .int (Int32.ofInt i_p0_sort), .int (Int32.ofInt i_p0_value), .int (Int32.ofInt i_p0_fault), .int (Int32.ofInt i_p0_wrongAt), .ref a_p0_places, .ref a_p0_stirred, .ref a_p0_ways, .ref a_p0_waysThen, .ref a_p0_stays, .ref a_p0_fewest, .ref a_p0_bowls, .ref a_p0_has, .ref a_p0_goesOn, .ref a_p0_isThere, .ref a_p0_isThereThen, .ref a_p0_bestRow, .ref a_p0_lanes, .ref a_p0_sizes, .ref a_p0_cells, .int (Int32.ofInt i_p0_torn)]))] H → va_D A [(a_p0, .inr (12, [.ref a_p0_st, .ref a_p0_isKept, .int (Int32.ofInt i_p0_seats), .int (Int32.ofInt i_p0_stirs), .ref a_p0_brings, .ref a_p0_need, .ref a_p0_draft, .int (Int32.ofInt i_p0_dSeats), .int (Int32.ofInt i_p0_dStirs), .ref a_p0_dStir, .ref a_p0_dNeed, .int (Int32.ofInt i_p0_told), .int (Int32.ofInt i_p0_highest), .ref a_p0_tape, .int (Int32.ofInt i_p0_taped), .int (Int32.ofInt i_p0_pos), .int (Int32.ofInt i_p0_from), .int (Int32.ofInt i_p0_sort), .int (Int32.ofInt i_p0_value), .int (Int32.ofInt i_p0_fault), .int (Int32.ofInt i_p0_wrongAt), .ref a_p0_places, .ref a_p0_stirred, .ref a_p0_ways, .ref a_p0_waysThen, .ref a_p0_stays, .ref a_p0_fewest, .ref a_p0_bowls, .ref a_p0_has, .ref a_p0_goesOn, .ref a_p0_isThere, .ref a_p0_isThereThen, .ref a_p0_bestRow, .ref a_p0_lanes, .ref a_p0_sizes, .ref a_p0_cells, .int (Int32.ofInt i_p0_torn)]))] → va_S A s.heap H locs → J24 z22 z23 = some r → W p l e rm_X12_blind s m ([.ref a_p0, .int (Int32.ofInt x1), .int (Int32.ofInt x2), .int (Int32.ofInt x3)] : List Value).toArray below meth c H locs 0 0 Q (F0 m 79 ls [.long (Int64.ofInt z23), .long (Int64.ofInt z22)]) := by
                clear hf hl hP hD hS
                intro z22 z23 ls H locs hl hP hD hS hf
                replace hf := jn2_s eJ24 hf
                refine lv_ladd hx hb dX12_blind_79 (z_cl (Int64.ofInt_add z22 z23) ?_)
                refine z_topl (fun z25 ez => ?_)
                replace hf := bnd_s hf ez
                clear ez
                refine lv_lstore (lv' := [(4, .long (Int64.ofInt z25)), (8, .int (Int32.ofInt z17)), (6, .long (Int64.ofInt z18)), (0, .ref a_p0), (1, .int (Int32.ofInt x1)), (2, .int (Int32.ofInt x2)), (3, .int (Int32.ofInt x3))]) hx hb dX12_blind_80 hl (by decide) rfl (fun ls hl => ?_)
                refine lv_lload hx hb dX12_blind_82 (lv_at hl 2 rfl) ?_
                refine lv_iload_n hx hb dX12_blind_84 rfl (lv_at hl 5 rfl) ?_
                refine lv_iload hx hb dX12_blind_85 (lv_at hl 1 rfl) ?_
                refine lv_isub hx hb dX12_blind_87 (z_ci (Int32.ofInt_sub x2 z17) ?_)
                have hr25 := ck_c hf
                replace hf := ck_r hf
                refine lv_i2l (v := Int64.ofInt (x2 - z17)) hx hb dX12_blind_88 (z_i2l hr25) ?_
                refine lv_lmul hx hb dX12_blind_89 (z_cl (Int64.ofInt_mul z18 (x2 - z17)) ?_)
                refine lv_iload hx hb dX12_blind_90 (lv_at hl 1 rfl) ?_
                refine lv_iconst (v := Int32.ofInt (1 : Int)) hx hb dX12_blind_92 (by decide) ?_
                refine lv_iadd hx hb dX12_blind_93 (z_ci (Int32.ofInt_add z17 (1 : Int)) ?_)
                have hr26 := ck_c hf
                replace hf := ck_r hf
                refine lv_i2l (v := Int64.ofInt (z17 + (1 : Int))) hx hb dX12_blind_94 (z_i2l hr26) ?_
                have hc := ck_c hf
                replace hf := ck_r hf
                refine lv_ldiv hx hb dX12_blind_95 (w_nz hc) (z_cl (w_div hc) ?_)
                clear hc
                refine z_topl (fun z28 ez => ?_)
                replace hf := bnd_s hf ez
                clear ez
                refine lv_lstore (lv' := [(6, .long (Int64.ofInt z28)), (4, .long (Int64.ofInt z25)), (8, .int (Int32.ofInt z17)), (0, .ref a_p0), (1, .int (Int32.ofInt x1)), (2, .int (Int32.ofInt x2)), (3, .int (Int32.ofInt x3))]) hx hb dX12_blind_96 hl (by decide) rfl (fun ls hl => ?_)
                obtain ⟨z29, ez⟩ : ∃ y : Int, y = (z17 + (1 : Int)) := ⟨_, rfl⟩
                replace hf := bnd_s hf ez
                refine lv_iinc (v := Int32.ofInt z29) (lv' := [(8, .int (Int32.ofInt z29)), (6, .long (Int64.ofInt z28)), (4, .long (Int64.ofInt z25)), (0, .ref a_p0), (1, .int (Int32.ofInt x1)), (2, .int (Int32.ofInt x2)), (3, .int (Int32.ofInt x3))]) hx hb dX12_blind_98 hl (k := 2) rfl (by rw [ez]; exact (Int32.ofInt_add _ _).symm) (by decide) rfl (fun ls hl => ?_)
                clear ez
                refine lv_goto (tgt := 43) hx hb dX12_blind_101 (by decide) ?_
                exact ih43 _ _ _ _ _ _ (lv_sub hl [0, 1, 2, 3, 4, 5, 6] rfl) hP hD hS hf
              refine lv_icmp_lt (tgt := 78) hx hb dX12_blind_54 (by decide) (fun cc => ?_) (fun cc => ?_)
              ·
                replace hf := ite_t ((z_lt hr20 hr3).mp cc) hf
                clear cc
                refine lv_lconst (v := Int64.ofInt (0 : Int)) hx hb dX12_blind_78 (by decide) ?_
                exact hJ24 _ _ _ _ _ (lv_sub hl [0, 1, 3, 4, 5, 6] rfl) hP hD hS hf
              ·
                replace hf := ite_f (fun h9 => cc ((z_lt hr20 hr3).mpr h9)) hf
                clear cc
                refine lv_lload hx hb dX12_blind_57 (lv_at hl 1 rfl) ?_
                refine lv_aload_n hx hb dX12_blind_59 rfl (lv_at hl 3 rfl) ?_
                refine lv_aload_n hx hb dX12_blind_60 rfl (lv_at hl 3 rfl) ?_
                refine va_get (D := D) (ci := 12) (v := .int (Int32.ofInt i_p0_seats)) (C := RX12) (T := TX12) (N := 37) hx hb hts inX12_blind_X12 hown hK hP 0 rfl rfl 2 (by decide) (hts _ mwX12_blind_3) (fun _ h9 => h9) rfl dX12_blind_61 ?_
                have hr29 := ck_c hf
                replace hf := ck_r hf
                refine lv_i2l (v := Int64.ofInt i_p0_seats) hx hb dX12_blind_64 (z_i2l hr29) ?_
                refine lv_lconst (v := Int64.ofInt (1 : Int)) hx hb dX12_blind_65 (by decide) ?_
                refine lv_lsub hx hb dX12_blind_66 (z_cl (Int64.ofInt_sub i_p0_seats (1 : Int)) ?_)
                refine lv_iload_n hx hb dX12_blind_67 rfl (lv_at hl 5 rfl) ?_
                refine lv_iload hx hb dX12_blind_68 (lv_at hl 0 rfl) ?_
                refine lv_isub hx hb dX12_blind_70 (z_ci (Int32.ofInt_sub x2 z17) ?_)
                have hq := bd1_s hf
                clear hf
                obtain ⟨z31, hcall, hf⟩ := hq
                refine gnL (va_runV (As := [.long (Int64.ofInt (i_p0_seats - (1 : Int))), .int (Int32.ofInt (x2 - z17))]) (rest := [.long (Int64.ofInt z18), .long (Int64.ofInt z19)]) ⟨hx, hb, hml, hown, hts⟩ (c_X12_power (l := l) (D := D) (G := G) (sz := H.size) (a_p0 := a_p0) (a_p0_st := a_p0_st) (a_p0_isKept := a_p0_isKept) (a_p0_brings := a_p0_brings) (a_p0_need := a_p0_need) (a_p0_draft := a_p0_draft) (a_p0_dStir := a_p0_dStir) (a_p0_dNeed := a_p0_dNeed) (a_p0_tape := a_p0_tape) (a_p0_places := a_p0_places) (a_p0_stirred := a_p0_stirred) (a_p0_ways := a_p0_ways) (a_p0_waysThen := a_p0_waysThen) (a_p0_stays := a_p0_stays) (a_p0_fewest := a_p0_fewest) (a_p0_bowls := a_p0_bowls) (a_p0_has := a_p0_has) (a_p0_goesOn := a_p0_goesOn) (a_p0_isThere := a_p0_isThere) (a_p0_isThereThen := a_p0_isThereThen) (a_p0_bestRow := a_p0_bestRow) (a_p0_lanes := a_p0_lanes) (a_p0_sizes := a_p0_sizes) (a_p0_cells := a_p0_cells) (i_p0_seats := i_p0_seats) (i_p0_stirs := i_p0_stirs) (i_p0_dSeats := i_p0_dSeats) (i_p0_dStirs := i_p0_dStirs) (i_p0_told := i_p0_told) (i_p0_highest := i_p0_highest) (i_p0_taped := i_p0_taped) (i_p0_pos := i_p0_pos) (i_p0_from := i_p0_from) (i_p0_sort := i_p0_sort) (i_p0_value := i_p0_value) (i_p0_fault := i_p0_fault) (i_p0_wrongAt := i_p0_wrongAt) (i_p0_torn := i_p0_torn) (x1 := (i_p0_seats - (1 : Int))) (x3 := (x2 - z17)) (r := z31) (hf := hcall)) (cwV 2 hts gX12_blind_X12_power rfl rfl rfl hdV_yX12_power_RX12 ⟨Nat.le_of_ble_eq_true rfl, Nat.le_of_ble_eq_true rfl⟩) (preG_V (ci := 12) (q := (RX12, TX12, 37)) (hP.sub [0] rfl) (hD.sub [0] rfl rfl) hK rfl rfl) rfl rfl hl.1 rfl (lv_room (Nat.le_of_ble_eq_true rfl)) dX12_blind_71 ⟨Nat.le_of_ble_eq_true rfl, Nat.le_of_ble_eq_true rfl⟩) hP hD hS hA [0] rfl (fun H locs hP hD hS => ?_)
                clear hcall
                refine lv_lmul hx hb dX12_blind_74 (z_cl (Int64.ofInt_mul z18 z31) ?_)
                refine lv_goto (tgt := 79) hx hb dX12_blind_75 (by decide) ?_
                exact hJ24 _ _ _ _ _ (lv_sub hl [0, 1, 3, 4, 5, 6] rfl) hP hD hS hf
        exact hB20 _ _ _ _ _ _ _ (lv_sub hl [0, 1, 2, 3, 4, 5, 6] rfl) hP hD hS hf
      ·
        replace hf := ite_t ((z_eq0 hr7).mp cc) hf
        clear cc
        refine lv_ldc2 (v := (-1 : Int64)) hx hb hown (hts _ mwX12_blind_1) dX12_blind_30 (z_cl (show Int64.ofInt (-1 : Int) = _ from by decide) ?_)
        obtain rfl := ou1 hf
        rw [hQ]
        exact W.lret hx hb hr (fun t ht hW => ⟨⟨_, (), rfl, rfl, by rw [ht]; exact hP, va_K.moved hW.alike hK, hD⟩, hS.F ht⟩) hS.2.2 dX12_blind_33

noncomputable def B_X12_copies_2 (x2 : Int) (x1 : Int) (again2 : Int → (Int → Int) → Option ((Int → Int))) (z2 : Int) (w3 : (Int → Int)) : Option ((Int → Int)) := (ck (z_r32 z2) (if (38 : Int) ≤ z2 then (some w3) else (ck (z_ix (x2 + z2) 152) (ck (z_ix (x1 + z2) 152) (bnd (z_up w3 (x1 + z2) (w3 (x2 + z2))) (fun (w6 : (Int → Int)) => (bnd (z2 + (1 : Int)) (fun (z7 : Int) => (again2 z7 w6)))))))))
noncomputable def f_X12_copies (v_p0_st : (Int → Int)) (x1 : Int) (x2 : Int) : Option ((Int → Int)) := (bnd (0 : Int) (fun (z1 : Int) => (lq2 (B_X12_copies_2 x2 x1) 1000 z1 v_p0_st)))
abbrev rm_X12_copies : Room := { frames := 0, cells := 0, slots := 0, locals := 0 }
theorem inX12_copies_X12 : ∀ w ∈ wsX120, w ∈ wsX12_copies := by first | exact fun w h => List.mem_cons_of_mem _ (List.mem_append_right _ h) | decide +kernel
theorem mwX12_copies_1 : Cond.fieldLink RX12 7 "LadleKingsModel" "st" "[I" ∈ wsX12_copies := by first | exact List.mem_of_getElem? (i := 1) rfl | decide +kernel
set_option maxHeartbeats 8000000 in
set_option maxRecDepth 100000 in
theorem c_X12_copies (l : Launch) (D : va_G) (G : Nat → ClassId) (sz : Nat) (a_p0 : Nat) (a_p0_st : Nat) (a_p0_isKept : Nat) (a_p0_brings : Nat) (a_p0_need : Nat) (a_p0_draft : Nat) (a_p0_dStir : Nat) (a_p0_dNeed : Nat) (a_p0_tape : Nat) (a_p0_places : Nat) (a_p0_stirred : Nat) (a_p0_ways : Nat) (a_p0_waysThen : Nat) (a_p0_stays : Nat) (a_p0_fewest : Nat) (a_p0_bowls : Nat) (a_p0_has : Nat) (a_p0_goesOn : Nat) (a_p0_isThere : Nat) (a_p0_isThereThen : Nat) (a_p0_bestRow : Nat) (a_p0_lanes : Nat) (a_p0_sizes : Nat) (a_p0_cells : Nat) (i_p0_seats : Int) (i_p0_stirs : Int) (i_p0_dSeats : Int) (i_p0_dStirs : Int) (i_p0_told : Int) (i_p0_highest : Int) (i_p0_taped : Int) (i_p0_pos : Int) (i_p0_from : Int) (i_p0_sort : Int) (i_p0_value : Int) (i_p0_fault : Int) (i_p0_wrongAt : Int) (i_p0_torn : Int) (v_p0_st : (Int → Int)) (x1 : Int) (x2 : Int) (o_v_p0_st : (Int → Int)) (hf : f_X12_copies v_p0_st x1 x2 = some o_v_p0_st) : Met l yX12_copies wsX12_copies rm_X12_copies (pcG D G [.ref a_p0, .int (Int32.ofInt x1), .int (Int32.ofInt x2)] sz [(a_p0, .inr (12, [.ref a_p0_st, .ref a_p0_isKept, .int (Int32.ofInt i_p0_seats), .int (Int32.ofInt i_p0_stirs), .ref a_p0_brings, .ref a_p0_need, .ref a_p0_draft, .int (Int32.ofInt i_p0_dSeats), .int (Int32.ofInt i_p0_dStirs), .ref a_p0_dStir, .ref a_p0_dNeed, .int (Int32.ofInt i_p0_told), .int (Int32.ofInt i_p0_highest), .ref a_p0_tape, .int (Int32.ofInt i_p0_taped), .int (Int32.ofInt i_p0_pos), .int (Int32.ofInt i_p0_from), .int (Int32.ofInt i_p0_sort), .int (Int32.ofInt i_p0_value), .int (Int32.ofInt i_p0_fault), .int (Int32.ofInt i_p0_wrongAt), .ref a_p0_places, .ref a_p0_stirred, .ref a_p0_ways, .ref a_p0_waysThen, .ref a_p0_stays, .ref a_p0_fewest, .ref a_p0_bowls, .ref a_p0_has, .ref a_p0_goesOn, .ref a_p0_isThere, .ref a_p0_isThereThen, .ref a_p0_bestRow, .ref a_p0_lanes, .ref a_p0_sizes, .ref a_p0_cells, .int (Int32.ofInt i_p0_torn)])), (a_p0_st, .inl (G 1, 152, .inl (zA v_p0_st)))]) (qcV D G [(a_p0, .inr (12, [.ref a_p0_st, .ref a_p0_isKept, .int (Int32.ofInt i_p0_seats), .int (Int32.ofInt i_p0_stirs), .ref a_p0_brings, .ref a_p0_need, .ref a_p0_draft, .int (Int32.ofInt i_p0_dSeats), .int (Int32.ofInt i_p0_dStirs), .ref a_p0_dStir, .ref a_p0_dNeed, .int (Int32.ofInt i_p0_told), .int (Int32.ofInt i_p0_highest), .ref a_p0_tape, .int (Int32.ofInt i_p0_taped), .int (Int32.ofInt i_p0_pos), .int (Int32.ofInt i_p0_from), .int (Int32.ofInt i_p0_sort), .int (Int32.ofInt i_p0_value), .int (Int32.ofInt i_p0_fault), .int (Int32.ofInt i_p0_wrongAt), .ref a_p0_places, .ref a_p0_stirred, .ref a_p0_ways, .ref a_p0_waysThen, .ref a_p0_stays, .ref a_p0_fewest, .ref a_p0_bowls, .ref a_p0_has, .ref a_p0_goesOn, .ref a_p0_isThere, .ref a_p0_isThereThen, .ref a_p0_bestRow, .ref a_p0_lanes, .ref a_p0_sizes, .ref a_p0_cells, .int (Int32.ofInt i_p0_torn)])), (a_p0_st, .inl (G 1, 152, .inl (zA o_v_p0_st)))] (va_A [(a_p0, .inr (12, [.ref a_p0_st, .ref a_p0_isKept, .int (Int32.ofInt i_p0_seats), .int (Int32.ofInt i_p0_stirs), .ref a_p0_brings, .ref a_p0_need, .ref a_p0_draft, .int (Int32.ofInt i_p0_dSeats), .int (Int32.ofInt i_p0_dStirs), .ref a_p0_dStir, .ref a_p0_dNeed, .int (Int32.ofInt i_p0_told), .int (Int32.ofInt i_p0_highest), .ref a_p0_tape, .int (Int32.ofInt i_p0_taped), .int (Int32.ofInt i_p0_pos), .int (Int32.ofInt i_p0_from), .int (Int32.ofInt i_p0_sort), .int (Int32.ofInt i_p0_value), .int (Int32.ofInt i_p0_fault), .int (Int32.ofInt i_p0_wrongAt), .ref a_p0_places, .ref a_p0_stirred, .ref a_p0_ways, .ref a_p0_waysThen, .ref a_p0_stays, .ref a_p0_fewest, .ref a_p0_bowls, .ref a_p0_has, .ref a_p0_goesOn, .ref a_p0_isThere, .ref a_p0_isThereThen, .ref a_p0_bestRow, .ref a_p0_lanes, .ref a_p0_sizes, .ref a_p0_cells, .int (Int32.ofInt i_p0_torn)])), (a_p0_st, .inl (G 1, 152, .inl (zA v_p0_st)))] sz)) 0 0 (va_A [(a_p0, .inr (12, [.ref a_p0_st, .ref a_p0_isKept, .int (Int32.ofInt i_p0_seats), .int (Int32.ofInt i_p0_stirs), .ref a_p0_brings, .ref a_p0_need, .ref a_p0_draft, .int (Int32.ofInt i_p0_dSeats), .int (Int32.ofInt i_p0_dStirs), .ref a_p0_dStir, .ref a_p0_dNeed, .int (Int32.ofInt i_p0_told), .int (Int32.ofInt i_p0_highest), .ref a_p0_tape, .int (Int32.ofInt i_p0_taped), .int (Int32.ofInt i_p0_pos), .int (Int32.ofInt i_p0_from), .int (Int32.ofInt i_p0_sort), .int (Int32.ofInt i_p0_value), .int (Int32.ofInt i_p0_fault), .int (Int32.ofInt i_p0_wrongAt), .ref a_p0_places, .ref a_p0_stirred, .ref a_p0_ways, .ref a_p0_waysThen, .ref a_p0_stays, .ref a_p0_fewest, .ref a_p0_bowls, .ref a_p0_has, .ref a_p0_goesOn, .ref a_p0_isThere, .ref a_p0_isThereThen, .ref a_p0_bestRow, .ref a_p0_lanes, .ref a_p0_sizes, .ref a_p0_cells, .int (Int32.ofInt i_p0_torn)])), (a_p0_st, .inl (G 1, 152, .inl (zA v_p0_st)))] sz) := by
  refine Met.ofW (cc := cX12_copies) (maxL := 4) (ret := none) (by decide) rfl ?_
  intro p e s m args below meth c s₁ B hml hv
  obtain ⟨rfl, hsz, hP, hK, hD0⟩ := hv
  have hx := B.exec
  have hb := B.bytes
  have hr := B.returns
  have hts := atoms_spec (ws := wsX12_copies) B.pre
  have hown : s.vm.findClass RX12 = some m.cls := findClass_of_methodNamed B.named
  have hlocks := B.notSynchronized
  subst hsz
  have hD := hD0.self (sz := s.heap.size)
  generalize hAe : va_A [(a_p0, .inr (12, [.ref a_p0_st, .ref a_p0_isKept, .int (Int32.ofInt i_p0_seats), .int (Int32.ofInt i_p0_stirs), .ref a_p0_brings, .ref a_p0_need, .ref a_p0_draft, .int (Int32.ofInt i_p0_dSeats), .int (Int32.ofInt i_p0_dStirs), .ref a_p0_dStir, .ref a_p0_dNeed, .int (Int32.ofInt i_p0_told), .int (Int32.ofInt i_p0_highest), .ref a_p0_tape, .int (Int32.ofInt i_p0_taped), .int (Int32.ofInt i_p0_pos), .int (Int32.ofInt i_p0_from), .int (Int32.ofInt i_p0_sort), .int (Int32.ofInt i_p0_value), .int (Int32.ofInt i_p0_fault), .int (Int32.ofInt i_p0_wrongAt), .ref a_p0_places, .ref a_p0_stirred, .ref a_p0_ways, .ref a_p0_waysThen, .ref a_p0_stays, .ref a_p0_fewest, .ref a_p0_bowls, .ref a_p0_has, .ref a_p0_goesOn, .ref a_p0_isThere, .ref a_p0_isThereThen, .ref a_p0_bestRow, .ref a_p0_lanes, .ref a_p0_sizes, .ref a_p0_cells, .int (Int32.ofInt i_p0_torn)])), (a_p0_st, .inl (G 1, 152, .inl (zA v_p0_st)))] s.heap.size = A at hD ⊢
  have hA : ∀ q : Nat, s.heap.size ≤ q → A q := fun q h => by rw [← hAe]; exact Or.inr h
  clear hAe hD0
  have hS : va_S A s.heap s.heap [] := va_S.rf
  have hl := lv_entry ([.ref a_p0, .int (Int32.ofInt x1), .int (Int32.ofInt x2)]) (n := 4) (Nat.le_of_ble_eq_true rfl)
  rw [lg_entry_eq]
  generalize (lg_sl ([.ref a_p0, .int (Int32.ofInt x1), .int (Int32.ofInt x2)]) ++ List.replicate (4 - (lg_sl ([.ref a_p0, .int (Int32.ofInt x1), .int (Int32.ofInt x2)])).length) Slot.unset).toArray = ls at hl ⊢
  have hl : lv_has ls 4 [(0, .ref a_p0), (1, .int (Int32.ofInt x1)), (2, .int (Int32.ofInt x2))] := hl
  refine W_nameQ (fun Q hQ => ?_)
  obtain ⟨H, hH⟩ : ∃ H, H = s.heap := ⟨_, rfl⟩
  replace hS : va_S A s.heap H [] := by rw [hH]; exact hS
  replace hP : va_P D vwCl [(a_p0, .inr (12, [.ref a_p0_st, .ref a_p0_isKept, .int (Int32.ofInt i_p0_seats), .int (Int32.ofInt i_p0_stirs), .ref a_p0_brings, .ref a_p0_need, .ref a_p0_draft, .int (Int32.ofInt i_p0_dSeats), .int (Int32.ofInt i_p0_dStirs), .ref a_p0_dStir, .ref a_p0_dNeed, .int (Int32.ofInt i_p0_told), .int (Int32.ofInt i_p0_highest), .ref a_p0_tape, .int (Int32.ofInt i_p0_taped), .int (Int32.ofInt i_p0_pos), .int (Int32.ofInt i_p0_from), .int (Int32.ofInt i_p0_sort), .int (Int32.ofInt i_p0_value), .int (Int32.ofInt i_p0_fault), .int (Int32.ofInt i_p0_wrongAt), .ref a_p0_places, .ref a_p0_stirred, .ref a_p0_ways, .ref a_p0_waysThen, .ref a_p0_stays, .ref a_p0_fewest, .ref a_p0_bowls, .ref a_p0_has, .ref a_p0_goesOn, .ref a_p0_isThere, .ref a_p0_isThereThen, .ref a_p0_bestRow, .ref a_p0_lanes, .ref a_p0_sizes, .ref a_p0_cells, .int (Int32.ofInt i_p0_torn)])), (a_p0_st, .inl (G 1, 152, .inl (zA v_p0_st)))] H := by rw [hH]; exact hP
  rw [← hH]
  clear hH
  unfold f_X12_copies at hf
  refine lv_iconst (v := Int32.ofInt (0 : Int)) hx hb dX12_copies_0 (by decide) ?_
  refine z_topi (fun z1 ez => ?_)
  replace hf := bnd_s hf ez
  clear ez
  refine lv_istore_n (lv' := [(3, .int (Int32.ofInt z1)), (0, .ref a_p0), (1, .int (Int32.ofInt x1)), (2, .int (Int32.ofInt x2))]) hx hb dX12_copies_1 rfl hl (by decide) rfl (fun ls hl => ?_)
  have hq := lq2_i hf
  clear hf
  obtain ⟨B4, eB4, NB4, hf⟩ := hq
  have hB4 : ∀ (n : Nat) (z2 : Int) (w3 : (Int → Int)) (ls : Array Slot) (H : Heap) (locs : List Loc), lv_has ls 4 [(3, .int (Int32.ofInt z2)), (0, .ref a_p0), (1, .int (Int32.ofInt x1)), (2, .int (Int32.ofInt x2))] → va_P D vwCl [(a_p0, .inr (12, [.ref a_p0_st, .ref a_p0_isKept, .int (Int32.ofInt i_p0_seats), .int (Int32.ofInt i_p0_stirs), .ref a_p0_brings, .ref a_p0_need, .ref a_p0_draft, .int (Int32.ofInt i_p0_dSeats), .int (Int32.ofInt i_p0_dStirs), .ref a_p0_dStir, .ref a_p0_dNeed, .int (Int32.ofInt i_p0_told), .int (Int32.ofInt i_p0_highest), .ref a_p0_tape, .int (Int32.ofInt i_p0_taped), .int (Int32.ofInt i_p0_pos), .int (Int32.ofInt i_p0_from), .int (Int32.ofInt i_p0_sort), .int (Int32.ofInt i_p0_value), .int (Int32.ofInt i_p0_fault), .int (Int32.ofInt i_p0_wrongAt), .ref a_p0_places, .ref a_p0_stirred, .ref a_p0_ways, .ref a_p0_waysThen, .ref a_p0_stays, .ref a_p0_fewest, .ref a_p0_bowls, .ref a_p0_has, .ref a_p0_goesOn, .ref a_p0_isThere, .ref a_p0_isThereThen, .ref a_p0_bestRow, .ref a_p0_lanes, .ref a_p0_sizes, .ref a_p0_cells, .int (Int32.ofInt i_p0_torn)])), (a_p0_st, .inl (G 1, 152, .inl (zA w3)))] H → va_D A [(a_p0, .inr (12, [.ref a_p0_st, .ref a_p0_isKept, .int (Int32.ofInt i_p0_seats), .int (Int32.ofInt i_p0_stirs), .ref a_p0_brings, .ref a_p0_need, .ref a_p0_draft, .int (Int32.ofInt i_p0_dSeats), .int (Int32.ofInt i_p0_dStirs), .ref a_p0_dStir, .ref a_p0_dNeed, .int (Int32.ofInt i_p0_told), .int (Int32.ofInt i_p0_highest), .ref a_p0_tape, .int (Int32.ofInt i_p0_taped), .int (Int32.ofInt i_p0_pos), .int (Int32.ofInt i_p0_from), .int (Int32.ofInt i_p0_sort), .int (Int32.ofInt i_p0_value), .int (Int32.ofInt i_p0_fault), .int (Int32.ofInt i_p0_wrongAt), .ref a_p0_places, .ref a_p0_stirred, .ref a_p0_ways, .ref a_p0_waysThen, .ref a_p0_stays, .ref a_p0_fewest, .ref a_p0_bowls, .ref a_p0_has, .ref a_p0_goesOn, .ref a_p0_isThere, .ref a_p0_isThereThen, .ref a_p0_bestRow, .ref a_p0_lanes, .ref a_p0_sizes, .ref a_p0_cells, .int (Int32.ofInt i_p0_torn)])), (a_p0_st, .inl (G 1, 152, .inl (zA w3)))] → va_S A s.heap H locs → lq2 B4 n z2 w3 = some o_v_p0_st → W p l e rm_X12_copies s m ([.ref a_p0, .int (Int32.ofInt x1), .int (Int32.ofInt x2)] : List Value).toArray below meth c H locs 0 0 Q (F0 m 2 ls []) := by
    clear hf hl hP hD hS
    intro n
    induction n with
    | zero =>
      intro z2 w3 ls H locs hl hP hD hS hf
      exact (lq2_0 hf).elim
    | succ n ih2 =>
      intro z2 w3 ls H locs hl hP hD hS hf
      replace hf := lq2_s eB4 hf
      unfold B_X12_copies_2 at hf
      refine lv_iload_n hx hb dX12_copies_2 rfl (lv_at hl 0 rfl) ?_
      refine lv_bipush (v := Int32.ofInt (38 : Int)) hx hb dX12_copies_3 (by decide) ?_
      have hr4 := ck_c hf
      replace hf := ck_r hf
      refine lv_icmp_ge (tgt := 30) hx hb dX12_copies_5 (by decide) (fun cc => ?_) (fun cc => ?_)
      ·
        replace hf := ite_t ((z_le (by decide) hr4).mp cc) hf
        clear cc
        obtain rfl := ou1 hf
        rw [hQ]
        exact W.vret hx hb hr (fun t ht hW => ⟨⟨(), rfl, trivial, by rw [ht]; exact hP, va_K.moved hW.alike hK, hD⟩, hS.F ht⟩) hS.2.2 dX12_copies_30
      ·
        replace hf := ite_f (fun h9 => cc ((z_le (by decide) hr4).mpr h9)) hf
        clear cc
        refine lv_aload_n hx hb dX12_copies_8 rfl (lv_at hl 1 rfl) ?_
        refine va_get (D := D) (ci := 12) (v := .ref a_p0_st) (C := RX12) (T := TX12) (N := 37) hx hb hts inX12_copies_X12 hown hK hP 0 rfl rfl 0 (by decide) (hts _ mwX12_copies_1) (fun _ h9 => h9) rfl dX12_copies_9 ?_
        refine lv_iload_n hx hb dX12_copies_12 rfl (lv_at hl 2 rfl) ?_
        refine lv_iload_n hx hb dX12_copies_13 rfl (lv_at hl 0 rfl) ?_
        refine lv_iadd hx hb dX12_copies_14 (z_ci (Int32.ofInt_add x1 z2) ?_)
        refine lv_aload_n hx hb dX12_copies_15 rfl (lv_at hl 1 rfl) ?_
        refine va_get (D := D) (ci := 12) (v := .ref a_p0_st) (C := RX12) (T := TX12) (N := 37) hx hb hts inX12_copies_X12 hown hK hP 0 rfl rfl 0 (by decide) (hts _ mwX12_copies_1) (fun _ h9 => h9) rfl dX12_copies_16 ?_
        refine lv_iload_n hx hb dX12_copies_19 rfl (lv_at hl 3 rfl) ?_
        refine lv_iload_n hx hb dX12_copies_20 rfl (lv_at hl 0 rfl) ?_
        refine lv_iadd hx hb dX12_copies_21 (z_ci (Int32.ofInt_add x2 z2) ?_)
        have hc := ck_c hf
        replace hf := ck_r hf
        refine va_iald hx hb hK hP 1 1 rfl rfl (z_ix_in hc) dX12_copies_22 (z_ci (z_ald w3 hc) ?_)
        clear hc
        have hc := ck_c hf
        replace hf := ck_r hf
        refine zs_iast (wf := fun w6 => [(a_p0, .inr (12, [.ref a_p0_st, .ref a_p0_isKept, .int (Int32.ofInt i_p0_seats), .int (Int32.ofInt i_p0_stirs), .ref a_p0_brings, .ref a_p0_need, .ref a_p0_draft, .int (Int32.ofInt i_p0_dSeats), .int (Int32.ofInt i_p0_dStirs), .ref a_p0_dStir, .ref a_p0_dNeed, .int (Int32.ofInt i_p0_told), .int (Int32.ofInt i_p0_highest), .ref a_p0_tape, .int (Int32.ofInt i_p0_taped), .int (Int32.ofInt i_p0_pos), .int (Int32.ofInt i_p0_from), .int (Int32.ofInt i_p0_sort), .int (Int32.ofInt i_p0_value), .int (Int32.ofInt i_p0_fault), .int (Int32.ofInt i_p0_wrongAt), .ref a_p0_places, .ref a_p0_stirred, .ref a_p0_ways, .ref a_p0_waysThen, .ref a_p0_stays, .ref a_p0_fewest, .ref a_p0_bowls, .ref a_p0_has, .ref a_p0_goesOn, .ref a_p0_isThere, .ref a_p0_isThereThen, .ref a_p0_bestRow, .ref a_p0_lanes, .ref a_p0_sizes, .ref a_p0_cells, .int (Int32.ofInt i_p0_torn)])), (a_p0_st, .inl (G 1, 152, .inl (zA w6)))]) hx hb hK hP hD hS 1 1 rfl rfl hc dX12_copies_23 (fun _ => rfl) (fun w6 ez H locs hP hD hS => ?_)
        replace hf := bnd_s hf ez
        clear ez hc
        obtain ⟨z7, ez⟩ : ∃ y : Int, y = (z2 + (1 : Int)) := ⟨_, rfl⟩
        replace hf := bnd_s hf ez
        refine lv_iinc (v := Int32.ofInt z7) (lv' := [(3, .int (Int32.ofInt z7)), (0, .ref a_p0), (1, .int (Int32.ofInt x1)), (2, .int (Int32.ofInt x2))]) hx hb dX12_copies_24 hl (k := 0) rfl (by rw [ez]; exact (Int32.ofInt_add _ _).symm) (by decide) rfl (fun ls hl => ?_)
        clear ez
        refine lv_goto (tgt := 2) hx hb dX12_copies_27 (by decide) ?_
        exact ih2 _ _ _ _ _ (lv_sub hl [0, 1, 2, 3] rfl) hP hD hS hf
  exact hB4 _ _ _ _ _ _ (lv_sub hl [0, 1, 2, 3] rfl) hP hD hS hf

noncomputable def B_X12_unlikeBy_121 (i_p0_seats : Int) (J19 : Int → Int → Option (Int × (Int → Int) × (Int → Int) × (Int → Int))) (w10 : (Int → Int)) (again121 : Int → Int → Int → Option (Int × (Int → Int) × (Int → Int) × (Int → Int))) (z21 : Int) (z22 : Int) (z23 : Int) : Option (Int × (Int → Int) × (Int → Int) × (Int → Int)) := (ck (z_r32 z21) (ck (z_r32 i_p0_seats) (if i_p0_seats ≤ z21 then (J19 z23 z22) else (ck (z_ix ((23 : Int) + z21) 152) (ck (z_r32 (w10 ((23 : Int) + z21))) (ck (z_r32 z23) (jn (fun (z29 : Int) => (bnd z29 (fun (z31 : Int) => (ck (z_ix ((23 : Int) + z21) 152) (ck (z_r32 z22) (if z22 ≤ (w10 ((23 : Int) + z21)) then (bnd z22 (fun (z33 : Int) => (bnd (z21 + (1 : Int)) (fun (z34 : Int) => (again121 z34 z33 z31))))) else (ck (z_ix ((23 : Int) + z21) 152) (bnd (w10 ((23 : Int) + z21)) (fun (z35 : Int) => (bnd (z21 + (1 : Int)) (fun (z36 : Int) => (again121 z36 z35 z31)))))))))))) (fun (J30 : Int → Option (Int × (Int → Int) × (Int → Int) × (Int → Int))) => (if (w10 ((23 : Int) + z21)) ≤ z23 then (J30 z23) else (ck (z_ix ((23 : Int) + z21) 152) (J30 (w10 ((23 : Int) + z21)))))))))))))
noncomputable def B_X12_unlikeBy_60 (x2 : Int) (J13 : (Int → Int) → (Int → Int) → (Int → Int) → Option (Int × (Int → Int) × (Int → Int) × (Int → Int))) (x1 : Int) (i_p0_stirs : Int) (i_p0_seats : Int) (v_p0_brings : (Int → Int)) (again60 : Int → Int → (Int → Int) → (Int → Int) → (Int → Int) → Option (Int × (Int → Int) × (Int → Int) × (Int → Int))) (z37 : Int) (z38 : Int) (w39 : (Int → Int)) (w40 : (Int → Int)) (w41 : (Int → Int)) : Option (Int × (Int → Int) × (Int → Int) × (Int → Int)) := (ck (z_r32 z37) (ck (z_r32 x2) (if x2 ≤ z37 then (J13 w39 w40 w41) else (ck (z_dv x1 z38) (ck (z_dv (x1 / z38) i_p0_stirs) (bd3 (f_X12_goesDay i_p0_seats w39 v_p0_brings w40 w41 ((x1 / z38) % i_p0_stirs)) (fun (w45 : (Int → Int)) (w46 : (Int → Int)) (w47 : (Int → Int)) => (ck (z_r32 z38) (if z38 ≤ (1 : Int) then (bnd (1 : Int) (fun (z49 : Int) => (bnd (z37 + (1 : Int)) (fun (z50 : Int) => (again60 z50 z49 w45 w46 w47))))) else (ck (z_dv z38 i_p0_stirs) (bnd (z38 / i_p0_stirs) (fun (z51 : Int) => (bnd (z37 + (1 : Int)) (fun (z52 : Int) => (again60 z52 z51 w45 w46 w47)))))))))))))))
noncomputable def B_X12_unlikeBy_38 (x2 : Int) (J8 : Int → Option (Int × (Int → Int) × (Int → Int) × (Int → Int))) (i_p0_stirs : Int) (again38 : Int → Int → Option (Int × (Int → Int) × (Int → Int) × (Int → Int))) (z53 : Int) (z54 : Int) : Option (Int × (Int → Int) × (Int → Int) × (Int → Int)) := (ck (z_r32 z53) (ck (z_r32 x2) (if x2 ≤ z53 then (J8 z54) else (bnd (z54 * i_p0_stirs) (fun (z58 : Int) => (bnd (z53 + (1 : Int)) (fun (z59 : Int) => (again38 z59 z58))))))))
noncomputable def B_X12_unlikeBy_9 (i_p0_seats : Int) (J4 : (Int → Int) → Option (Int × (Int → Int) × (Int → Int) × (Int → Int))) (again9 : Int → (Int → Int) → Option (Int × (Int → Int) × (Int → Int) × (Int → Int))) (z60 : Int) (w61 : (Int → Int)) : Option (Int × (Int → Int) × (Int → Int) × (Int → Int)) := (ck (z_r32 z60) (ck (z_r32 i_p0_seats) (if i_p0_seats ≤ z60 then (J4 w61) else (ck (z_ix ((23 : Int) + z60) 152) (bnd (z_up w61 ((23 : Int) + z60) (0 : Int)) (fun (w65 : (Int → Int)) => (bnd (z60 + (1 : Int)) (fun (z66 : Int) => (again9 z66 w65)))))))))
noncomputable def f_X12_unlikeBy (i_p0_seats : Int) (i_p0_stirs : Int) (v_p0_st : (Int → Int)) (v_p0_brings : (Int → Int)) (v_p0_places : (Int → Int)) (v_p0_stirred : (Int → Int)) (x1 : Int) (x2 : Int) : Option (Int × (Int → Int) × (Int → Int) × (Int → Int)) := (bd1 (f_X12_copies v_p0_st (114 : Int) (0 : Int)) (fun (w1 : (Int → Int)) => (bnd (0 : Int) (fun (z2 : Int) => (jn (fun (w3 : (Int → Int)) => (bnd (1 : Int) (fun (z5 : Int) => (bnd (1 : Int) (fun (z6 : Int) => (jn (fun (z7 : Int) => (bnd (0 : Int) (fun (z9 : Int) => (jn (fun (w10 : (Int → Int)) (w11 : (Int → Int)) (w12 : (Int → Int)) => (ck (z_ix (23 : Int) 152) (bnd (w10 (23 : Int)) (fun (z14 : Int) => (ck (z_ix (23 : Int) 152) (bnd (w10 (23 : Int)) (fun (z15 : Int) => (bnd (1 : Int) (fun (z16 : Int) => (jn (fun (z17 : Int) (z18 : Int) => (bd1 (f_X12_copies w10 (0 : Int) (114 : Int)) (fun (w20 : (Int → Int)) => (some ((z17 - z18), w20, w11, w12))))) (fun (J19 : Int → Int → Option (Int × (Int → Int) × (Int → Int) × (Int → Int))) => (lq3 (B_X12_unlikeBy_121 i_p0_seats J19 w10) 1000 z16 z15 z14)))))))))))) (fun (J13 : (Int → Int) → (Int → Int) → (Int → Int) → Option (Int × (Int → Int) × (Int → Int) × (Int → Int))) => (lq5 (B_X12_unlikeBy_60 x2 J13 x1 i_p0_stirs i_p0_seats v_p0_brings) 1000 z9 z7 w3 v_p0_places v_p0_stirred)))))) (fun (J8 : Int → Option (Int × (Int → Int) × (Int → Int) × (Int → Int))) => (lq2 (B_X12_unlikeBy_38 x2 J8 i_p0_stirs) 1000 z6 z5)))))))) (fun (J4 : (Int → Int) → Option (Int × (Int → Int) × (Int → Int) × (Int → Int))) => (lq2 (B_X12_unlikeBy_9 i_p0_seats J4) 1000 z2 w1)))))))
abbrev rm_X12_unlikeBy : Room := { frames := 4, cells := 0, slots := 0, locals := 93 }
theorem hdV_yX12_copies_RX12 : yX12_copies.cls = RX12 ∧ yX12_copies.cls ≠ "java/lang/invoke/MethodHandle" ∧ yX12_copies.cls ≠ "java/lang/invoke/VarHandle" ∧ (parseMethodDescriptor yX12_copies.desc).map (fun d => d.parameters.length) = some 2 := by decide +kernel
theorem inX12_unlikeBy_X12 : ∀ w ∈ wsX120, w ∈ wsX12_unlikeBy := by first | exact fun w h => List.mem_cons_of_mem _ (List.mem_append_right _ h) | decide +kernel
theorem mwX12_unlikeBy_2 : Cond.fieldLink RX12 7 "LadleKingsModel" "st" "[I" ∈ wsX12_unlikeBy := by first | exact List.mem_of_getElem? (i := 2) rfl | decide +kernel
theorem mwX12_unlikeBy_3 : Cond.fieldLink RX12 100 "LadleKingsModel" "seats" "I" ∈ wsX12_unlikeBy := by first | exact List.mem_of_getElem? (i := 1) rfl | decide +kernel
theorem mwX12_unlikeBy_4 : Cond.fieldLink RX12 103 "LadleKingsModel" "stirs" "I" ∈ wsX12_unlikeBy := by first | exact List.mem_of_getElem? (i := 3) rfl | decide +kernel
set_option maxHeartbeats 8000000 in
set_option maxRecDepth 100000 in
theorem c_X12_unlikeBy (l : Launch) (D : va_G) (G : Nat → ClassId) (sz : Nat) (a_p0 : Nat) (a_p0_st : Nat) (a_p0_isKept : Nat) (a_p0_brings : Nat) (a_p0_need : Nat) (a_p0_draft : Nat) (a_p0_dStir : Nat) (a_p0_dNeed : Nat) (a_p0_tape : Nat) (a_p0_places : Nat) (a_p0_stirred : Nat) (a_p0_ways : Nat) (a_p0_waysThen : Nat) (a_p0_stays : Nat) (a_p0_fewest : Nat) (a_p0_bowls : Nat) (a_p0_has : Nat) (a_p0_goesOn : Nat) (a_p0_isThere : Nat) (a_p0_isThereThen : Nat) (a_p0_bestRow : Nat) (a_p0_lanes : Nat) (a_p0_sizes : Nat) (a_p0_cells : Nat) (i_p0_seats : Int) (i_p0_stirs : Int) (i_p0_dSeats : Int) (i_p0_dStirs : Int) (i_p0_told : Int) (i_p0_highest : Int) (i_p0_taped : Int) (i_p0_pos : Int) (i_p0_from : Int) (i_p0_sort : Int) (i_p0_value : Int) (i_p0_fault : Int) (i_p0_wrongAt : Int) (i_p0_torn : Int) (v_p0_st : (Int → Int)) (v_p0_brings : (Int → Int)) (v_p0_places : (Int → Int)) (v_p0_stirred : (Int → Int)) (x1 : Int) (x2 : Int) (r : Int) (o_v_p0_st : (Int → Int)) (o_v_p0_places : (Int → Int)) (o_v_p0_stirred : (Int → Int)) (hf : f_X12_unlikeBy i_p0_seats i_p0_stirs v_p0_st v_p0_brings v_p0_places v_p0_stirred x1 x2 = some (r, o_v_p0_st, o_v_p0_places, o_v_p0_stirred)) : Met l yX12_unlikeBy wsX12_unlikeBy rm_X12_unlikeBy (pcG D G [.ref a_p0, .int (Int32.ofInt x1), .int (Int32.ofInt x2)] sz [(a_p0, .inr (12, [.ref a_p0_st, .ref a_p0_isKept, .int (Int32.ofInt i_p0_seats), .int (Int32.ofInt i_p0_stirs), .ref a_p0_brings, .ref a_p0_need, .ref a_p0_draft, .int (Int32.ofInt i_p0_dSeats), .int (Int32.ofInt i_p0_dStirs), .ref a_p0_dStir, .ref a_p0_dNeed, .int (Int32.ofInt i_p0_told), .int (Int32.ofInt i_p0_highest), .ref a_p0_tape, .int (Int32.ofInt i_p0_taped), .int (Int32.ofInt i_p0_pos), .int (Int32.ofInt i_p0_from), .int (Int32.ofInt i_p0_sort), .int (Int32.ofInt i_p0_value), .int (Int32.ofInt i_p0_fault), .int (Int32.ofInt i_p0_wrongAt), .ref a_p0_places, .ref a_p0_stirred, .ref a_p0_ways, .ref a_p0_waysThen, .ref a_p0_stays, .ref a_p0_fewest, .ref a_p0_bowls, .ref a_p0_has, .ref a_p0_goesOn, .ref a_p0_isThere, .ref a_p0_isThereThen, .ref a_p0_bestRow, .ref a_p0_lanes, .ref a_p0_sizes, .ref a_p0_cells, .int (Int32.ofInt i_p0_torn)])), (a_p0_st, .inl (G 1, 152, .inl (zA v_p0_st))), (a_p0_brings, .inl (G 1, 35, .inl (zA v_p0_brings))), (a_p0_places, .inl (G 1, 7, .inl (zA v_p0_places))), (a_p0_stirred, .inl (G 1, 7, .inl (zA v_p0_stirred)))]) (qcI D G (Int32.ofInt r) [(a_p0, .inr (12, [.ref a_p0_st, .ref a_p0_isKept, .int (Int32.ofInt i_p0_seats), .int (Int32.ofInt i_p0_stirs), .ref a_p0_brings, .ref a_p0_need, .ref a_p0_draft, .int (Int32.ofInt i_p0_dSeats), .int (Int32.ofInt i_p0_dStirs), .ref a_p0_dStir, .ref a_p0_dNeed, .int (Int32.ofInt i_p0_told), .int (Int32.ofInt i_p0_highest), .ref a_p0_tape, .int (Int32.ofInt i_p0_taped), .int (Int32.ofInt i_p0_pos), .int (Int32.ofInt i_p0_from), .int (Int32.ofInt i_p0_sort), .int (Int32.ofInt i_p0_value), .int (Int32.ofInt i_p0_fault), .int (Int32.ofInt i_p0_wrongAt), .ref a_p0_places, .ref a_p0_stirred, .ref a_p0_ways, .ref a_p0_waysThen, .ref a_p0_stays, .ref a_p0_fewest, .ref a_p0_bowls, .ref a_p0_has, .ref a_p0_goesOn, .ref a_p0_isThere, .ref a_p0_isThereThen, .ref a_p0_bestRow, .ref a_p0_lanes, .ref a_p0_sizes, .ref a_p0_cells, .int (Int32.ofInt i_p0_torn)])), (a_p0_st, .inl (G 1, 152, .inl (zA o_v_p0_st))), (a_p0_brings, .inl (G 1, 35, .inl (zA v_p0_brings))), (a_p0_places, .inl (G 1, 7, .inl (zA o_v_p0_places))), (a_p0_stirred, .inl (G 1, 7, .inl (zA o_v_p0_stirred)))] (va_A [(a_p0, .inr (12, [.ref a_p0_st, .ref a_p0_isKept, .int (Int32.ofInt i_p0_seats), .int (Int32.ofInt i_p0_stirs), .ref a_p0_brings, .ref a_p0_need, .ref a_p0_draft, .int (Int32.ofInt i_p0_dSeats), .int (Int32.ofInt i_p0_dStirs), .ref a_p0_dStir, .ref a_p0_dNeed, .int (Int32.ofInt i_p0_told), .int (Int32.ofInt i_p0_highest), .ref a_p0_tape, .int (Int32.ofInt i_p0_taped), .int (Int32.ofInt i_p0_pos), .int (Int32.ofInt i_p0_from), .int (Int32.ofInt i_p0_sort), .int (Int32.ofInt i_p0_value), .int (Int32.ofInt i_p0_fault), .int (Int32.ofInt i_p0_wrongAt), .ref a_p0_places, .ref a_p0_stirred, .ref a_p0_ways, .ref a_p0_waysThen, .ref a_p0_stays, .ref a_p0_fewest, .ref a_p0_bowls, .ref a_p0_has, .ref a_p0_goesOn, .ref a_p0_isThere, .ref a_p0_isThereThen, .ref a_p0_bestRow, .ref a_p0_lanes, .ref a_p0_sizes, .ref a_p0_cells, .int (Int32.ofInt i_p0_torn)])), (a_p0_st, .inl (G 1, 152, .inl (zA v_p0_st))), (a_p0_brings, .inl (G 1, 35, .inl (zA v_p0_brings))), (a_p0_places, .inl (G 1, 7, .inl (zA v_p0_places))), (a_p0_stirred, .inl (G 1, 7, .inl (zA v_p0_stirred)))] sz)) 0 0 (va_A [(a_p0, .inr (12, [.ref a_p0_st, .ref a_p0_isKept, .int (Int32.ofInt i_p0_seats), .int (Int32.ofInt i_p0_stirs), .ref a_p0_brings, .ref a_p0_need, .ref a_p0_draft, .int (Int32.ofInt i_p0_dSeats), .int (Int32.ofInt i_p0_dStirs), .ref a_p0_dStir, .ref a_p0_dNeed, .int (Int32.ofInt i_p0_told), .int (Int32.ofInt i_p0_highest), .ref a_p0_tape, .int (Int32.ofInt i_p0_taped), .int (Int32.ofInt i_p0_pos), .int (Int32.ofInt i_p0_from), .int (Int32.ofInt i_p0_sort), .int (Int32.ofInt i_p0_value), .int (Int32.ofInt i_p0_fault), .int (Int32.ofInt i_p0_wrongAt), .ref a_p0_places, .ref a_p0_stirred, .ref a_p0_ways, .ref a_p0_waysThen, .ref a_p0_stays, .ref a_p0_fewest, .ref a_p0_bowls, .ref a_p0_has, .ref a_p0_goesOn, .ref a_p0_isThere, .ref a_p0_isThereThen, .ref a_p0_bestRow, .ref a_p0_lanes, .ref a_p0_sizes, .ref a_p0_cells, .int (Int32.ofInt i_p0_torn)])), (a_p0_st, .inl (G 1, 152, .inl (zA v_p0_st))), (a_p0_brings, .inl (G 1, 35, .inl (zA v_p0_brings))), (a_p0_places, .inl (G 1, 7, .inl (zA v_p0_places))), (a_p0_stirred, .inl (G 1, 7, .inl (zA v_p0_stirred)))] sz) := by
  refine Met.ofW (cc := cX12_unlikeBy) (maxL := 7) (ret := (some .int)) (by decide) rfl ?_
  intro p e s m args below meth c s₁ B hml hv
  obtain ⟨rfl, hsz, hP, hK, hD0⟩ := hv
  have hx := B.exec
  have hb := B.bytes
  have hr := B.returns
  have hts := atoms_spec (ws := wsX12_unlikeBy) B.pre
  have hown : s.vm.findClass RX12 = some m.cls := findClass_of_methodNamed B.named
  have hlocks := B.notSynchronized
  subst hsz
  have hD := hD0.self (sz := s.heap.size)
  generalize hAe : va_A [(a_p0, .inr (12, [.ref a_p0_st, .ref a_p0_isKept, .int (Int32.ofInt i_p0_seats), .int (Int32.ofInt i_p0_stirs), .ref a_p0_brings, .ref a_p0_need, .ref a_p0_draft, .int (Int32.ofInt i_p0_dSeats), .int (Int32.ofInt i_p0_dStirs), .ref a_p0_dStir, .ref a_p0_dNeed, .int (Int32.ofInt i_p0_told), .int (Int32.ofInt i_p0_highest), .ref a_p0_tape, .int (Int32.ofInt i_p0_taped), .int (Int32.ofInt i_p0_pos), .int (Int32.ofInt i_p0_from), .int (Int32.ofInt i_p0_sort), .int (Int32.ofInt i_p0_value), .int (Int32.ofInt i_p0_fault), .int (Int32.ofInt i_p0_wrongAt), .ref a_p0_places, .ref a_p0_stirred, .ref a_p0_ways, .ref a_p0_waysThen, .ref a_p0_stays, .ref a_p0_fewest, .ref a_p0_bowls, .ref a_p0_has, .ref a_p0_goesOn, .ref a_p0_isThere, .ref a_p0_isThereThen, .ref a_p0_bestRow, .ref a_p0_lanes, .ref a_p0_sizes, .ref a_p0_cells, .int (Int32.ofInt i_p0_torn)])), (a_p0_st, .inl (G 1, 152, .inl (zA v_p0_st))), (a_p0_brings, .inl (G 1, 35, .inl (zA v_p0_brings))), (a_p0_places, .inl (G 1, 7, .inl (zA v_p0_places))), (a_p0_stirred, .inl (G 1, 7, .inl (zA v_p0_stirred)))] s.heap.size = A at hD ⊢
  have hA : ∀ q : Nat, s.heap.size ≤ q → A q := fun q h => by rw [← hAe]; exact Or.inr h
  clear hAe hD0
  have hS : va_S A s.heap s.heap [] := va_S.rf
  have hl := lv_entry ([.ref a_p0, .int (Int32.ofInt x1), .int (Int32.ofInt x2)]) (n := 7) (Nat.le_of_ble_eq_true rfl)
  rw [lg_entry_eq]
  generalize (lg_sl ([.ref a_p0, .int (Int32.ofInt x1), .int (Int32.ofInt x2)]) ++ List.replicate (7 - (lg_sl ([.ref a_p0, .int (Int32.ofInt x1), .int (Int32.ofInt x2)])).length) Slot.unset).toArray = ls at hl ⊢
  have hl : lv_has ls 7 [(0, .ref a_p0), (1, .int (Int32.ofInt x1)), (2, .int (Int32.ofInt x2))] := hl
  refine W_nameQ (fun Q hQ => ?_)
  obtain ⟨H, hH⟩ : ∃ H, H = s.heap := ⟨_, rfl⟩
  replace hS : va_S A s.heap H [] := by rw [hH]; exact hS
  replace hP : va_P D vwCl [(a_p0, .inr (12, [.ref a_p0_st, .ref a_p0_isKept, .int (Int32.ofInt i_p0_seats), .int (Int32.ofInt i_p0_stirs), .ref a_p0_brings, .ref a_p0_need, .ref a_p0_draft, .int (Int32.ofInt i_p0_dSeats), .int (Int32.ofInt i_p0_dStirs), .ref a_p0_dStir, .ref a_p0_dNeed, .int (Int32.ofInt i_p0_told), .int (Int32.ofInt i_p0_highest), .ref a_p0_tape, .int (Int32.ofInt i_p0_taped), .int (Int32.ofInt i_p0_pos), .int (Int32.ofInt i_p0_from), .int (Int32.ofInt i_p0_sort), .int (Int32.ofInt i_p0_value), .int (Int32.ofInt i_p0_fault), .int (Int32.ofInt i_p0_wrongAt), .ref a_p0_places, .ref a_p0_stirred, .ref a_p0_ways, .ref a_p0_waysThen, .ref a_p0_stays, .ref a_p0_fewest, .ref a_p0_bowls, .ref a_p0_has, .ref a_p0_goesOn, .ref a_p0_isThere, .ref a_p0_isThereThen, .ref a_p0_bestRow, .ref a_p0_lanes, .ref a_p0_sizes, .ref a_p0_cells, .int (Int32.ofInt i_p0_torn)])), (a_p0_st, .inl (G 1, 152, .inl (zA v_p0_st))), (a_p0_brings, .inl (G 1, 35, .inl (zA v_p0_brings))), (a_p0_places, .inl (G 1, 7, .inl (zA v_p0_places))), (a_p0_stirred, .inl (G 1, 7, .inl (zA v_p0_stirred)))] H := by rw [hH]; exact hP
  rw [← hH]
  clear hH
  unfold f_X12_unlikeBy at hf
  refine lv_aload_n hx hb dX12_unlikeBy_0 rfl (lv_at hl 0 rfl) ?_
  refine lv_bipush (v := Int32.ofInt (114 : Int)) hx hb dX12_unlikeBy_1 (by decide) ?_
  refine lv_iconst (v := Int32.ofInt (0 : Int)) hx hb dX12_unlikeBy_3 (by decide) ?_
  have hq := bd1_s hf
  clear hf
  obtain ⟨w1, hcall, hf⟩ := hq
  refine gsV (ws' := [(a_p0, .inr (12, [.ref a_p0_st, .ref a_p0_isKept, .int (Int32.ofInt i_p0_seats), .int (Int32.ofInt i_p0_stirs), .ref a_p0_brings, .ref a_p0_need, .ref a_p0_draft, .int (Int32.ofInt i_p0_dSeats), .int (Int32.ofInt i_p0_dStirs), .ref a_p0_dStir, .ref a_p0_dNeed, .int (Int32.ofInt i_p0_told), .int (Int32.ofInt i_p0_highest), .ref a_p0_tape, .int (Int32.ofInt i_p0_taped), .int (Int32.ofInt i_p0_pos), .int (Int32.ofInt i_p0_from), .int (Int32.ofInt i_p0_sort), .int (Int32.ofInt i_p0_value), .int (Int32.ofInt i_p0_fault), .int (Int32.ofInt i_p0_wrongAt), .ref a_p0_places, .ref a_p0_stirred, .ref a_p0_ways, .ref a_p0_waysThen, .ref a_p0_stays, .ref a_p0_fewest, .ref a_p0_bowls, .ref a_p0_has, .ref a_p0_goesOn, .ref a_p0_isThere, .ref a_p0_isThereThen, .ref a_p0_bestRow, .ref a_p0_lanes, .ref a_p0_sizes, .ref a_p0_cells, .int (Int32.ofInt i_p0_torn)])), (a_p0_st, .inl (G 1, 152, .inl (zA w1))), (a_p0_brings, .inl (G 1, 35, .inl (zA v_p0_brings))), (a_p0_places, .inl (G 1, 7, .inl (zA v_p0_places))), (a_p0_stirred, .inl (G 1, 7, .inl (zA v_p0_stirred)))]) (va_runV (As := [.int (Int32.ofInt (114 : Int)), .int (Int32.ofInt (0 : Int))]) (rest := []) ⟨hx, hb, hml, hown, hts⟩ (c_X12_copies (l := l) (D := D) (G := G) (sz := H.size) (a_p0 := a_p0) (a_p0_st := a_p0_st) (a_p0_isKept := a_p0_isKept) (a_p0_brings := a_p0_brings) (a_p0_need := a_p0_need) (a_p0_draft := a_p0_draft) (a_p0_dStir := a_p0_dStir) (a_p0_dNeed := a_p0_dNeed) (a_p0_tape := a_p0_tape) (a_p0_places := a_p0_places) (a_p0_stirred := a_p0_stirred) (a_p0_ways := a_p0_ways) (a_p0_waysThen := a_p0_waysThen) (a_p0_stays := a_p0_stays) (a_p0_fewest := a_p0_fewest) (a_p0_bowls := a_p0_bowls) (a_p0_has := a_p0_has) (a_p0_goesOn := a_p0_goesOn) (a_p0_isThere := a_p0_isThere) (a_p0_isThereThen := a_p0_isThereThen) (a_p0_bestRow := a_p0_bestRow) (a_p0_lanes := a_p0_lanes) (a_p0_sizes := a_p0_sizes) (a_p0_cells := a_p0_cells) (i_p0_seats := i_p0_seats) (i_p0_stirs := i_p0_stirs) (i_p0_dSeats := i_p0_dSeats) (i_p0_dStirs := i_p0_dStirs) (i_p0_told := i_p0_told) (i_p0_highest := i_p0_highest) (i_p0_taped := i_p0_taped) (i_p0_pos := i_p0_pos) (i_p0_from := i_p0_from) (i_p0_sort := i_p0_sort) (i_p0_value := i_p0_value) (i_p0_fault := i_p0_fault) (i_p0_wrongAt := i_p0_wrongAt) (i_p0_torn := i_p0_torn) (v_p0_st := v_p0_st) (x1 := (114 : Int)) (x2 := (0 : Int)) (o_v_p0_st := w1) (hf := hcall)) (cwV 2 hts gX12_unlikeBy_X12_copies rfl rfl rfl hdV_yX12_copies_RX12 ⟨Nat.le_of_ble_eq_true rfl, Nat.le_of_ble_eq_true rfl⟩) (preG_V (ci := 12) (q := (RX12, TX12, 37)) (hP.sub [0, 1] rfl) (hD.sub [0, 1] rfl rfl) hK rfl rfl) rfl rfl hl.1 rfl (lv_room (Nat.le_of_ble_eq_true rfl)) dX12_unlikeBy_4 ⟨Nat.le_of_ble_eq_true rfl, Nat.le_of_ble_eq_true rfl⟩) hP hD hS hA [0, 1] rfl rfl rfl (fun H locs hP hD hS => ?_)
  clear hcall
  refine lv_iconst (v := Int32.ofInt (0 : Int)) hx hb dX12_unlikeBy_7 (by decide) ?_
  refine z_topi (fun z2 ez => ?_)
  replace hf := bnd_s hf ez
  clear ez
  refine lv_istore_n (lv' := [(3, .int (Int32.ofInt z2)), (0, .ref a_p0), (1, .int (Int32.ofInt x1)), (2, .int (Int32.ofInt x2))]) hx hb dX12_unlikeBy_8 rfl hl (by decide) rfl (fun ls hl => ?_)
  have hq := jn_i hf
  clear hf
  obtain ⟨J4, eJ4, hf⟩ := hq
  have hJ4 : ∀ (w3 : (Int → Int)) (ls : Array Slot) (H : Heap) (locs : List Loc), lv_has ls 7 [(0, .ref a_p0), (1, .int (Int32.ofInt x1)), (2, .int (Int32.ofInt x2))] → va_P D vwCl [(a_p0, .inr (12, [.ref a_p0_st, .ref a_p0_isKept, .int (Int32.ofInt i_p0_seats), .int (Int32.ofInt i_p0_stirs), .ref a_p0_brings, .ref a_p0_need, .ref a_p0_draft, .int (Int32.ofInt i_p0_dSeats), .int (Int32.ofInt i_p0_dStirs), .ref a_p0_dStir, .ref a_p0_dNeed, .int (Int32.ofInt i_p0_told), .int (Int32.ofInt i_p0_highest), .ref a_p0_tape, .int (Int32.ofInt i_p0_taped), .int (Int32.ofInt i_p0_pos), .int (Int32.ofInt i_p0_from), .int (Int32.ofInt i_p0_sort), .int (Int32.ofInt i_p0_value), .int (Int32.ofInt i_p0_fault), .int (Int32.ofInt i_p0_wrongAt), .ref a_p0_places, .ref a_p0_stirred, .ref a_p0_ways, .ref a_p0_waysThen, .ref a_p0_stays, .ref a_p0_fewest, .ref a_p0_bowls, .ref a_p0_has, .ref a_p0_goesOn, .ref a_p0_isThere, .ref a_p0_isThereThen, .ref a_p0_bestRow, .ref a_p0_lanes, .ref a_p0_sizes, .ref a_p0_cells, .int (Int32.ofInt i_p0_torn)])), (a_p0_st, .inl (G 1, 152, .inl (zA w3))), (a_p0_brings, .inl (G 1, 35, .inl (zA v_p0_brings))), (a_p0_places, .inl (G 1, 7, .inl (zA v_p0_places))), (a_p0_stirred, .inl (G 1, 7, .inl (zA v_p0_stirred)))] H → va_D A [(a_p0, .inr (12, [.ref a_p0_st, .ref a_p0_isKept, .int (Int32.ofInt i_p0_seats), .int (Int32.ofInt i_p0_stirs), .ref a_p0_brings, .ref a_p0_need, .ref a_p0_draft, .int (Int32.ofInt i_p0_dSeats), .int (Int32.ofInt i_p0_dStirs), .ref a_p0_dStir, .ref a_p0_dNeed, .int (Int32.ofInt i_p0_told), .int (Int32.ofInt i_p0_highest), .ref a_p0_tape, .int (Int32.ofInt i_p0_taped), .int (Int32.ofInt i_p0_pos), .int (Int32.ofInt i_p0_from), .int (Int32.ofInt i_p0_sort), .int (Int32.ofInt i_p0_value), .int (Int32.ofInt i_p0_fault), .int (Int32.ofInt i_p0_wrongAt), .ref a_p0_places, .ref a_p0_stirred, .ref a_p0_ways, .ref a_p0_waysThen, .ref a_p0_stays, .ref a_p0_fewest, .ref a_p0_bowls, .ref a_p0_has, .ref a_p0_goesOn, .ref a_p0_isThere, .ref a_p0_isThereThen, .ref a_p0_bestRow, .ref a_p0_lanes, .ref a_p0_sizes, .ref a_p0_cells, .int (Int32.ofInt i_p0_torn)])), (a_p0_st, .inl (G 1, 152, .inl (zA w3))), (a_p0_brings, .inl (G 1, 35, .inl (zA v_p0_brings))), (a_p0_places, .inl (G 1, 7, .inl (zA v_p0_places))), (a_p0_stirred, .inl (G 1, 7, .inl (zA v_p0_stirred)))] → va_S A s.heap H locs → J4 w3 = some (r, o_v_p0_st, o_v_p0_places, o_v_p0_stirred) → W p l e rm_X12_unlikeBy s m ([.ref a_p0, .int (Int32.ofInt x1), .int (Int32.ofInt x2)] : List Value).toArray below meth c H locs 0 0 Q (F0 m 33 ls []) := by
    clear hf hl hP hD hS
    intro w3 ls H locs hl hP hD hS hf
    replace hf := jn1_s eJ4 hf
    refine lv_iconst (v := Int32.ofInt (1 : Int)) hx hb dX12_unlikeBy_33 (by decide) ?_
    refine z_topi (fun z5 ez => ?_)
    replace hf := bnd_s hf ez
    clear ez
    refine lv_istore_n (lv' := [(3, .int (Int32.ofInt z5)), (0, .ref a_p0), (1, .int (Int32.ofInt x1)), (2, .int (Int32.ofInt x2))]) hx hb dX12_unlikeBy_34 rfl hl (by decide) rfl (fun ls hl => ?_)
    refine lv_iconst (v := Int32.ofInt (1 : Int)) hx hb dX12_unlikeBy_35 (by decide) ?_
    refine z_topi (fun z6 ez => ?_)
    replace hf := bnd_s hf ez
    clear ez
    refine lv_istore (lv' := [(4, .int (Int32.ofInt z6)), (3, .int (Int32.ofInt z5)), (0, .ref a_p0), (1, .int (Int32.ofInt x1)), (2, .int (Int32.ofInt x2))]) hx hb dX12_unlikeBy_36 hl (by decide) rfl (fun ls hl => ?_)
    have hq := jn_i hf
    clear hf
    obtain ⟨J8, eJ8, hf⟩ := hq
    have hJ8 : ∀ (z7 : Int) (ls : Array Slot) (H : Heap) (locs : List Loc), lv_has ls 7 [(3, .int (Int32.ofInt z7)), (0, .ref a_p0), (1, .int (Int32.ofInt x1)), (2, .int (Int32.ofInt x2))] → va_P D vwCl [(a_p0, .inr (12, [.ref a_p0_st, .ref a_p0_isKept, .int (Int32.ofInt i_p0_seats), .int (Int32.ofInt i_p0_stirs), .ref a_p0_brings, .ref a_p0_need, .ref a_p0_draft, .int (Int32.ofInt i_p0_dSeats), .int (Int32.ofInt i_p0_dStirs), .ref a_p0_dStir, .ref a_p0_dNeed, .int (Int32.ofInt i_p0_told), .int (Int32.ofInt i_p0_highest), .ref a_p0_tape, .int (Int32.ofInt i_p0_taped), .int (Int32.ofInt i_p0_pos), .int (Int32.ofInt i_p0_from), .int (Int32.ofInt i_p0_sort), .int (Int32.ofInt i_p0_value), .int (Int32.ofInt i_p0_fault), .int (Int32.ofInt i_p0_wrongAt), .ref a_p0_places, .ref a_p0_stirred, .ref a_p0_ways, .ref a_p0_waysThen, .ref a_p0_stays, .ref a_p0_fewest, .ref a_p0_bowls, .ref a_p0_has, .ref a_p0_goesOn, .ref a_p0_isThere, .ref a_p0_isThereThen, .ref a_p0_bestRow, .ref a_p0_lanes, .ref a_p0_sizes, .ref a_p0_cells, .int (Int32.ofInt i_p0_torn)])), (a_p0_st, .inl (G 1, 152, .inl (zA w3))), (a_p0_brings, .inl (G 1, 35, .inl (zA v_p0_brings))), (a_p0_places, .inl (G 1, 7, .inl (zA v_p0_places))), (a_p0_stirred, .inl (G 1, 7, .inl (zA v_p0_stirred)))] H → va_D A [(a_p0, .inr (12, [.ref a_p0_st, .ref a_p0_isKept, .int (Int32.ofInt i_p0_seats), .int (Int32.ofInt i_p0_stirs), .ref a_p0_brings, .ref a_p0_need, .ref a_p0_draft, .int (Int32.ofInt i_p0_dSeats), .int (Int32.ofInt i_p0_dStirs), .ref a_p0_dStir, .ref a_p0_dNeed, .int (Int32.ofInt i_p0_told), .int (Int32.ofInt i_p0_highest), .ref a_p0_tape, .int (Int32.ofInt i_p0_taped), .int (Int32.ofInt i_p0_pos), .int (Int32.ofInt i_p0_from), .int (Int32.ofInt i_p0_sort), .int (Int32.ofInt i_p0_value), .int (Int32.ofInt i_p0_fault), .int (Int32.ofInt i_p0_wrongAt), .ref a_p0_places, .ref a_p0_stirred, .ref a_p0_ways, .ref a_p0_waysThen, .ref a_p0_stays, .ref a_p0_fewest, .ref a_p0_bowls, .ref a_p0_has, .ref a_p0_goesOn, .ref a_p0_isThere, .ref a_p0_isThereThen, .ref a_p0_bestRow, .ref a_p0_lanes, .ref a_p0_sizes, .ref a_p0_cells, .int (Int32.ofInt i_p0_torn)])), (a_p0_st, .inl (G 1, 152, .inl (zA w3))), (a_p0_brings, .inl (G 1, 35, .inl (zA v_p0_brings))), (a_p0_places, .inl (G 1, 7, .inl (zA v_p0_places))), (a_p0_stirred, .inl (G 1, 7, .inl (zA v_p0_stirred)))] → va_S A s.heap H locs → J8 z7 = some (r, o_v_p0_st, o_v_p0_places, o_v_p0_stirred) → W p l e rm_X12_unlikeBy s m ([.ref a_p0, .int (Int32.ofInt x1), .int (Int32.ofInt x2)] : List Value).toArray below meth c H locs 0 0 Q (F0 m 57 ls []) := by
      clear hf hl hP hD hS
      intro z7 ls H locs hl hP hD hS hf
      replace hf := jn1_s eJ8 hf
      refine lv_iconst (v := Int32.ofInt (0 : Int)) hx hb dX12_unlikeBy_57 (by decide) ?_
      refine z_topi (fun z9 ez => ?_)
      replace hf := bnd_s hf ez
      clear ez
      refine lv_istore (lv' := [(4, .int (Int32.ofInt z9)), (3, .int (Int32.ofInt z7)), (0, .ref a_p0), (1, .int (Int32.ofInt x1)), (2, .int (Int32.ofInt x2))]) hx hb dX12_unlikeBy_58 hl (by decide) rfl (fun ls hl => ?_)
      have hq := jn_i hf
      clear hf
      obtain ⟨J13, eJ13, hf⟩ := hq
      have hJ13 : ∀ (w10 : (Int → Int)) (w11 : (Int → Int)) (w12 : (Int → Int)) (ls : Array Slot) (H : Heap) (locs : List Loc), lv_has ls 7 [(0, .ref a_p0)] → va_P D vwCl [(a_p0, .inr (12, [.ref a_p0_st, .ref a_p0_isKept, .int (Int32.ofInt i_p0_seats), .int (Int32.ofInt i_p0_stirs), .ref a_p0_brings, .ref a_p0_need, .ref a_p0_draft, .int (Int32.ofInt i_p0_dSeats), .int (Int32.ofInt i_p0_dStirs), .ref a_p0_dStir, .ref a_p0_dNeed, .int (Int32.ofInt i_p0_told), .int (Int32.ofInt i_p0_highest), .ref a_p0_tape, .int (Int32.ofInt i_p0_taped), .int (Int32.ofInt i_p0_pos), .int (Int32.ofInt i_p0_from), .int (Int32.ofInt i_p0_sort), .int (Int32.ofInt i_p0_value), .int (Int32.ofInt i_p0_fault), .int (Int32.ofInt i_p0_wrongAt), .ref a_p0_places, .ref a_p0_stirred, .ref a_p0_ways, .ref a_p0_waysThen, .ref a_p0_stays, .ref a_p0_fewest, .ref a_p0_bowls, .ref a_p0_has, .ref a_p0_goesOn, .ref a_p0_isThere, .ref a_p0_isThereThen, .ref a_p0_bestRow, .ref a_p0_lanes, .ref a_p0_sizes, .ref a_p0_cells, .int (Int32.ofInt i_p0_torn)])), (a_p0_st, .inl (G 1, 152, .inl (zA w10))), (a_p0_brings, .inl (G 1, 35, .inl (zA v_p0_brings))), (a_p0_places, .inl (G 1, 7, .inl (zA w11))), (a_p0_stirred, .inl (G 1, 7, .inl (zA w12)))] H → va_D A [(a_p0, .inr (12, [.ref a_p0_st, .ref a_p0_isKept, .int (Int32.ofInt i_p0_seats), .int (Int32.ofInt i_p0_stirs), .ref a_p0_brings, .ref a_p0_need, .ref a_p0_draft, .int (Int32.ofInt i_p0_dSeats), .int (Int32.ofInt i_p0_dStirs), .ref a_p0_dStir, .ref a_p0_dNeed, .int (Int32.ofInt i_p0_told), .int (Int32.ofInt i_p0_highest), .ref a_p0_tape, .int (Int32.ofInt i_p0_taped), .int (Int32.ofInt i_p0_pos), .int (Int32.ofInt i_p0_from), .int (Int32.ofInt i_p0_sort), .int (Int32.ofInt i_p0_value), .int (Int32.ofInt i_p0_fault), .int (Int32.ofInt i_p0_wrongAt), .ref a_p0_places, .ref a_p0_stirred, .ref a_p0_ways, .ref a_p0_waysThen, .ref a_p0_stays, .ref a_p0_fewest, .ref a_p0_bowls, .ref a_p0_has, .ref a_p0_goesOn, .ref a_p0_isThere, .ref a_p0_isThereThen, .ref a_p0_bestRow, .ref a_p0_lanes, .ref a_p0_sizes, .ref a_p0_cells, .int (Int32.ofInt i_p0_torn)])), (a_p0_st, .inl (G 1, 152, .inl (zA w10))), (a_p0_brings, .inl (G 1, 35, .inl (zA v_p0_brings))), (a_p0_places, .inl (G 1, 7, .inl (zA w11))), (a_p0_stirred, .inl (G 1, 7, .inl (zA w12)))] → va_S A s.heap H locs → J13 w10 w11 w12 = some (r, o_v_p0_st, o_v_p0_places, o_v_p0_stirred) → W p l e rm_X12_unlikeBy s m ([.ref a_p0, .int (Int32.ofInt x1), .int (Int32.ofInt x2)] : List Value).toArray below meth c H locs 0 0 Q (F0 m 100 ls []) := by
        clear hf hl hP hD hS
        intro w10 w11 w12 ls H locs hl hP hD hS hf
        replace hf := jn3_s eJ13 hf
        refine lv_aload_n hx hb dX12_unlikeBy_100 rfl (lv_at hl 0 rfl) ?_
        refine va_get (D := D) (ci := 12) (v := .ref a_p0_st) (C := RX12) (T := TX12) (N := 37) hx hb hts inX12_unlikeBy_X12 hown hK hP 0 rfl rfl 0 (by decide) (hts _ mwX12_unlikeBy_2) (fun _ h9 => h9) rfl dX12_unlikeBy_101 ?_
        refine lv_bipush (v := Int32.ofInt (23 : Int)) hx hb dX12_unlikeBy_104 (by decide) ?_
        have hc := ck_c hf
        replace hf := ck_r hf
        refine va_iald hx hb hK hP 1 1 rfl rfl (z_ix_in hc) dX12_unlikeBy_106 (z_ci (z_ald w10 hc) ?_)
        clear hc
        refine z_topi (fun z14 ez => ?_)
        replace hf := bnd_s hf ez
        clear ez
        refine lv_istore (lv' := [(4, .int (Int32.ofInt z14)), (0, .ref a_p0)]) hx hb dX12_unlikeBy_107 hl (by decide) rfl (fun ls hl => ?_)
        refine lv_aload_n hx hb dX12_unlikeBy_109 rfl (lv_at hl 1 rfl) ?_
        refine va_get (D := D) (ci := 12) (v := .ref a_p0_st) (C := RX12) (T := TX12) (N := 37) hx hb hts inX12_unlikeBy_X12 hown hK hP 0 rfl rfl 0 (by decide) (hts _ mwX12_unlikeBy_2) (fun _ h9 => h9) rfl dX12_unlikeBy_110 ?_
        refine lv_bipush (v := Int32.ofInt (23 : Int)) hx hb dX12_unlikeBy_113 (by decide) ?_
        have hc := ck_c hf
        replace hf := ck_r hf
        refine va_iald hx hb hK hP 1 1 rfl rfl (z_ix_in hc) dX12_unlikeBy_115 (z_ci (z_ald w10 hc) ?_)
        clear hc
        refine z_topi (fun z15 ez => ?_)
        replace hf := bnd_s hf ez
        clear ez
        refine lv_istore (lv' := [(5, .int (Int32.ofInt z15)), (4, .int (Int32.ofInt z14)), (0, .ref a_p0)]) hx hb dX12_unlikeBy_116 hl (by decide) rfl (fun ls hl => ?_)
        refine lv_iconst (v := Int32.ofInt (1 : Int)) hx hb dX12_unlikeBy_118 (by decide) ?_
        refine z_topi (fun z16 ez => ?_)
        replace hf := bnd_s hf ez
        clear ez
        refine lv_istore (lv' := [(6, .int (Int32.ofInt z16)), (5, .int (Int32.ofInt z15)), (4, .int (Int32.ofInt z14)), (0, .ref a_p0)]) hx hb dX12_unlikeBy_119 hl (by decide) rfl (fun ls hl => ?_)
        have hq := jn_i hf
        clear hf
        obtain ⟨J19, eJ19, hf⟩ := hq
        have hJ19 : ∀ (z17 : Int) (z18 : Int) (ls : Array Slot) (H : Heap) (locs : List Loc), lv_has ls 7 [(5, .int (Int32.ofInt z18)), (4, .int (Int32.ofInt z17)), (0, .ref a_p0)] → va_P D vwCl [(a_p0, .inr (12, [.ref a_p0_st, .ref a_p0_isKept, .int (Int32.ofInt i_p0_seats), .int (Int32.ofInt i_p0_stirs), .ref a_p0_brings, .ref a_p0_need, .ref a_p0_draft, .int (Int32.ofInt i_p0_dSeats), .int (Int32.ofInt i_p0_dStirs), .ref a_p0_dStir, .ref a_p0_dNeed, .int (Int32.ofInt i_p0_told), .int (Int32.ofInt i_p0_highest), .ref a_p0_tape, .int (Int32.ofInt i_p0_taped), .int (Int32.ofInt i_p0_pos), .int (Int32.ofInt i_p0_from), .int (Int32.ofInt i_p0_sort), .int (Int32.ofInt i_p0_value), .int (Int32.ofInt i_p0_fault), .int (Int32.ofInt i_p0_wrongAt), .ref a_p0_places, .ref a_p0_stirred, .ref a_p0_ways, .ref a_p0_waysThen, .ref a_p0_stays, .ref a_p0_fewest, .ref a_p0_bowls, .ref a_p0_has, .ref a_p0_goesOn, .ref a_p0_isThere, .ref a_p0_isThereThen, .ref a_p0_bestRow, .ref a_p0_lanes, .ref a_p0_sizes, .ref a_p0_cells, .int (Int32.ofInt i_p0_torn)])), (a_p0_st, .inl (G 1, 152, .inl (zA w10))), (a_p0_brings, .inl (G 1, 35, .inl (zA v_p0_brings))), (a_p0_places, .inl (G 1, 7, .inl (zA w11))), (a_p0_stirred, .inl (G 1, 7, .inl (zA w12)))] H → va_D A [(a_p0, .inr (12, [.ref a_p0_st, .ref a_p0_isKept, .int (Int32.ofInt i_p0_seats), .int (Int32.ofInt i_p0_stirs), .ref a_p0_brings, .ref a_p0_need, .ref a_p0_draft, .int (Int32.ofInt i_p0_dSeats), .int (Int32.ofInt i_p0_dStirs), .ref a_p0_dStir, .ref a_p0_dNeed, .int (Int32.ofInt i_p0_told), .int (Int32.ofInt i_p0_highest), .ref a_p0_tape, .int (Int32.ofInt i_p0_taped), .int (Int32.ofInt i_p0_pos), .int (Int32.ofInt i_p0_from), .int (Int32.ofInt i_p0_sort), .int (Int32.ofInt i_p0_value), .int (Int32.ofInt i_p0_fault), .int (Int32.ofInt i_p0_wrongAt), .ref a_p0_places, .ref a_p0_stirred, .ref a_p0_ways, .ref a_p0_waysThen, .ref a_p0_stays, .ref a_p0_fewest, .ref a_p0_bowls, .ref a_p0_has, .ref a_p0_goesOn, .ref a_p0_isThere, .ref a_p0_isThereThen, .ref a_p0_bestRow, .ref a_p0_lanes, .ref a_p0_sizes, .ref a_p0_cells, .int (Int32.ofInt i_p0_torn)])), (a_p0_st, .inl (G 1, 152, .inl (zA w10))), (a_p0_brings, .inl (G 1, 35, .inl (zA v_p0_brings))), (a_p0_places, .inl (G 1, 7, .inl (zA w11))), (a_p0_stirred, .inl (G 1, 7, .inl (zA w12)))] → va_S A s.heap H locs → J19 z17 z18 = some (r, o_v_p0_st, o_v_p0_places, o_v_p0_stirred) → W p l e rm_X12_unlikeBy s m ([.ref a_p0, .int (Int32.ofInt x1), .int (Int32.ofInt x2)] : List Value).toArray below meth c H locs 0 0 Q (F0 m 200 ls []) := by
          clear hf hl hP hD hS
          intro z17 z18 ls H locs hl hP hD hS hf
          replace hf := jn2_s eJ19 hf
          refine lv_aload_n hx hb dX12_unlikeBy_200 rfl (lv_at hl 2 rfl) ?_
          refine lv_iconst (v := Int32.ofInt (0 : Int)) hx hb dX12_unlikeBy_201 (by decide) ?_
          refine lv_bipush (v := Int32.ofInt (114 : Int)) hx hb dX12_unlikeBy_202 (by decide) ?_
          have hq := bd1_s hf
          clear hf
          obtain ⟨w20, hcall, hf⟩ := hq
          refine gsV (ws' := [(a_p0, .inr (12, [.ref a_p0_st, .ref a_p0_isKept, .int (Int32.ofInt i_p0_seats), .int (Int32.ofInt i_p0_stirs), .ref a_p0_brings, .ref a_p0_need, .ref a_p0_draft, .int (Int32.ofInt i_p0_dSeats), .int (Int32.ofInt i_p0_dStirs), .ref a_p0_dStir, .ref a_p0_dNeed, .int (Int32.ofInt i_p0_told), .int (Int32.ofInt i_p0_highest), .ref a_p0_tape, .int (Int32.ofInt i_p0_taped), .int (Int32.ofInt i_p0_pos), .int (Int32.ofInt i_p0_from), .int (Int32.ofInt i_p0_sort), .int (Int32.ofInt i_p0_value), .int (Int32.ofInt i_p0_fault), .int (Int32.ofInt i_p0_wrongAt), .ref a_p0_places, .ref a_p0_stirred, .ref a_p0_ways, .ref a_p0_waysThen, .ref a_p0_stays, .ref a_p0_fewest, .ref a_p0_bowls, .ref a_p0_has, .ref a_p0_goesOn, .ref a_p0_isThere, .ref a_p0_isThereThen, .ref a_p0_bestRow, .ref a_p0_lanes, .ref a_p0_sizes, .ref a_p0_cells, .int (Int32.ofInt i_p0_torn)])), (a_p0_st, .inl (G 1, 152, .inl (zA w20))), (a_p0_brings, .inl (G 1, 35, .inl (zA v_p0_brings))), (a_p0_places, .inl (G 1, 7, .inl (zA w11))), (a_p0_stirred, .inl (G 1, 7, .inl (zA w12)))]) (va_runV (As := [.int (Int32.ofInt (0 : Int)), .int (Int32.ofInt (114 : Int))]) (rest := []) ⟨hx, hb, hml, hown, hts⟩ (c_X12_copies (l := l) (D := D) (G := G) (sz := H.size) (a_p0 := a_p0) (a_p0_st := a_p0_st) (a_p0_isKept := a_p0_isKept) (a_p0_brings := a_p0_brings) (a_p0_need := a_p0_need) (a_p0_draft := a_p0_draft) (a_p0_dStir := a_p0_dStir) (a_p0_dNeed := a_p0_dNeed) (a_p0_tape := a_p0_tape) (a_p0_places := a_p0_places) (a_p0_stirred := a_p0_stirred) (a_p0_ways := a_p0_ways) (a_p0_waysThen := a_p0_waysThen) (a_p0_stays := a_p0_stays) (a_p0_fewest := a_p0_fewest) (a_p0_bowls := a_p0_bowls) (a_p0_has := a_p0_has) (a_p0_goesOn := a_p0_goesOn) (a_p0_isThere := a_p0_isThere) (a_p0_isThereThen := a_p0_isThereThen) (a_p0_bestRow := a_p0_bestRow) (a_p0_lanes := a_p0_lanes) (a_p0_sizes := a_p0_sizes) (a_p0_cells := a_p0_cells) (i_p0_seats := i_p0_seats) (i_p0_stirs := i_p0_stirs) (i_p0_dSeats := i_p0_dSeats) (i_p0_dStirs := i_p0_dStirs) (i_p0_told := i_p0_told) (i_p0_highest := i_p0_highest) (i_p0_taped := i_p0_taped) (i_p0_pos := i_p0_pos) (i_p0_from := i_p0_from) (i_p0_sort := i_p0_sort) (i_p0_value := i_p0_value) (i_p0_fault := i_p0_fault) (i_p0_wrongAt := i_p0_wrongAt) (i_p0_torn := i_p0_torn) (v_p0_st := w10) (x1 := (0 : Int)) (x2 := (114 : Int)) (o_v_p0_st := w20) (hf := hcall)) (cwV 2 hts gX12_unlikeBy_X12_copies rfl rfl rfl hdV_yX12_copies_RX12 ⟨Nat.le_of_ble_eq_true rfl, Nat.le_of_ble_eq_true rfl⟩) (preG_V (ci := 12) (q := (RX12, TX12, 37)) (hP.sub [0, 1] rfl) (hD.sub [0, 1] rfl rfl) hK rfl rfl) rfl rfl hl.1 rfl (lv_room (Nat.le_of_ble_eq_true rfl)) dX12_unlikeBy_204 ⟨Nat.le_of_ble_eq_true rfl, Nat.le_of_ble_eq_true rfl⟩) hP hD hS hA [0, 1] rfl rfl rfl (fun H locs hP hD hS => ?_)
          clear hcall
          refine lv_iload hx hb dX12_unlikeBy_207 (lv_at hl 1 rfl) ?_
          refine lv_iload hx hb dX12_unlikeBy_209 (lv_at hl 0 rfl) ?_
          refine lv_isub hx hb dX12_unlikeBy_211 (z_ci (Int32.ofInt_sub z17 z18) ?_)
          obtain ⟨rfl, rfl, rfl, rfl⟩ := ou4 hf
          rw [hQ]
          exact W.iret hx hb hr (fun t ht hW => ⟨⟨_, (), rfl, rfl, by rw [ht]; exact hP, va_K.moved hW.alike hK, hD⟩, hS.F ht⟩) hS.2.2 dX12_unlikeBy_212
        have hq := lq3_i hf
        clear hf
        obtain ⟨B24, eB24, NB24, hf⟩ := hq
        have hB24 : ∀ (n : Nat) (z21 : Int) (z22 : Int) (z23 : Int) (ls : Array Slot) (H : Heap) (locs : List Loc), lv_has ls 7 [(6, .int (Int32.ofInt z21)), (5, .int (Int32.ofInt z22)), (4, .int (Int32.ofInt z23)), (0, .ref a_p0)] → va_P D vwCl [(a_p0, .inr (12, [.ref a_p0_st, .ref a_p0_isKept, .int (Int32.ofInt i_p0_seats), .int (Int32.ofInt i_p0_stirs), .ref a_p0_brings, .ref a_p0_need, .ref a_p0_draft, .int (Int32.ofInt i_p0_dSeats), .int (Int32.ofInt i_p0_dStirs), .ref a_p0_dStir, .ref a_p0_dNeed, .int (Int32.ofInt i_p0_told), .int (Int32.ofInt i_p0_highest), .ref a_p0_tape, .int (Int32.ofInt i_p0_taped), .int (Int32.ofInt i_p0_pos), .int (Int32.ofInt i_p0_from), .int (Int32.ofInt i_p0_sort), .int (Int32.ofInt i_p0_value), .int (Int32.ofInt i_p0_fault), .int (Int32.ofInt i_p0_wrongAt), .ref a_p0_places, .ref a_p0_stirred, .ref a_p0_ways, .ref a_p0_waysThen, .ref a_p0_stays, .ref a_p0_fewest, .ref a_p0_bowls, .ref a_p0_has, .ref a_p0_goesOn, .ref a_p0_isThere, .ref a_p0_isThereThen, .ref a_p0_bestRow, .ref a_p0_lanes, .ref a_p0_sizes, .ref a_p0_cells, .int (Int32.ofInt i_p0_torn)])), (a_p0_st, .inl (G 1, 152, .inl (zA w10))), (a_p0_brings, .inl (G 1, 35, .inl (zA v_p0_brings))), (a_p0_places, .inl (G 1, 7, .inl (zA w11))), (a_p0_stirred, .inl (G 1, 7, .inl (zA w12)))] H → va_D A [(a_p0, .inr (12, [.ref a_p0_st, .ref a_p0_isKept, .int (Int32.ofInt i_p0_seats), .int (Int32.ofInt i_p0_stirs), .ref a_p0_brings, .ref a_p0_need, .ref a_p0_draft, .int (Int32.ofInt i_p0_dSeats), .int (Int32.ofInt i_p0_dStirs), .ref a_p0_dStir, .ref a_p0_dNeed, .int (Int32.ofInt i_p0_told), .int (Int32.ofInt i_p0_highest), .ref a_p0_tape, .int (Int32.ofInt i_p0_taped), .int (Int32.ofInt i_p0_pos), .int (Int32.ofInt i_p0_from), .int (Int32.ofInt i_p0_sort), .int (Int32.ofInt i_p0_value), .int (Int32.ofInt i_p0_fault), .int (Int32.ofInt i_p0_wrongAt), .ref a_p0_places, .ref a_p0_stirred, .ref a_p0_ways, .ref a_p0_waysThen, .ref a_p0_stays, .ref a_p0_fewest, .ref a_p0_bowls, .ref a_p0_has, .ref a_p0_goesOn, .ref a_p0_isThere, .ref a_p0_isThereThen, .ref a_p0_bestRow, .ref a_p0_lanes, .ref a_p0_sizes, .ref a_p0_cells, .int (Int32.ofInt i_p0_torn)])), (a_p0_st, .inl (G 1, 152, .inl (zA w10))), (a_p0_brings, .inl (G 1, 35, .inl (zA v_p0_brings))), (a_p0_places, .inl (G 1, 7, .inl (zA w11))), (a_p0_stirred, .inl (G 1, 7, .inl (zA w12)))] → va_S A s.heap H locs → lq3 B24 n z21 z22 z23 = some (r, o_v_p0_st, o_v_p0_places, o_v_p0_stirred) → W p l e rm_X12_unlikeBy s m ([.ref a_p0, .int (Int32.ofInt x1), .int (Int32.ofInt x2)] : List Value).toArray below meth c H locs 0 0 Q (F0 m 121 ls []) := by
          clear hf hl hP hD hS
          intro n
          induction n with
          | zero =>
            intro z21 z22 z23 ls H locs hl hP hD hS hf
            exact (lq3_0 hf).elim
          | succ n ih121 =>
            intro z21 z22 z23 ls H locs hl hP hD hS hf
            replace hf := lq3_s eB24 hf
            unfold B_X12_unlikeBy_121 at hf
            refine lv_iload hx hb dX12_unlikeBy_121 (lv_at hl 0 rfl) ?_
            refine lv_aload_n hx hb dX12_unlikeBy_123 rfl (lv_at hl 3 rfl) ?_
            refine va_get (D := D) (ci := 12) (v := .int (Int32.ofInt i_p0_seats)) (C := RX12) (T := TX12) (N := 37) hx hb hts inX12_unlikeBy_X12 hown hK hP 0 rfl rfl 2 (by decide) (hts _ mwX12_unlikeBy_3) (fun _ h9 => h9) rfl dX12_unlikeBy_124 ?_
            have hr24 := ck_c hf
            replace hf := ck_r hf
            have hr25 := ck_c hf
            replace hf := ck_r hf
            refine lv_icmp_ge (tgt := 200) hx hb dX12_unlikeBy_127 (by decide) (fun cc => ?_) (fun cc => ?_)
            ·
              replace hf := ite_t ((z_le hr25 hr24).mp cc) hf
              clear cc
              exact hJ19 _ _ _ _ _ (lv_sub hl [1, 2, 3] rfl) hP hD hS hf
            ·
              replace hf := ite_f (fun h9 => cc ((z_le hr25 hr24).mpr h9)) hf
              clear cc
              refine lv_aload_n hx hb dX12_unlikeBy_130 rfl (lv_at hl 3 rfl) ?_
              refine va_get (D := D) (ci := 12) (v := .ref a_p0_st) (C := RX12) (T := TX12) (N := 37) hx hb hts inX12_unlikeBy_X12 hown hK hP 0 rfl rfl 0 (by decide) (hts _ mwX12_unlikeBy_2) (fun _ h9 => h9) rfl dX12_unlikeBy_131 ?_
              refine lv_bipush (v := Int32.ofInt (23 : Int)) hx hb dX12_unlikeBy_134 (by decide) ?_
              refine lv_iload hx hb dX12_unlikeBy_136 (lv_at hl 0 rfl) ?_
              refine lv_iadd hx hb dX12_unlikeBy_138 (z_ci (Int32.ofInt_add (23 : Int) z21) ?_)
              have hc := ck_c hf
              replace hf := ck_r hf
              refine va_iald hx hb hK hP 1 1 rfl rfl (z_ix_in hc) dX12_unlikeBy_139 (z_ci (z_ald w10 hc) ?_)
              clear hc
              refine lv_iload hx hb dX12_unlikeBy_140 (lv_at hl 2 rfl) ?_
              have hr26 := ck_c hf
              replace hf := ck_r hf
              have hr27 := ck_c hf
              replace hf := ck_r hf
              have hq := jn_i hf
              clear hf
              obtain ⟨J30, eJ30, hf⟩ := hq
              have hJ30 : ∀ (z29 : Int) (ls : Array Slot) (H : Heap) (locs : List Loc), lv_has ls 7 [(6, .int (Int32.ofInt z21)), (5, .int (Int32.ofInt z22)), (0, .ref a_p0)] → va_P D vwCl [(a_p0, .inr (12, [.ref a_p0_st, .ref a_p0_isKept, .int (Int32.ofInt i_p0_seats), .int (Int32.ofInt i_p0_stirs), .ref a_p0_brings, .ref a_p0_need, .ref a_p0_draft, .int (Int32.ofInt i_p0_dSeats), .int (Int32.ofInt i_p0_dStirs), .ref a_p0_dStir, .ref a_p0_dNeed, .int (Int32.ofInt i_p0_told), .int (Int32.ofInt i_p0_highest), .ref a_p0_tape, .int (Int32.ofInt i_p0_taped), .int (Int32.ofInt i_p0_pos), .int (Int32.ofInt i_p0_from), .int (Int32.ofInt i_p0_sort), .int (Int32.ofInt i_p0_value), .int (Int32.ofInt i_p0_fault), .int (Int32.ofInt i_p0_wrongAt), .ref a_p0_places, .ref a_p0_stirred, .ref a_p0_ways, .ref a_p0_waysThen, .ref a_p0_stays, .ref a_p0_fewest, .ref a_p0_bowls, .ref a_p0_has, .ref a_p0_goesOn, .ref a_p0_isThere, .ref a_p0_isThereThen, .ref a_p0_bestRow, .ref a_p0_lanes, .ref a_p0_sizes, .ref a_p0_cells, .int (Int32.ofInt i_p0_torn)])), (a_p0_st, .inl (G 1, 152, .inl (zA w10))), (a_p0_brings, .inl (G 1, 35, .inl (zA v_p0_brings))), (a_p0_places, .inl (G 1, 7, .inl (zA w11))), (a_p0_stirred, .inl (G 1, 7, .inl (zA w12)))] H → va_D A [(a_p0, .inr (12, [.ref a_p0_st, .ref a_p0_isKept, .int (Int32.ofInt i_p0_seats), .int (Int32.ofInt i_p0_stirs), .ref a_p0_brings, .ref a_p0_need, .ref a_p0_draft, .int (Int32.ofInt i_p0_dSeats), .int (Int32.ofInt i_p0_dStirs), .ref a_p0_dStir, .ref a_p0_dNeed, .int (Int32.ofInt i_p0_told), .int (Int32.ofInt i_p0_highest), .ref a_p0_tape, .int (Int32.ofInt i_p0_taped), .int (Int32.ofInt i_p0_pos), .int (Int32.ofInt i_p0_from), .int (Int32.ofInt i_p0_sort), .int (Int32.ofInt i_p0_value), .int (Int32.ofInt i_p0_fault), .int (Int32.ofInt i_p0_wrongAt), .ref a_p0_places, .ref a_p0_stirred, .ref a_p0_ways, .ref a_p0_waysThen, .ref a_p0_stays, .ref a_p0_fewest, .ref a_p0_bowls, .ref a_p0_has, .ref a_p0_goesOn, .ref a_p0_isThere, .ref a_p0_isThereThen, .ref a_p0_bestRow, .ref a_p0_lanes, .ref a_p0_sizes, .ref a_p0_cells, .int (Int32.ofInt i_p0_torn)])), (a_p0_st, .inl (G 1, 152, .inl (zA w10))), (a_p0_brings, .inl (G 1, 35, .inl (zA v_p0_brings))), (a_p0_places, .inl (G 1, 7, .inl (zA w11))), (a_p0_stirred, .inl (G 1, 7, .inl (zA w12)))] → va_S A s.heap H locs → J30 z29 = some (r, o_v_p0_st, o_v_p0_places, o_v_p0_stirred) → W p l e rm_X12_unlikeBy s m ([.ref a_p0, .int (Int32.ofInt x1), .int (Int32.ofInt x2)] : List Value).toArray below meth c H locs 0 0 Q (F0 m 160 ls [.int (Int32.ofInt z29)]) := by
                clear hf hl hP hD hS
                intro z29 ls H locs hl hP hD hS hf
                replace hf := jn1_s eJ30 hf
                refine z_topi (fun z31 ez => ?_)
                replace hf := bnd_s hf ez
                clear ez
                refine lv_istore (lv' := [(4, .int (Int32.ofInt z31)), (6, .int (Int32.ofInt z21)), (5, .int (Int32.ofInt z22)), (0, .ref a_p0)]) hx hb dX12_unlikeBy_160 hl (by decide) rfl (fun ls hl => ?_)
                refine lv_aload_n hx hb dX12_unlikeBy_162 rfl (lv_at hl 3 rfl) ?_
                refine va_get (D := D) (ci := 12) (v := .ref a_p0_st) (C := RX12) (T := TX12) (N := 37) hx hb hts inX12_unlikeBy_X12 hown hK hP 0 rfl rfl 0 (by decide) (hts _ mwX12_unlikeBy_2) (fun _ h9 => h9) rfl dX12_unlikeBy_163 ?_
                refine lv_bipush (v := Int32.ofInt (23 : Int)) hx hb dX12_unlikeBy_166 (by decide) ?_
                refine lv_iload hx hb dX12_unlikeBy_168 (lv_at hl 1 rfl) ?_
                refine lv_iadd hx hb dX12_unlikeBy_170 (z_ci (Int32.ofInt_add (23 : Int) z21) ?_)
                have hc := ck_c hf
                replace hf := ck_r hf
                refine va_iald hx hb hK hP 1 1 rfl rfl (z_ix_in hc) dX12_unlikeBy_171 (z_ci (z_ald w10 hc) ?_)
                clear hc
                refine lv_iload hx hb dX12_unlikeBy_172 (lv_at hl 2 rfl) ?_
                have hr31 := ck_c hf
                replace hf := ck_r hf
                refine lv_icmp_ge (tgt := 190) hx hb dX12_unlikeBy_174 (by decide) (fun cc => ?_) (fun cc => ?_)
                ·
                  replace hf := ite_t ((z_le hr31 hr26).mp cc) hf
                  clear cc
                  refine lv_iload hx hb dX12_unlikeBy_190 (lv_at hl 2 rfl) ?_
                  refine z_topi (fun z33 ez => ?_)
                  replace hf := bnd_s hf ez
                  clear ez
                  refine lv_istore (lv' := [(5, .int (Int32.ofInt z33)), (4, .int (Int32.ofInt z31)), (6, .int (Int32.ofInt z21)), (0, .ref a_p0)]) hx hb dX12_unlikeBy_192 hl (by decide) rfl (fun ls hl => ?_)
                  obtain ⟨z34, ez⟩ : ∃ y : Int, y = (z21 + (1 : Int)) := ⟨_, rfl⟩
                  replace hf := bnd_s hf ez
                  refine lv_iinc (v := Int32.ofInt z34) (lv' := [(6, .int (Int32.ofInt z34)), (5, .int (Int32.ofInt z33)), (4, .int (Int32.ofInt z31)), (0, .ref a_p0)]) hx hb dX12_unlikeBy_194 hl (k := 2) rfl (by rw [ez]; exact (Int32.ofInt_add _ _).symm) (by decide) rfl (fun ls hl => ?_)
                  clear ez
                  refine lv_goto (tgt := 121) hx hb dX12_unlikeBy_197 (by decide) ?_
                  exact ih121 _ _ _ _ _ _ (lv_sub hl [0, 1, 2, 3] rfl) hP hD hS hf
                ·
                  replace hf := ite_f (fun h9 => cc ((z_le hr31 hr26).mpr h9)) hf
                  clear cc
                  refine lv_aload_n hx hb dX12_unlikeBy_177 rfl (lv_at hl 3 rfl) ?_
                  refine va_get (D := D) (ci := 12) (v := .ref a_p0_st) (C := RX12) (T := TX12) (N := 37) hx hb hts inX12_unlikeBy_X12 hown hK hP 0 rfl rfl 0 (by decide) (hts _ mwX12_unlikeBy_2) (fun _ h9 => h9) rfl dX12_unlikeBy_178 ?_
                  refine lv_bipush (v := Int32.ofInt (23 : Int)) hx hb dX12_unlikeBy_181 (by decide) ?_
                  refine lv_iload hx hb dX12_unlikeBy_183 (lv_at hl 1 rfl) ?_
                  refine lv_iadd hx hb dX12_unlikeBy_185 (z_ci (Int32.ofInt_add (23 : Int) z21) ?_)
                  have hc := ck_c hf
                  replace hf := ck_r hf
                  refine va_iald hx hb hK hP 1 1 rfl rfl (z_ix_in hc) dX12_unlikeBy_186 (z_ci (z_ald w10 hc) ?_)
                  clear hc
                  refine lv_goto (tgt := 192) hx hb dX12_unlikeBy_187 (by decide) ?_
                  refine z_topi (fun z35 ez => ?_)
                  replace hf := bnd_s hf ez
                  clear ez
                  refine lv_istore (lv' := [(5, .int (Int32.ofInt z35)), (4, .int (Int32.ofInt z31)), (6, .int (Int32.ofInt z21)), (0, .ref a_p0)]) hx hb dX12_unlikeBy_192 hl (by decide) rfl (fun ls hl => ?_)
                  obtain ⟨z36, ez⟩ : ∃ y : Int, y = (z21 + (1 : Int)) := ⟨_, rfl⟩
                  replace hf := bnd_s hf ez
                  refine lv_iinc (v := Int32.ofInt z36) (lv' := [(6, .int (Int32.ofInt z36)), (5, .int (Int32.ofInt z35)), (4, .int (Int32.ofInt z31)), (0, .ref a_p0)]) hx hb dX12_unlikeBy_194 hl (k := 2) rfl (by rw [ez]; exact (Int32.ofInt_add _ _).symm) (by decide) rfl (fun ls hl => ?_)
                  clear ez
                  refine lv_goto (tgt := 121) hx hb dX12_unlikeBy_197 (by decide) ?_
                  exact ih121 _ _ _ _ _ _ (lv_sub hl [0, 1, 2, 3] rfl) hP hD hS hf
              refine lv_icmp_le (tgt := 158) hx hb dX12_unlikeBy_142 (by decide) (fun cc => ?_) (fun cc => ?_)
              ·
                replace hf := ite_t ((z_le hr26 hr27).mp cc) hf
                clear cc
                refine lv_iload hx hb dX12_unlikeBy_158 (lv_at hl 2 rfl) ?_
                exact hJ30 _ _ _ _ (lv_sub hl [0, 1, 3] rfl) hP hD hS hf
              ·
                replace hf := ite_f (fun h9 => cc ((z_le hr26 hr27).mpr h9)) hf
                clear cc
                refine lv_aload_n hx hb dX12_unlikeBy_145 rfl (lv_at hl 3 rfl) ?_
                refine va_get (D := D) (ci := 12) (v := .ref a_p0_st) (C := RX12) (T := TX12) (N := 37) hx hb hts inX12_unlikeBy_X12 hown hK hP 0 rfl rfl 0 (by decide) (hts _ mwX12_unlikeBy_2) (fun _ h9 => h9) rfl dX12_unlikeBy_146 ?_
                refine lv_bipush (v := Int32.ofInt (23 : Int)) hx hb dX12_unlikeBy_149 (by decide) ?_
                refine lv_iload hx hb dX12_unlikeBy_151 (lv_at hl 0 rfl) ?_
                refine lv_iadd hx hb dX12_unlikeBy_153 (z_ci (Int32.ofInt_add (23 : Int) z21) ?_)
                have hc := ck_c hf
                replace hf := ck_r hf
                refine va_iald hx hb hK hP 1 1 rfl rfl (z_ix_in hc) dX12_unlikeBy_154 (z_ci (z_ald w10 hc) ?_)
                clear hc
                refine lv_goto (tgt := 160) hx hb dX12_unlikeBy_155 (by decide) ?_
                exact hJ30 _ _ _ _ (lv_sub hl [0, 1, 3] rfl) hP hD hS hf
        exact hB24 _ _ _ _ _ _ _ (lv_sub hl [0, 1, 2, 3] rfl) hP hD hS hf
      have hq := lq5_i hf
      clear hf
      obtain ⟨B42, eB42, NB42, hf⟩ := hq
      have hB42 : ∀ (n : Nat) (z37 : Int) (z38 : Int) (w39 : (Int → Int)) (w40 : (Int → Int)) (w41 : (Int → Int)) (ls : Array Slot) (H : Heap) (locs : List Loc), lv_has ls 7 [(4, .int (Int32.ofInt z37)), (3, .int (Int32.ofInt z38)), (0, .ref a_p0), (1, .int (Int32.ofInt x1)), (2, .int (Int32.ofInt x2))] → va_P D vwCl [(a_p0, .inr (12, [.ref a_p0_st, .ref a_p0_isKept, .int (Int32.ofInt i_p0_seats), .int (Int32.ofInt i_p0_stirs), .ref a_p0_brings, .ref a_p0_need, .ref a_p0_draft, .int (Int32.ofInt i_p0_dSeats), .int (Int32.ofInt i_p0_dStirs), .ref a_p0_dStir, .ref a_p0_dNeed, .int (Int32.ofInt i_p0_told), .int (Int32.ofInt i_p0_highest), .ref a_p0_tape, .int (Int32.ofInt i_p0_taped), .int (Int32.ofInt i_p0_pos), .int (Int32.ofInt i_p0_from), .int (Int32.ofInt i_p0_sort), .int (Int32.ofInt i_p0_value), .int (Int32.ofInt i_p0_fault), .int (Int32.ofInt i_p0_wrongAt), .ref a_p0_places, .ref a_p0_stirred, .ref a_p0_ways, .ref a_p0_waysThen, .ref a_p0_stays, .ref a_p0_fewest, .ref a_p0_bowls, .ref a_p0_has, .ref a_p0_goesOn, .ref a_p0_isThere, .ref a_p0_isThereThen, .ref a_p0_bestRow, .ref a_p0_lanes, .ref a_p0_sizes, .ref a_p0_cells, .int (Int32.ofInt i_p0_torn)])), (a_p0_st, .inl (G 1, 152, .inl (zA w39))), (a_p0_brings, .inl (G 1, 35, .inl (zA v_p0_brings))), (a_p0_places, .inl (G 1, 7, .inl (zA w40))), (a_p0_stirred, .inl (G 1, 7, .inl (zA w41)))] H → va_D A [(a_p0, .inr (12, [.ref a_p0_st, .ref a_p0_isKept, .int (Int32.ofInt i_p0_seats), .int (Int32.ofInt i_p0_stirs), .ref a_p0_brings, .ref a_p0_need, .ref a_p0_draft, .int (Int32.ofInt i_p0_dSeats), .int (Int32.ofInt i_p0_dStirs), .ref a_p0_dStir, .ref a_p0_dNeed, .int (Int32.ofInt i_p0_told), .int (Int32.ofInt i_p0_highest), .ref a_p0_tape, .int (Int32.ofInt i_p0_taped), .int (Int32.ofInt i_p0_pos), .int (Int32.ofInt i_p0_from), .int (Int32.ofInt i_p0_sort), .int (Int32.ofInt i_p0_value), .int (Int32.ofInt i_p0_fault), .int (Int32.ofInt i_p0_wrongAt), .ref a_p0_places, .ref a_p0_stirred, .ref a_p0_ways, .ref a_p0_waysThen, .ref a_p0_stays, .ref a_p0_fewest, .ref a_p0_bowls, .ref a_p0_has, .ref a_p0_goesOn, .ref a_p0_isThere, .ref a_p0_isThereThen, .ref a_p0_bestRow, .ref a_p0_lanes, .ref a_p0_sizes, .ref a_p0_cells, .int (Int32.ofInt i_p0_torn)])), (a_p0_st, .inl (G 1, 152, .inl (zA w39))), (a_p0_brings, .inl (G 1, 35, .inl (zA v_p0_brings))), (a_p0_places, .inl (G 1, 7, .inl (zA w40))), (a_p0_stirred, .inl (G 1, 7, .inl (zA w41)))] → va_S A s.heap H locs → lq5 B42 n z37 z38 w39 w40 w41 = some (r, o_v_p0_st, o_v_p0_places, o_v_p0_stirred) → W p l e rm_X12_unlikeBy s m ([.ref a_p0, .int (Int32.ofInt x1), .int (Int32.ofInt x2)] : List Value).toArray below meth c H locs 0 0 Q (F0 m 60 ls []) := by
        clear hf hl hP hD hS
        intro n
        induction n with
        | zero =>
          intro z37 z38 w39 w40 w41 ls H locs hl hP hD hS hf
          exact (lq5_0 hf).elim
        | succ n ih60 =>
          intro z37 z38 w39 w40 w41 ls H locs hl hP hD hS hf
          replace hf := lq5_s eB42 hf
          unfold B_X12_unlikeBy_60 at hf
          refine lv_iload hx hb dX12_unlikeBy_60 (lv_at hl 0 rfl) ?_
          refine lv_iload_n hx hb dX12_unlikeBy_62 rfl (lv_at hl 4 rfl) ?_
          have hr42 := ck_c hf
          replace hf := ck_r hf
          have hr43 := ck_c hf
          replace hf := ck_r hf
          refine lv_icmp_ge (tgt := 100) hx hb dX12_unlikeBy_63 (by decide) (fun cc => ?_) (fun cc => ?_)
          ·
            replace hf := ite_t ((z_le hr43 hr42).mp cc) hf
            clear cc
            exact hJ13 _ _ _ _ _ _ (lv_sub hl [2] rfl) hP hD hS hf
          ·
            replace hf := ite_f (fun h9 => cc ((z_le hr43 hr42).mpr h9)) hf
            clear cc
            refine lv_aload_n hx hb dX12_unlikeBy_66 rfl (lv_at hl 2 rfl) ?_
            refine lv_iload_n hx hb dX12_unlikeBy_67 rfl (lv_at hl 3 rfl) ?_
            refine lv_iload_n hx hb dX12_unlikeBy_68 rfl (lv_at hl 1 rfl) ?_
            have hc := ck_c hf
            replace hf := ck_r hf
            refine lv_idiv hx hb dX12_unlikeBy_69 (z_nz hc) (z_ci (z_div hc) ?_)
            clear hc
            refine lv_aload_n hx hb dX12_unlikeBy_70 rfl (lv_at hl 2 rfl) ?_
            refine va_get (D := D) (ci := 12) (v := .int (Int32.ofInt i_p0_stirs)) (C := RX12) (T := TX12) (N := 37) hx hb hts inX12_unlikeBy_X12 hown hK hP 0 rfl rfl 3 (by decide) (hts _ mwX12_unlikeBy_4) (fun _ h9 => h9) rfl dX12_unlikeBy_71 ?_
            have hc := ck_c hf
            replace hf := ck_r hf
            refine lv_irem hx hb dX12_unlikeBy_74 (z_nz hc) (z_ci (z_rem hc) ?_)
            clear hc
            have hq := bd3_s hf
            clear hf
            obtain ⟨w45, w46, w47, hcall, hf⟩ := hq
            refine gsV (ws' := [(a_p0, .inr (12, [.ref a_p0_st, .ref a_p0_isKept, .int (Int32.ofInt i_p0_seats), .int (Int32.ofInt i_p0_stirs), .ref a_p0_brings, .ref a_p0_need, .ref a_p0_draft, .int (Int32.ofInt i_p0_dSeats), .int (Int32.ofInt i_p0_dStirs), .ref a_p0_dStir, .ref a_p0_dNeed, .int (Int32.ofInt i_p0_told), .int (Int32.ofInt i_p0_highest), .ref a_p0_tape, .int (Int32.ofInt i_p0_taped), .int (Int32.ofInt i_p0_pos), .int (Int32.ofInt i_p0_from), .int (Int32.ofInt i_p0_sort), .int (Int32.ofInt i_p0_value), .int (Int32.ofInt i_p0_fault), .int (Int32.ofInt i_p0_wrongAt), .ref a_p0_places, .ref a_p0_stirred, .ref a_p0_ways, .ref a_p0_waysThen, .ref a_p0_stays, .ref a_p0_fewest, .ref a_p0_bowls, .ref a_p0_has, .ref a_p0_goesOn, .ref a_p0_isThere, .ref a_p0_isThereThen, .ref a_p0_bestRow, .ref a_p0_lanes, .ref a_p0_sizes, .ref a_p0_cells, .int (Int32.ofInt i_p0_torn)])), (a_p0_st, .inl (G 1, 152, .inl (zA w45))), (a_p0_brings, .inl (G 1, 35, .inl (zA v_p0_brings))), (a_p0_places, .inl (G 1, 7, .inl (zA w46))), (a_p0_stirred, .inl (G 1, 7, .inl (zA w47)))]) (va_runV (As := [.int (Int32.ofInt ((x1 / z38) % i_p0_stirs))]) (rest := []) ⟨hx, hb, hml, hown, hts⟩ (c_X12_goesDay (l := l) (D := D) (G := G) (sz := H.size) (a_p0 := a_p0) (a_p0_st := a_p0_st) (a_p0_isKept := a_p0_isKept) (a_p0_brings := a_p0_brings) (a_p0_need := a_p0_need) (a_p0_draft := a_p0_draft) (a_p0_dStir := a_p0_dStir) (a_p0_dNeed := a_p0_dNeed) (a_p0_tape := a_p0_tape) (a_p0_places := a_p0_places) (a_p0_stirred := a_p0_stirred) (a_p0_ways := a_p0_ways) (a_p0_waysThen := a_p0_waysThen) (a_p0_stays := a_p0_stays) (a_p0_fewest := a_p0_fewest) (a_p0_bowls := a_p0_bowls) (a_p0_has := a_p0_has) (a_p0_goesOn := a_p0_goesOn) (a_p0_isThere := a_p0_isThere) (a_p0_isThereThen := a_p0_isThereThen) (a_p0_bestRow := a_p0_bestRow) (a_p0_lanes := a_p0_lanes) (a_p0_sizes := a_p0_sizes) (a_p0_cells := a_p0_cells) (i_p0_seats := i_p0_seats) (i_p0_stirs := i_p0_stirs) (i_p0_dSeats := i_p0_dSeats) (i_p0_dStirs := i_p0_dStirs) (i_p0_told := i_p0_told) (i_p0_highest := i_p0_highest) (i_p0_taped := i_p0_taped) (i_p0_pos := i_p0_pos) (i_p0_from := i_p0_from) (i_p0_sort := i_p0_sort) (i_p0_value := i_p0_value) (i_p0_fault := i_p0_fault) (i_p0_wrongAt := i_p0_wrongAt) (i_p0_torn := i_p0_torn) (v_p0_st := w39) (v_p0_brings := v_p0_brings) (v_p0_places := w40) (v_p0_stirred := w41) (x1 := ((x1 / z38) % i_p0_stirs)) (o_v_p0_st := w45) (o_v_p0_places := w46) (o_v_p0_stirred := w47) (hf := hcall)) (cwV 1 hts gX12_unlikeBy_X12_goesDay rfl rfl rfl hdV_yX12_goesDay_RX12 ⟨Nat.le_of_ble_eq_true rfl, Nat.le_of_ble_eq_true rfl⟩) (preG_V (ci := 12) (q := (RX12, TX12, 37)) (hP.sub [0, 1, 2, 3, 4] rfl) (hD.sub [0, 1, 2, 3, 4] rfl rfl) hK rfl rfl) rfl rfl hl.1 rfl (lv_room (Nat.le_of_ble_eq_true rfl)) dX12_unlikeBy_75 ⟨Nat.le_of_ble_eq_true rfl, Nat.le_of_ble_eq_true rfl⟩) hP hD hS hA [0, 1, 2, 3, 4] rfl rfl rfl (fun H locs hP hD hS => ?_)
            clear hcall
            refine lv_iload_n hx hb dX12_unlikeBy_78 rfl (lv_at hl 1 rfl) ?_
            refine lv_iconst (v := Int32.ofInt (1 : Int)) hx hb dX12_unlikeBy_79 (by decide) ?_
            have hr47 := ck_c hf
            replace hf := ck_r hf
            refine lv_icmp_le (tgt := 92) hx hb dX12_unlikeBy_80 (by decide) (fun cc => ?_) (fun cc => ?_)
            ·
              replace hf := ite_t ((z_le hr47 (by decide)).mp cc) hf
              clear cc
              refine lv_iconst (v := Int32.ofInt (1 : Int)) hx hb dX12_unlikeBy_92 (by decide) ?_
              refine z_topi (fun z49 ez => ?_)
              replace hf := bnd_s hf ez
              clear ez
              refine lv_istore_n (lv' := [(3, .int (Int32.ofInt z49)), (4, .int (Int32.ofInt z37)), (0, .ref a_p0), (1, .int (Int32.ofInt x1)), (2, .int (Int32.ofInt x2))]) hx hb dX12_unlikeBy_93 rfl hl (by decide) rfl (fun ls hl => ?_)
              obtain ⟨z50, ez⟩ : ∃ y : Int, y = (z37 + (1 : Int)) := ⟨_, rfl⟩
              replace hf := bnd_s hf ez
              refine lv_iinc (v := Int32.ofInt z50) (lv' := [(4, .int (Int32.ofInt z50)), (3, .int (Int32.ofInt z49)), (0, .ref a_p0), (1, .int (Int32.ofInt x1)), (2, .int (Int32.ofInt x2))]) hx hb dX12_unlikeBy_94 hl (k := 1) rfl (by rw [ez]; exact (Int32.ofInt_add _ _).symm) (by decide) rfl (fun ls hl => ?_)
              clear ez
              refine lv_goto (tgt := 60) hx hb dX12_unlikeBy_97 (by decide) ?_
              exact ih60 _ _ _ _ _ _ _ _ (lv_sub hl [0, 1, 2, 3, 4] rfl) hP hD hS hf
            ·
              replace hf := ite_f (fun h9 => cc ((z_le hr47 (by decide)).mpr h9)) hf
              clear cc
              refine lv_iload_n hx hb dX12_unlikeBy_83 rfl (lv_at hl 1 rfl) ?_
              refine lv_aload_n hx hb dX12_unlikeBy_84 rfl (lv_at hl 2 rfl) ?_
              refine va_get (D := D) (ci := 12) (v := .int (Int32.ofInt i_p0_stirs)) (C := RX12) (T := TX12) (N := 37) hx hb hts inX12_unlikeBy_X12 hown hK hP 0 rfl rfl 3 (by decide) (hts _ mwX12_unlikeBy_4) (fun _ h9 => h9) rfl dX12_unlikeBy_85 ?_
              have hc := ck_c hf
              replace hf := ck_r hf
              refine lv_idiv hx hb dX12_unlikeBy_88 (z_nz hc) (z_ci (z_div hc) ?_)
              clear hc
              refine lv_goto (tgt := 93) hx hb dX12_unlikeBy_89 (by decide) ?_
              refine z_topi (fun z51 ez => ?_)
              replace hf := bnd_s hf ez
              clear ez
              refine lv_istore_n (lv' := [(3, .int (Int32.ofInt z51)), (4, .int (Int32.ofInt z37)), (0, .ref a_p0), (1, .int (Int32.ofInt x1)), (2, .int (Int32.ofInt x2))]) hx hb dX12_unlikeBy_93 rfl hl (by decide) rfl (fun ls hl => ?_)
              obtain ⟨z52, ez⟩ : ∃ y : Int, y = (z37 + (1 : Int)) := ⟨_, rfl⟩
              replace hf := bnd_s hf ez
              refine lv_iinc (v := Int32.ofInt z52) (lv' := [(4, .int (Int32.ofInt z52)), (3, .int (Int32.ofInt z51)), (0, .ref a_p0), (1, .int (Int32.ofInt x1)), (2, .int (Int32.ofInt x2))]) hx hb dX12_unlikeBy_94 hl (k := 1) rfl (by rw [ez]; exact (Int32.ofInt_add _ _).symm) (by decide) rfl (fun ls hl => ?_)
              clear ez
              refine lv_goto (tgt := 60) hx hb dX12_unlikeBy_97 (by decide) ?_
              exact ih60 _ _ _ _ _ _ _ _ (lv_sub hl [0, 1, 2, 3, 4] rfl) hP hD hS hf
      exact hB42 _ _ _ _ _ _ _ _ _ (lv_sub hl [0, 1, 2, 3, 4] rfl) hP hD hS hf
    have hq := lq2_i hf
    clear hf
    obtain ⟨B55, eB55, NB55, hf⟩ := hq
    have hB55 : ∀ (n : Nat) (z53 : Int) (z54 : Int) (ls : Array Slot) (H : Heap) (locs : List Loc), lv_has ls 7 [(4, .int (Int32.ofInt z53)), (3, .int (Int32.ofInt z54)), (0, .ref a_p0), (1, .int (Int32.ofInt x1)), (2, .int (Int32.ofInt x2))] → va_P D vwCl [(a_p0, .inr (12, [.ref a_p0_st, .ref a_p0_isKept, .int (Int32.ofInt i_p0_seats), .int (Int32.ofInt i_p0_stirs), .ref a_p0_brings, .ref a_p0_need, .ref a_p0_draft, .int (Int32.ofInt i_p0_dSeats), .int (Int32.ofInt i_p0_dStirs), .ref a_p0_dStir, .ref a_p0_dNeed, .int (Int32.ofInt i_p0_told), .int (Int32.ofInt i_p0_highest), .ref a_p0_tape, .int (Int32.ofInt i_p0_taped), .int (Int32.ofInt i_p0_pos), .int (Int32.ofInt i_p0_from), .int (Int32.ofInt i_p0_sort), .int (Int32.ofInt i_p0_value), .int (Int32.ofInt i_p0_fault), .int (Int32.ofInt i_p0_wrongAt), .ref a_p0_places, .ref a_p0_stirred, .ref a_p0_ways, .ref a_p0_waysThen, .ref a_p0_stays, .ref a_p0_fewest, .ref a_p0_bowls, .ref a_p0_has, .ref a_p0_goesOn, .ref a_p0_isThere, .ref a_p0_isThereThen, .ref a_p0_bestRow, .ref a_p0_lanes, .ref a_p0_sizes, .ref a_p0_cells, .int (Int32.ofInt i_p0_torn)])), (a_p0_st, .inl (G 1, 152, .inl (zA w3))), (a_p0_brings, .inl (G 1, 35, .inl (zA v_p0_brings))), (a_p0_places, .inl (G 1, 7, .inl (zA v_p0_places))), (a_p0_stirred, .inl (G 1, 7, .inl (zA v_p0_stirred)))] H → va_D A [(a_p0, .inr (12, [.ref a_p0_st, .ref a_p0_isKept, .int (Int32.ofInt i_p0_seats), .int (Int32.ofInt i_p0_stirs), .ref a_p0_brings, .ref a_p0_need, .ref a_p0_draft, .int (Int32.ofInt i_p0_dSeats), .int (Int32.ofInt i_p0_dStirs), .ref a_p0_dStir, .ref a_p0_dNeed, .int (Int32.ofInt i_p0_told), .int (Int32.ofInt i_p0_highest), .ref a_p0_tape, .int (Int32.ofInt i_p0_taped), .int (Int32.ofInt i_p0_pos), .int (Int32.ofInt i_p0_from), .int (Int32.ofInt i_p0_sort), .int (Int32.ofInt i_p0_value), .int (Int32.ofInt i_p0_fault), .int (Int32.ofInt i_p0_wrongAt), .ref a_p0_places, .ref a_p0_stirred, .ref a_p0_ways, .ref a_p0_waysThen, .ref a_p0_stays, .ref a_p0_fewest, .ref a_p0_bowls, .ref a_p0_has, .ref a_p0_goesOn, .ref a_p0_isThere, .ref a_p0_isThereThen, .ref a_p0_bestRow, .ref a_p0_lanes, .ref a_p0_sizes, .ref a_p0_cells, .int (Int32.ofInt i_p0_torn)])), (a_p0_st, .inl (G 1, 152, .inl (zA w3))), (a_p0_brings, .inl (G 1, 35, .inl (zA v_p0_brings))), (a_p0_places, .inl (G 1, 7, .inl (zA v_p0_places))), (a_p0_stirred, .inl (G 1, 7, .inl (zA v_p0_stirred)))] → va_S A s.heap H locs → lq2 B55 n z53 z54 = some (r, o_v_p0_st, o_v_p0_places, o_v_p0_stirred) → W p l e rm_X12_unlikeBy s m ([.ref a_p0, .int (Int32.ofInt x1), .int (Int32.ofInt x2)] : List Value).toArray below meth c H locs 0 0 Q (F0 m 38 ls []) := by
      clear hf hl hP hD hS
      intro n
      induction n with
      | zero =>
        intro z53 z54 ls H locs hl hP hD hS hf
        exact (lq2_0 hf).elim
      | succ n ih38 =>
        intro z53 z54 ls H locs hl hP hD hS hf
        replace hf := lq2_s eB55 hf
        unfold B_X12_unlikeBy_38 at hf
        refine lv_iload hx hb dX12_unlikeBy_38 (lv_at hl 0 rfl) ?_
        refine lv_iload_n hx hb dX12_unlikeBy_40 rfl (lv_at hl 4 rfl) ?_
        have hr55 := ck_c hf
        replace hf := ck_r hf
        have hr56 := ck_c hf
        replace hf := ck_r hf
        refine lv_icmp_ge (tgt := 57) hx hb dX12_unlikeBy_41 (by decide) (fun cc => ?_) (fun cc => ?_)
        ·
          replace hf := ite_t ((z_le hr56 hr55).mp cc) hf
          clear cc
          exact hJ8 _ _ _ _ (lv_sub hl [1, 2, 3, 4] rfl) hP hD hS hf
        ·
          replace hf := ite_f (fun h9 => cc ((z_le hr56 hr55).mpr h9)) hf
          clear cc
          refine lv_iload_n hx hb dX12_unlikeBy_44 rfl (lv_at hl 1 rfl) ?_
          refine lv_aload_n hx hb dX12_unlikeBy_45 rfl (lv_at hl 2 rfl) ?_
          refine va_get (D := D) (ci := 12) (v := .int (Int32.ofInt i_p0_stirs)) (C := RX12) (T := TX12) (N := 37) hx hb hts inX12_unlikeBy_X12 hown hK hP 0 rfl rfl 3 (by decide) (hts _ mwX12_unlikeBy_4) (fun _ h9 => h9) rfl dX12_unlikeBy_46 ?_
          refine lv_imul hx hb dX12_unlikeBy_49 (z_ci (Int32.ofInt_mul z54 i_p0_stirs) ?_)
          refine z_topi (fun z58 ez => ?_)
          replace hf := bnd_s hf ez
          clear ez
          refine lv_istore_n (lv' := [(3, .int (Int32.ofInt z58)), (4, .int (Int32.ofInt z53)), (0, .ref a_p0), (1, .int (Int32.ofInt x1)), (2, .int (Int32.ofInt x2))]) hx hb dX12_unlikeBy_50 rfl hl (by decide) rfl (fun ls hl => ?_)
          obtain ⟨z59, ez⟩ : ∃ y : Int, y = (z53 + (1 : Int)) := ⟨_, rfl⟩
          replace hf := bnd_s hf ez
          refine lv_iinc (v := Int32.ofInt z59) (lv' := [(4, .int (Int32.ofInt z59)), (3, .int (Int32.ofInt z58)), (0, .ref a_p0), (1, .int (Int32.ofInt x1)), (2, .int (Int32.ofInt x2))]) hx hb dX12_unlikeBy_51 hl (k := 1) rfl (by rw [ez]; exact (Int32.ofInt_add _ _).symm) (by decide) rfl (fun ls hl => ?_)
          clear ez
          refine lv_goto (tgt := 38) hx hb dX12_unlikeBy_54 (by decide) ?_
          exact ih38 _ _ _ _ _ (lv_sub hl [0, 1, 2, 3, 4] rfl) hP hD hS hf
    exact hB55 _ _ _ _ _ _ (lv_sub hl [0, 1, 2, 3, 4] rfl) hP hD hS hf
  have hq := lq2_i hf
  clear hf
  obtain ⟨B62, eB62, NB62, hf⟩ := hq
  have hB62 : ∀ (n : Nat) (z60 : Int) (w61 : (Int → Int)) (ls : Array Slot) (H : Heap) (locs : List Loc), lv_has ls 7 [(3, .int (Int32.ofInt z60)), (0, .ref a_p0), (1, .int (Int32.ofInt x1)), (2, .int (Int32.ofInt x2))] → va_P D vwCl [(a_p0, .inr (12, [.ref a_p0_st, .ref a_p0_isKept, .int (Int32.ofInt i_p0_seats), .int (Int32.ofInt i_p0_stirs), .ref a_p0_brings, .ref a_p0_need, .ref a_p0_draft, .int (Int32.ofInt i_p0_dSeats), .int (Int32.ofInt i_p0_dStirs), .ref a_p0_dStir, .ref a_p0_dNeed, .int (Int32.ofInt i_p0_told), .int (Int32.ofInt i_p0_highest), .ref a_p0_tape, .int (Int32.ofInt i_p0_taped), .int (Int32.ofInt i_p0_pos), .int (Int32.ofInt i_p0_from), .int (Int32.ofInt i_p0_sort), .int (Int32.ofInt i_p0_value), .int (Int32.ofInt i_p0_fault), .int (Int32.ofInt i_p0_wrongAt), .ref a_p0_places, .ref a_p0_stirred, .ref a_p0_ways, .ref a_p0_waysThen, .ref a_p0_stays, .ref a_p0_fewest, .ref a_p0_bowls, .ref a_p0_has, .ref a_p0_goesOn, .ref a_p0_isThere, .ref a_p0_isThereThen, .ref a_p0_bestRow, .ref a_p0_lanes, .ref a_p0_sizes, .ref a_p0_cells, .int (Int32.ofInt i_p0_torn)])), (a_p0_st, .inl (G 1, 152, .inl (zA w61))), (a_p0_brings, .inl (G 1, 35, .inl (zA v_p0_brings))), (a_p0_places, .inl (G 1, 7, .inl (zA v_p0_places))), (a_p0_stirred, .inl (G 1, 7, .inl (zA v_p0_stirred)))] H → va_D A [(a_p0, .inr (12, [.ref a_p0_st, .ref a_p0_isKept, .int (Int32.ofInt i_p0_seats), .int (Int32.ofInt i_p0_stirs), .ref a_p0_brings, .ref a_p0_need, .ref a_p0_draft, .int (Int32.ofInt i_p0_dSeats), .int (Int32.ofInt i_p0_dStirs), .ref a_p0_dStir, .ref a_p0_dNeed, .int (Int32.ofInt i_p0_told), .int (Int32.ofInt i_p0_highest), .ref a_p0_tape, .int (Int32.ofInt i_p0_taped), .int (Int32.ofInt i_p0_pos), .int (Int32.ofInt i_p0_from), .int (Int32.ofInt i_p0_sort), .int (Int32.ofInt i_p0_value), .int (Int32.ofInt i_p0_fault), .int (Int32.ofInt i_p0_wrongAt), .ref a_p0_places, .ref a_p0_stirred, .ref a_p0_ways, .ref a_p0_waysThen, .ref a_p0_stays, .ref a_p0_fewest, .ref a_p0_bowls, .ref a_p0_has, .ref a_p0_goesOn, .ref a_p0_isThere, .ref a_p0_isThereThen, .ref a_p0_bestRow, .ref a_p0_lanes, .ref a_p0_sizes, .ref a_p0_cells, .int (Int32.ofInt i_p0_torn)])), (a_p0_st, .inl (G 1, 152, .inl (zA w61))), (a_p0_brings, .inl (G 1, 35, .inl (zA v_p0_brings))), (a_p0_places, .inl (G 1, 7, .inl (zA v_p0_places))), (a_p0_stirred, .inl (G 1, 7, .inl (zA v_p0_stirred)))] → va_S A s.heap H locs → lq2 B62 n z60 w61 = some (r, o_v_p0_st, o_v_p0_places, o_v_p0_stirred) → W p l e rm_X12_unlikeBy s m ([.ref a_p0, .int (Int32.ofInt x1), .int (Int32.ofInt x2)] : List Value).toArray below meth c H locs 0 0 Q (F0 m 9 ls []) := by
    clear hf hl hP hD hS
    intro n
    induction n with
    | zero =>
      intro z60 w61 ls H locs hl hP hD hS hf
      exact (lq2_0 hf).elim
    | succ n ih9 =>
      intro z60 w61 ls H locs hl hP hD hS hf
      replace hf := lq2_s eB62 hf
      unfold B_X12_unlikeBy_9 at hf
      refine lv_iload_n hx hb dX12_unlikeBy_9 rfl (lv_at hl 0 rfl) ?_
      refine lv_aload_n hx hb dX12_unlikeBy_10 rfl (lv_at hl 1 rfl) ?_
      refine va_get (D := D) (ci := 12) (v := .int (Int32.ofInt i_p0_seats)) (C := RX12) (T := TX12) (N := 37) hx hb hts inX12_unlikeBy_X12 hown hK hP 0 rfl rfl 2 (by decide) (hts _ mwX12_unlikeBy_3) (fun _ h9 => h9) rfl dX12_unlikeBy_11 ?_
      have hr62 := ck_c hf
      replace hf := ck_r hf
      have hr63 := ck_c hf
      replace hf := ck_r hf
      refine lv_icmp_ge (tgt := 33) hx hb dX12_unlikeBy_14 (by decide) (fun cc => ?_) (fun cc => ?_)
      ·
        replace hf := ite_t ((z_le hr63 hr62).mp cc) hf
        clear cc
        exact hJ4 _ _ _ _ (lv_sub hl [1, 2, 3] rfl) hP hD hS hf
      ·
        replace hf := ite_f (fun h9 => cc ((z_le hr63 hr62).mpr h9)) hf
        clear cc
        refine lv_aload_n hx hb dX12_unlikeBy_17 rfl (lv_at hl 1 rfl) ?_
        refine va_get (D := D) (ci := 12) (v := .ref a_p0_st) (C := RX12) (T := TX12) (N := 37) hx hb hts inX12_unlikeBy_X12 hown hK hP 0 rfl rfl 0 (by decide) (hts _ mwX12_unlikeBy_2) (fun _ h9 => h9) rfl dX12_unlikeBy_18 ?_
        refine lv_bipush (v := Int32.ofInt (23 : Int)) hx hb dX12_unlikeBy_21 (by decide) ?_
        refine lv_iload_n hx hb dX12_unlikeBy_23 rfl (lv_at hl 0 rfl) ?_
        refine lv_iadd hx hb dX12_unlikeBy_24 (z_ci (Int32.ofInt_add (23 : Int) z60) ?_)
        refine lv_iconst (v := Int32.ofInt (0 : Int)) hx hb dX12_unlikeBy_25 (by decide) ?_
        have hc := ck_c hf
        replace hf := ck_r hf
        refine zs_iast (wf := fun w65 => [(a_p0, .inr (12, [.ref a_p0_st, .ref a_p0_isKept, .int (Int32.ofInt i_p0_seats), .int (Int32.ofInt i_p0_stirs), .ref a_p0_brings, .ref a_p0_need, .ref a_p0_draft, .int (Int32.ofInt i_p0_dSeats), .int (Int32.ofInt i_p0_dStirs), .ref a_p0_dStir, .ref a_p0_dNeed, .int (Int32.ofInt i_p0_told), .int (Int32.ofInt i_p0_highest), .ref a_p0_tape, .int (Int32.ofInt i_p0_taped), .int (Int32.ofInt i_p0_pos), .int (Int32.ofInt i_p0_from), .int (Int32.ofInt i_p0_sort), .int (Int32.ofInt i_p0_value), .int (Int32.ofInt i_p0_fault), .int (Int32.ofInt i_p0_wrongAt), .ref a_p0_places, .ref a_p0_stirred, .ref a_p0_ways, .ref a_p0_waysThen, .ref a_p0_stays, .ref a_p0_fewest, .ref a_p0_bowls, .ref a_p0_has, .ref a_p0_goesOn, .ref a_p0_isThere, .ref a_p0_isThereThen, .ref a_p0_bestRow, .ref a_p0_lanes, .ref a_p0_sizes, .ref a_p0_cells, .int (Int32.ofInt i_p0_torn)])), (a_p0_st, .inl (G 1, 152, .inl (zA w65))), (a_p0_brings, .inl (G 1, 35, .inl (zA v_p0_brings))), (a_p0_places, .inl (G 1, 7, .inl (zA v_p0_places))), (a_p0_stirred, .inl (G 1, 7, .inl (zA v_p0_stirred)))]) hx hb hK hP hD hS 1 1 rfl rfl hc dX12_unlikeBy_26 (fun _ => rfl) (fun w65 ez H locs hP hD hS => ?_)
        replace hf := bnd_s hf ez
        clear ez hc
        obtain ⟨z66, ez⟩ : ∃ y : Int, y = (z60 + (1 : Int)) := ⟨_, rfl⟩
        replace hf := bnd_s hf ez
        refine lv_iinc (v := Int32.ofInt z66) (lv' := [(3, .int (Int32.ofInt z66)), (0, .ref a_p0), (1, .int (Int32.ofInt x1)), (2, .int (Int32.ofInt x2))]) hx hb dX12_unlikeBy_27 hl (k := 0) rfl (by rw [ez]; exact (Int32.ofInt_add _ _).symm) (by decide) rfl (fun ls hl => ?_)
        clear ez
        refine lv_goto (tgt := 9) hx hb dX12_unlikeBy_30 (by decide) ?_
        exact ih9 _ _ _ _ _ (lv_sub hl [0, 1, 2, 3] rfl) hP hD hS hf
  exact hB62 _ _ _ _ _ _ (lv_sub hl [0, 1, 2, 3] rfl) hP hD hS hf

noncomputable def B_X12_fair_134 (J21 : (Int → Int) → Option (Int × (Int → Int) × (Int → Int) × (Int → Int) × (Int → Int))) (i_p0_stirs : Int) (again134 : Int → Int → (Int → Int) → Option (Int × (Int → Int) × (Int → Int) × (Int → Int) × (Int → Int))) (z22 : Int) (z23 : Int) (w24 : (Int → Int)) : Option (Int × (Int → Int) × (Int → Int) × (Int → Int) × (Int → Int)) := (ck (z_r32 z22) (if z22 < (0 : Int) then (J21 w24) else (ck (z_dv z23 i_p0_stirs) (ck (z_ix z22 4) (bnd (z_up w24 z22 (z23 % i_p0_stirs)) (fun (w27 : (Int → Int)) => (ck (z_dv z23 i_p0_stirs) (bnd (z23 / i_p0_stirs) (fun (z28 : Int) => (bnd (z22 + (-1 : Int)) (fun (z29 : Int) => (again134 z29 z28 w27))))))))))))
noncomputable def B_X12_fair_76 (z9 : Int) (J18 : Int → Int → (Int → Int) → (Int → Int) → (Int → Int) → Option (Int × (Int → Int) × (Int → Int) × (Int → Int) × (Int → Int))) (i_p0_seats : Int) (i_p0_stirs : Int) (v_p0_brings : (Int → Int)) (x1 : Int) (again76 : Int → Int → Int → (Int → Int) → (Int → Int) → (Int → Int) → Option (Int × (Int → Int) × (Int → Int) × (Int → Int) × (Int → Int))) (z30 : Int) (z31 : Int) (z32 : Int) (w33 : (Int → Int)) (w34 : (Int → Int)) (w35 : (Int → Int)) : Option (Int × (Int → Int) × (Int → Int) × (Int → Int) × (Int → Int)) := (ck (z_r32 z30) (ck (z_r32 z9) (if z9 ≤ z30 then (J18 z32 z31 w33 w34 w35) else (bd4 (f_X12_unlikeBy i_p0_seats i_p0_stirs w33 v_p0_brings w34 w35 z30 x1) (fun (z39 : Int) (w40 : (Int → Int)) (w41 : (Int → Int)) (w42 : (Int → Int)) => (bnd z39 (fun (z43 : Int) => (ck (z_r32 z43) (ck (z_r32 z31) (jn (fun (z46 : Int) => (bnd z46 (fun (z48 : Int) => (if z31 ≤ z43 then (bnd z31 (fun (z49 : Int) => (bnd (z30 + (1 : Int)) (fun (z50 : Int) => (again76 z50 z49 z48 w40 w41 w42))))) else (bnd z43 (fun (z51 : Int) => (bnd (z30 + (1 : Int)) (fun (z52 : Int) => (again76 z52 z51 z48 w40 w41 w42))))))))) (fun (J47 : Int → Option (Int × (Int → Int) × (Int → Int) × (Int → Int) × (Int → Int))) => (if z31 ≤ z43 then (J47 z32) else (J47 z30)))))))))))))
noncomputable def f_X12_fair (i_p0_seats : Int) (i_p0_stirs : Int) (v_p0_st : (Int → Int)) (v_p0_brings : (Int → Int)) (v_p0_places : (Int → Int)) (v_p0_stirred : (Int → Int)) (v_p0_bestRow : (Int → Int)) (x1 : Int) (x2 : Int) : Option (Int × (Int → Int) × (Int → Int) × (Int → Int) × (Int → Int)) := (ck (z_r32 x1) (bd1 (f_X12_in x1 (1 : Int) (4 : Int)) (fun (z2 : Int) => (ck (z_r32 z2) (if z2 = (0 : Int) then (some ((-1 : Int), v_p0_st, v_p0_places, v_p0_stirred, v_p0_bestRow)) else (ck (z_r32 x2) (jn (ck (z_r32 i_p0_stirs) (if i_p0_stirs = (0 : Int) then (some ((-2 : Int), v_p0_st, v_p0_places, v_p0_stirred, v_p0_bestRow)) else (ck (z_r32 (x2 - (10 : Int))) (if (x2 - (10 : Int)) < x1 then (bd1 (f_X12_power i_p0_stirs x1) (fun (z8 : Int) => (bnd z8 (fun (z9 : Int) => (bnd (0 : Int) (fun (z10 : Int) => (bnd (1000000 : Int) (fun (z11 : Int) => (bnd (0 : Int) (fun (z12 : Int) => (jn (fun (z13 : Int) (z14 : Int) (w15 : (Int → Int)) (w16 : (Int → Int)) (w17 : (Int → Int)) => (bnd (x1 - (1 : Int)) (fun (z19 : Int) => (jn (fun (w20 : (Int → Int)) => (if x2 = (0 : Int) then (some (z14, w15, w16, w17, w20)) else (ck (z_ix (x2 - (10 : Int)) 4) (some ((w20 (x2 - (10 : Int))), w15, w16, w17, w20))))) (fun (J21 : (Int → Int) → Option (Int × (Int → Int) × (Int → Int) × (Int → Int) × (Int → Int))) => (lq3 (B_X12_fair_134 J21 i_p0_stirs) 1000 z19 z13 v_p0_bestRow)))))) (fun (J18 : Int → Int → (Int → Int) → (Int → Int) → (Int → Int) → Option (Int × (Int → Int) × (Int → Int) × (Int → Int) × (Int → Int))) => (lq6 (B_X12_fair_76 z9 J18 i_p0_seats i_p0_stirs v_p0_brings x1) 1000 z12 z11 z10 v_p0_st v_p0_places v_p0_stirred))))))))))))) else (some ((-4 : Int), v_p0_st, v_p0_places, v_p0_stirred, v_p0_bestRow)))))) (fun (J5 : Option (Int × (Int → Int) × (Int → Int) × (Int → Int) × (Int → Int))) => (if x2 = (0 : Int) then (J5) else (bd1 (f_X12_in x2 (10 : Int) (13 : Int)) (fun (z53 : Int) => (ck (z_r32 z53) (if z53 = (0 : Int) then (some ((-1 : Int), v_p0_st, v_p0_places, v_p0_stirred, v_p0_bestRow)) else (J5))))))))))))))
abbrev rm_X12_fair : Room := { frames := 5, cells := 0, slots := 0, locals := 119 }
theorem mwX12_fair_0 : Cond.constantLong RX12 193 (4) ∈ wsX12_fair := by first | exact List.mem_of_getElem? (i := 1) rfl | decide +kernel
theorem inX12_fair_X12 : ∀ w ∈ wsX120, w ∈ wsX12_fair := by first | exact fun w h => List.mem_cons_of_mem _ (List.mem_append_right _ h) | decide +kernel
theorem mwX12_fair_2 : Cond.fieldLink RX12 103 "LadleKingsModel" "stirs" "I" ∈ wsX12_fair := by first | exact List.mem_of_getElem? (i := 4) rfl | decide +kernel
theorem mwX12_fair_3 : Cond.constant RX12 271 (1000000) ∈ wsX12_fair := by first | exact List.mem_of_getElem? (i := 5) rfl | decide +kernel
theorem mwX12_fair_4 : Cond.fieldLink RX12 69 "LadleKingsModel" "bestRow" "[I" ∈ wsX12_fair := by first | exact List.mem_of_getElem? (i := 6) rfl | decide +kernel
theorem hdV_yX12_unlikeBy_RX12 : yX12_unlikeBy.cls = RX12 ∧ yX12_unlikeBy.cls ≠ "java/lang/invoke/MethodHandle" ∧ yX12_unlikeBy.cls ≠ "java/lang/invoke/VarHandle" ∧ (parseMethodDescriptor yX12_unlikeBy.desc).map (fun d => d.parameters.length) = some 2 := by decide +kernel
theorem mwX12_fair_6 : Cond.constantLong RX12 236 (10) ∈ wsX12_fair := by first | exact List.mem_of_getElem? (i := 2) rfl | decide +kernel
theorem mwX12_fair_7 : Cond.constantLong RX12 301 (13) ∈ wsX12_fair := by first | exact List.mem_of_getElem? (i := 3) rfl | decide +kernel
set_option maxHeartbeats 8000000 in
set_option maxRecDepth 100000 in
theorem c_X12_fair (l : Launch) (D : va_G) (G : Nat → ClassId) (sz : Nat) (a_p0 : Nat) (a_p0_st : Nat) (a_p0_isKept : Nat) (a_p0_brings : Nat) (a_p0_need : Nat) (a_p0_draft : Nat) (a_p0_dStir : Nat) (a_p0_dNeed : Nat) (a_p0_tape : Nat) (a_p0_places : Nat) (a_p0_stirred : Nat) (a_p0_ways : Nat) (a_p0_waysThen : Nat) (a_p0_stays : Nat) (a_p0_fewest : Nat) (a_p0_bowls : Nat) (a_p0_has : Nat) (a_p0_goesOn : Nat) (a_p0_isThere : Nat) (a_p0_isThereThen : Nat) (a_p0_bestRow : Nat) (a_p0_lanes : Nat) (a_p0_sizes : Nat) (a_p0_cells : Nat) (i_p0_seats : Int) (i_p0_stirs : Int) (i_p0_dSeats : Int) (i_p0_dStirs : Int) (i_p0_told : Int) (i_p0_highest : Int) (i_p0_taped : Int) (i_p0_pos : Int) (i_p0_from : Int) (i_p0_sort : Int) (i_p0_value : Int) (i_p0_fault : Int) (i_p0_wrongAt : Int) (i_p0_torn : Int) (v_p0_st : (Int → Int)) (v_p0_brings : (Int → Int)) (v_p0_places : (Int → Int)) (v_p0_stirred : (Int → Int)) (v_p0_bestRow : (Int → Int)) (x1 : Int) (x2 : Int) (r : Int) (o_v_p0_st : (Int → Int)) (o_v_p0_places : (Int → Int)) (o_v_p0_stirred : (Int → Int)) (o_v_p0_bestRow : (Int → Int)) (hf : f_X12_fair i_p0_seats i_p0_stirs v_p0_st v_p0_brings v_p0_places v_p0_stirred v_p0_bestRow x1 x2 = some (r, o_v_p0_st, o_v_p0_places, o_v_p0_stirred, o_v_p0_bestRow)) : Met l yX12_fair wsX12_fair rm_X12_fair (pcG D G [.ref a_p0, .int (Int32.ofInt x1), .int (Int32.ofInt x2)] sz [(a_p0, .inr (12, [.ref a_p0_st, .ref a_p0_isKept, .int (Int32.ofInt i_p0_seats), .int (Int32.ofInt i_p0_stirs), .ref a_p0_brings, .ref a_p0_need, .ref a_p0_draft, .int (Int32.ofInt i_p0_dSeats), .int (Int32.ofInt i_p0_dStirs), .ref a_p0_dStir, .ref a_p0_dNeed, .int (Int32.ofInt i_p0_told), .int (Int32.ofInt i_p0_highest), .ref a_p0_tape, .int (Int32.ofInt i_p0_taped), .int (Int32.ofInt i_p0_pos), .int (Int32.ofInt i_p0_from), .int (Int32.ofInt i_p0_sort), .int (Int32.ofInt i_p0_value), .int (Int32.ofInt i_p0_fault), .int (Int32.ofInt i_p0_wrongAt), .ref a_p0_places, .ref a_p0_stirred, .ref a_p0_ways, .ref a_p0_waysThen, .ref a_p0_stays, .ref a_p0_fewest, .ref a_p0_bowls, .ref a_p0_has, .ref a_p0_goesOn, .ref a_p0_isThere, .ref a_p0_isThereThen, .ref a_p0_bestRow, .ref a_p0_lanes, .ref a_p0_sizes, .ref a_p0_cells, .int (Int32.ofInt i_p0_torn)])), (a_p0_st, .inl (G 1, 152, .inl (zA v_p0_st))), (a_p0_brings, .inl (G 1, 35, .inl (zA v_p0_brings))), (a_p0_places, .inl (G 1, 7, .inl (zA v_p0_places))), (a_p0_stirred, .inl (G 1, 7, .inl (zA v_p0_stirred))), (a_p0_bestRow, .inl (G 1, 4, .inl (zA v_p0_bestRow)))]) (qcI D G (Int32.ofInt r) [(a_p0, .inr (12, [.ref a_p0_st, .ref a_p0_isKept, .int (Int32.ofInt i_p0_seats), .int (Int32.ofInt i_p0_stirs), .ref a_p0_brings, .ref a_p0_need, .ref a_p0_draft, .int (Int32.ofInt i_p0_dSeats), .int (Int32.ofInt i_p0_dStirs), .ref a_p0_dStir, .ref a_p0_dNeed, .int (Int32.ofInt i_p0_told), .int (Int32.ofInt i_p0_highest), .ref a_p0_tape, .int (Int32.ofInt i_p0_taped), .int (Int32.ofInt i_p0_pos), .int (Int32.ofInt i_p0_from), .int (Int32.ofInt i_p0_sort), .int (Int32.ofInt i_p0_value), .int (Int32.ofInt i_p0_fault), .int (Int32.ofInt i_p0_wrongAt), .ref a_p0_places, .ref a_p0_stirred, .ref a_p0_ways, .ref a_p0_waysThen, .ref a_p0_stays, .ref a_p0_fewest, .ref a_p0_bowls, .ref a_p0_has, .ref a_p0_goesOn, .ref a_p0_isThere, .ref a_p0_isThereThen, .ref a_p0_bestRow, .ref a_p0_lanes, .ref a_p0_sizes, .ref a_p0_cells, .int (Int32.ofInt i_p0_torn)])), (a_p0_st, .inl (G 1, 152, .inl (zA o_v_p0_st))), (a_p0_brings, .inl (G 1, 35, .inl (zA v_p0_brings))), (a_p0_places, .inl (G 1, 7, .inl (zA o_v_p0_places))), (a_p0_stirred, .inl (G 1, 7, .inl (zA o_v_p0_stirred))), (a_p0_bestRow, .inl (G 1, 4, .inl (zA o_v_p0_bestRow)))] (va_A [(a_p0, .inr (12, [.ref a_p0_st, .ref a_p0_isKept, .int (Int32.ofInt i_p0_seats), .int (Int32.ofInt i_p0_stirs), .ref a_p0_brings, .ref a_p0_need, .ref a_p0_draft, .int (Int32.ofInt i_p0_dSeats), .int (Int32.ofInt i_p0_dStirs), .ref a_p0_dStir, .ref a_p0_dNeed, .int (Int32.ofInt i_p0_told), .int (Int32.ofInt i_p0_highest), .ref a_p0_tape, .int (Int32.ofInt i_p0_taped), .int (Int32.ofInt i_p0_pos), .int (Int32.ofInt i_p0_from), .int (Int32.ofInt i_p0_sort), .int (Int32.ofInt i_p0_value), .int (Int32.ofInt i_p0_fault), .int (Int32.ofInt i_p0_wrongAt), .ref a_p0_places, .ref a_p0_stirred, .ref a_p0_ways, .ref a_p0_waysThen, .ref a_p0_stays, .ref a_p0_fewest, .ref a_p0_bowls, .ref a_p0_has, .ref a_p0_goesOn, .ref a_p0_isThere, .ref a_p0_isThereThen, .ref a_p0_bestRow, .ref a_p0_lanes, .ref a_p0_sizes, .ref a_p0_cells, .int (Int32.ofInt i_p0_torn)])), (a_p0_st, .inl (G 1, 152, .inl (zA v_p0_st))), (a_p0_brings, .inl (G 1, 35, .inl (zA v_p0_brings))), (a_p0_places, .inl (G 1, 7, .inl (zA v_p0_places))), (a_p0_stirred, .inl (G 1, 7, .inl (zA v_p0_stirred))), (a_p0_bestRow, .inl (G 1, 4, .inl (zA v_p0_bestRow)))] sz)) 0 0 (va_A [(a_p0, .inr (12, [.ref a_p0_st, .ref a_p0_isKept, .int (Int32.ofInt i_p0_seats), .int (Int32.ofInt i_p0_stirs), .ref a_p0_brings, .ref a_p0_need, .ref a_p0_draft, .int (Int32.ofInt i_p0_dSeats), .int (Int32.ofInt i_p0_dStirs), .ref a_p0_dStir, .ref a_p0_dNeed, .int (Int32.ofInt i_p0_told), .int (Int32.ofInt i_p0_highest), .ref a_p0_tape, .int (Int32.ofInt i_p0_taped), .int (Int32.ofInt i_p0_pos), .int (Int32.ofInt i_p0_from), .int (Int32.ofInt i_p0_sort), .int (Int32.ofInt i_p0_value), .int (Int32.ofInt i_p0_fault), .int (Int32.ofInt i_p0_wrongAt), .ref a_p0_places, .ref a_p0_stirred, .ref a_p0_ways, .ref a_p0_waysThen, .ref a_p0_stays, .ref a_p0_fewest, .ref a_p0_bowls, .ref a_p0_has, .ref a_p0_goesOn, .ref a_p0_isThere, .ref a_p0_isThereThen, .ref a_p0_bestRow, .ref a_p0_lanes, .ref a_p0_sizes, .ref a_p0_cells, .int (Int32.ofInt i_p0_torn)])), (a_p0_st, .inl (G 1, 152, .inl (zA v_p0_st))), (a_p0_brings, .inl (G 1, 35, .inl (zA v_p0_brings))), (a_p0_places, .inl (G 1, 7, .inl (zA v_p0_places))), (a_p0_stirred, .inl (G 1, 7, .inl (zA v_p0_stirred))), (a_p0_bestRow, .inl (G 1, 4, .inl (zA v_p0_bestRow)))] sz) := by
  refine Met.ofW (cc := cX12_fair) (maxL := 8) (ret := (some .int)) (by decide) rfl ?_
  intro p e s m args below meth c s₁ B hml hv
  obtain ⟨rfl, hsz, hP, hK, hD0⟩ := hv
  have hx := B.exec
  have hb := B.bytes
  have hr := B.returns
  have hts := atoms_spec (ws := wsX12_fair) B.pre
  have hown : s.vm.findClass RX12 = some m.cls := findClass_of_methodNamed B.named
  have hlocks := B.notSynchronized
  subst hsz
  have hD := hD0.self (sz := s.heap.size)
  generalize hAe : va_A [(a_p0, .inr (12, [.ref a_p0_st, .ref a_p0_isKept, .int (Int32.ofInt i_p0_seats), .int (Int32.ofInt i_p0_stirs), .ref a_p0_brings, .ref a_p0_need, .ref a_p0_draft, .int (Int32.ofInt i_p0_dSeats), .int (Int32.ofInt i_p0_dStirs), .ref a_p0_dStir, .ref a_p0_dNeed, .int (Int32.ofInt i_p0_told), .int (Int32.ofInt i_p0_highest), .ref a_p0_tape, .int (Int32.ofInt i_p0_taped), .int (Int32.ofInt i_p0_pos), .int (Int32.ofInt i_p0_from), .int (Int32.ofInt i_p0_sort), .int (Int32.ofInt i_p0_value), .int (Int32.ofInt i_p0_fault), .int (Int32.ofInt i_p0_wrongAt), .ref a_p0_places, .ref a_p0_stirred, .ref a_p0_ways, .ref a_p0_waysThen, .ref a_p0_stays, .ref a_p0_fewest, .ref a_p0_bowls, .ref a_p0_has, .ref a_p0_goesOn, .ref a_p0_isThere, .ref a_p0_isThereThen, .ref a_p0_bestRow, .ref a_p0_lanes, .ref a_p0_sizes, .ref a_p0_cells, .int (Int32.ofInt i_p0_torn)])), (a_p0_st, .inl (G 1, 152, .inl (zA v_p0_st))), (a_p0_brings, .inl (G 1, 35, .inl (zA v_p0_brings))), (a_p0_places, .inl (G 1, 7, .inl (zA v_p0_places))), (a_p0_stirred, .inl (G 1, 7, .inl (zA v_p0_stirred))), (a_p0_bestRow, .inl (G 1, 4, .inl (zA v_p0_bestRow)))] s.heap.size = A at hD ⊢
  have hA : ∀ q : Nat, s.heap.size ≤ q → A q := fun q h => by rw [← hAe]; exact Or.inr h
  clear hAe hD0
  have hS : va_S A s.heap s.heap [] := va_S.rf
  have hl := lv_entry ([.ref a_p0, .int (Int32.ofInt x1), .int (Int32.ofInt x2)]) (n := 8) (Nat.le_of_ble_eq_true rfl)
  rw [lg_entry_eq]
  generalize (lg_sl ([.ref a_p0, .int (Int32.ofInt x1), .int (Int32.ofInt x2)]) ++ List.replicate (8 - (lg_sl ([.ref a_p0, .int (Int32.ofInt x1), .int (Int32.ofInt x2)])).length) Slot.unset).toArray = ls at hl ⊢
  have hl : lv_has ls 8 [(0, .ref a_p0), (1, .int (Int32.ofInt x1)), (2, .int (Int32.ofInt x2))] := hl
  refine W_nameQ (fun Q hQ => ?_)
  obtain ⟨H, hH⟩ : ∃ H, H = s.heap := ⟨_, rfl⟩
  replace hS : va_S A s.heap H [] := by rw [hH]; exact hS
  replace hP : va_P D vwCl [(a_p0, .inr (12, [.ref a_p0_st, .ref a_p0_isKept, .int (Int32.ofInt i_p0_seats), .int (Int32.ofInt i_p0_stirs), .ref a_p0_brings, .ref a_p0_need, .ref a_p0_draft, .int (Int32.ofInt i_p0_dSeats), .int (Int32.ofInt i_p0_dStirs), .ref a_p0_dStir, .ref a_p0_dNeed, .int (Int32.ofInt i_p0_told), .int (Int32.ofInt i_p0_highest), .ref a_p0_tape, .int (Int32.ofInt i_p0_taped), .int (Int32.ofInt i_p0_pos), .int (Int32.ofInt i_p0_from), .int (Int32.ofInt i_p0_sort), .int (Int32.ofInt i_p0_value), .int (Int32.ofInt i_p0_fault), .int (Int32.ofInt i_p0_wrongAt), .ref a_p0_places, .ref a_p0_stirred, .ref a_p0_ways, .ref a_p0_waysThen, .ref a_p0_stays, .ref a_p0_fewest, .ref a_p0_bowls, .ref a_p0_has, .ref a_p0_goesOn, .ref a_p0_isThere, .ref a_p0_isThereThen, .ref a_p0_bestRow, .ref a_p0_lanes, .ref a_p0_sizes, .ref a_p0_cells, .int (Int32.ofInt i_p0_torn)])), (a_p0_st, .inl (G 1, 152, .inl (zA v_p0_st))), (a_p0_brings, .inl (G 1, 35, .inl (zA v_p0_brings))), (a_p0_places, .inl (G 1, 7, .inl (zA v_p0_places))), (a_p0_stirred, .inl (G 1, 7, .inl (zA v_p0_stirred))), (a_p0_bestRow, .inl (G 1, 4, .inl (zA v_p0_bestRow)))] H := by rw [hH]; exact hP
  rw [← hH]
  clear hH
  unfold f_X12_fair at hf
  refine lv_iload_n hx hb dX12_fair_0 rfl (lv_at hl 1 rfl) ?_
  have hr0 := ck_c hf
  replace hf := ck_r hf
  refine lv_i2l (v := Int64.ofInt x1) hx hb dX12_fair_1 (z_i2l hr0) ?_
  refine lv_lconst (v := Int64.ofInt (1 : Int)) hx hb dX12_fair_2 (by decide) ?_
  refine lv_ldc2 (v := (4 : Int64)) hx hb hown (hts _ mwX12_fair_0) dX12_fair_3 (z_cl (show Int64.ofInt (4 : Int) = _ from by decide) ?_)
  have hq := bd1_s hf
  clear hf
  obtain ⟨z2, hcall, hf⟩ := hq
  refine gnI (va_runS (As := [.long (Int64.ofInt x1), .long (Int64.ofInt (1 : Int)), .long (Int64.ofInt (4 : Int))]) (rest := []) ⟨hx, hb, hml, hown, hts⟩ (c_X12_in (l := l) (D := D) (G := G) (sz := H.size) (x0 := x1) (x2 := (1 : Int)) (x4 := (4 : Int)) (r := z2) (hf := hcall)) (va_cwS 3 hts gX12_fair_X12_in rfl rfl rfl (by decide +kernel) ⟨Nat.le_of_ble_eq_true rfl, Nat.le_of_ble_eq_true rfl⟩) (preG_S (hP.sub [] rfl) (hD.sub [] rfl rfl) hK) rfl rfl hl.1 rfl (lv_room (Nat.le_of_ble_eq_true rfl)) dX12_fair_6 ⟨Nat.le_of_ble_eq_true rfl, Nat.le_of_ble_eq_true rfl⟩) hP hD hS hA [] rfl (fun H locs hP hD hS => ?_)
  clear hcall
  have hr2 := ck_c hf
  replace hf := ck_r hf
  refine lv_if_eq (tgt := 30) hx hb dX12_fair_9 (by decide) (fun cc => ?_) (fun cc => ?_)
  ·
    replace hf := ite_t ((z_eq0 hr2).mp cc) hf
    clear cc
    refine lv_iconst (v := Int32.ofInt (-1 : Int)) hx hb dX12_fair_30 (by decide) ?_
    obtain ⟨rfl, rfl, rfl, rfl, rfl⟩ := ou5 hf
    rw [hQ]
    exact W.iret hx hb hr (fun t ht hW => ⟨⟨_, (), rfl, rfl, by rw [ht]; exact hP, va_K.moved hW.alike hK, hD⟩, hS.F ht⟩) hS.2.2 dX12_fair_31
  ·
    replace hf := ite_f (fun h9 => cc ((z_eq0 hr2).mpr h9)) hf
    clear cc
    refine lv_iload_n hx hb dX12_fair_12 rfl (lv_at hl 2 rfl) ?_
    have hr3 := ck_c hf
    replace hf := ck_r hf
    have hq := jn_i hf
    clear hf
    obtain ⟨J5, eJ5, hf⟩ := hq
    have hJ5 : ∀  (ls : Array Slot) (H : Heap) (locs : List Loc), lv_has ls 8 [(0, .ref a_p0), (1, .int (Int32.ofInt x1)), (2, .int (Int32.ofInt x2))] → va_P D vwCl [(a_p0, .inr (12, [.ref a_p0_st, .ref a_p0_isKept, .int (Int32.ofInt i_p0_seats), .int (Int32.ofInt i_p0_stirs), .ref a_p0_brings, .ref a_p0_need, .ref a_p0_draft, .int (Int32.ofInt i_p0_dSeats), .int (Int32.ofInt i_p0_dStirs), .ref a_p0_dStir, .ref a_p0_dNeed, .int (Int32.ofInt i_p0_told), .int (Int32.ofInt i_p0_highest), .ref a_p0_tape, .int (Int32.ofInt i_p0_taped), .int (Int32.ofInt i_p0_pos), .int (Int32.ofInt i_p0_from), .int (Int32.ofInt i_p0_sort), .int (Int32.ofInt i_p0_value), .int (Int32.ofInt i_p0_fault), .int (Int32.ofInt i_p0_wrongAt), .ref a_p0_places, .ref a_p0_stirred, .ref a_p0_ways, .ref a_p0_waysThen, .ref a_p0_stays, .ref a_p0_fewest, .ref a_p0_bowls, .ref a_p0_has, .ref a_p0_goesOn, .ref a_p0_isThere, .ref a_p0_isThereThen, .ref a_p0_bestRow, .ref a_p0_lanes, .ref a_p0_sizes, .ref a_p0_cells, .int (Int32.ofInt i_p0_torn)])), (a_p0_st, .inl (G 1, 152, .inl (zA v_p0_st))), (a_p0_brings, .inl (G 1, 35, .inl (zA v_p0_brings))), (a_p0_places, .inl (G 1, 7, .inl (zA v_p0_places))), (a_p0_stirred, .inl (G 1, 7, .inl (zA v_p0_stirred))), (a_p0_bestRow, .inl (G 1, 4, .inl (zA v_p0_bestRow)))] H → va_D A [(a_p0, .inr (12, [.ref a_p0_st, .ref a_p0_isKept, .int (Int32.ofInt i_p0_seats), .int (Int32.ofInt i_p0_stirs), .ref a_p0_brings, .ref a_p0_need, .ref a_p0_draft, .int (Int32.ofInt i_p0_dSeats), .int (Int32.ofInt i_p0_dStirs), .ref a_p0_dStir, .ref a_p0_dNeed, .int (Int32.ofInt i_p0_told), .int (Int32.ofInt i_p0_highest), .ref a_p0_tape, .int (Int32.ofInt i_p0_taped), .int (Int32.ofInt i_p0_pos), .int (Int32.ofInt i_p0_from), .int (Int32.ofInt i_p0_sort), .int (Int32.ofInt i_p0_value), .int (Int32.ofInt i_p0_fault), .int (Int32.ofInt i_p0_wrongAt), .ref a_p0_places, .ref a_p0_stirred, .ref a_p0_ways, .ref a_p0_waysThen, .ref a_p0_stays, .ref a_p0_fewest, .ref a_p0_bowls, .ref a_p0_has, .ref a_p0_goesOn, .ref a_p0_isThere, .ref a_p0_isThereThen, .ref a_p0_bestRow, .ref a_p0_lanes, .ref a_p0_sizes, .ref a_p0_cells, .int (Int32.ofInt i_p0_torn)])), (a_p0_st, .inl (G 1, 152, .inl (zA v_p0_st))), (a_p0_brings, .inl (G 1, 35, .inl (zA v_p0_brings))), (a_p0_places, .inl (G 1, 7, .inl (zA v_p0_places))), (a_p0_stirred, .inl (G 1, 7, .inl (zA v_p0_stirred))), (a_p0_bestRow, .inl (G 1, 4, .inl (zA v_p0_bestRow)))] → va_S A s.heap H locs → J5  = some (r, o_v_p0_st, o_v_p0_places, o_v_p0_stirred, o_v_p0_bestRow) → W p l e rm_X12_fair s m ([.ref a_p0, .int (Int32.ofInt x1), .int (Int32.ofInt x2)] : List Value).toArray below meth c H locs 0 0 Q (F0 m 32 ls []) := by
      clear hf hl hP hD hS
      intro  ls H locs hl hP hD hS hf
      replace hf := jn0_s eJ5 hf
      refine lv_aload_n hx hb dX12_fair_32 rfl (lv_at hl 0 rfl) ?_
      refine va_get (D := D) (ci := 12) (v := .int (Int32.ofInt i_p0_stirs)) (C := RX12) (T := TX12) (N := 37) hx hb hts inX12_fair_X12 hown hK hP 0 rfl rfl 3 (by decide) (hts _ mwX12_fair_2) (fun _ h9 => h9) rfl dX12_fair_33 ?_
      have hr5 := ck_c hf
      replace hf := ck_r hf
      refine lv_if_ne (tgt := 42) hx hb dX12_fair_36 (by decide) (fun cc => ?_) (fun cc => ?_)
      ·
        replace hf := ite_f (fun h9 => cc ((z_eq0 hr5).mpr h9)) hf
        clear cc
        refine lv_iload_n hx hb dX12_fair_42 rfl (lv_at hl 2 rfl) ?_
        refine lv_bipush (v := Int32.ofInt (10 : Int)) hx hb dX12_fair_43 (by decide) ?_
        refine lv_isub hx hb dX12_fair_45 (z_ci (Int32.ofInt_sub x2 (10 : Int)) ?_)
        refine lv_iload_n hx hb dX12_fair_46 rfl (lv_at hl 1 rfl) ?_
        have hr6 := ck_c hf
        replace hf := ck_r hf
        refine lv_icmp_lt (tgt := 53) hx hb dX12_fair_47 (by decide) (fun cc => ?_) (fun cc => ?_)
        ·
          replace hf := ite_t ((z_lt hr6 hr0).mp cc) hf
          clear cc
          refine lv_aload_n hx hb dX12_fair_53 rfl (lv_at hl 0 rfl) ?_
          refine lv_aload_n hx hb dX12_fair_54 rfl (lv_at hl 0 rfl) ?_
          refine va_get (D := D) (ci := 12) (v := .int (Int32.ofInt i_p0_stirs)) (C := RX12) (T := TX12) (N := 37) hx hb hts inX12_fair_X12 hown hK hP 0 rfl rfl 3 (by decide) (hts _ mwX12_fair_2) (fun _ h9 => h9) rfl dX12_fair_55 ?_
          refine lv_i2l (v := Int64.ofInt i_p0_stirs) hx hb dX12_fair_58 (z_i2l hr5) ?_
          refine lv_iload_n hx hb dX12_fair_59 rfl (lv_at hl 1 rfl) ?_
          have hq := bd1_s hf
          clear hf
          obtain ⟨z8, hcall, hf⟩ := hq
          refine gnL (va_runV (As := [.long (Int64.ofInt i_p0_stirs), .int (Int32.ofInt x1)]) (rest := []) ⟨hx, hb, hml, hown, hts⟩ (c_X12_power (l := l) (D := D) (G := G) (sz := H.size) (a_p0 := a_p0) (a_p0_st := a_p0_st) (a_p0_isKept := a_p0_isKept) (a_p0_brings := a_p0_brings) (a_p0_need := a_p0_need) (a_p0_draft := a_p0_draft) (a_p0_dStir := a_p0_dStir) (a_p0_dNeed := a_p0_dNeed) (a_p0_tape := a_p0_tape) (a_p0_places := a_p0_places) (a_p0_stirred := a_p0_stirred) (a_p0_ways := a_p0_ways) (a_p0_waysThen := a_p0_waysThen) (a_p0_stays := a_p0_stays) (a_p0_fewest := a_p0_fewest) (a_p0_bowls := a_p0_bowls) (a_p0_has := a_p0_has) (a_p0_goesOn := a_p0_goesOn) (a_p0_isThere := a_p0_isThere) (a_p0_isThereThen := a_p0_isThereThen) (a_p0_bestRow := a_p0_bestRow) (a_p0_lanes := a_p0_lanes) (a_p0_sizes := a_p0_sizes) (a_p0_cells := a_p0_cells) (i_p0_seats := i_p0_seats) (i_p0_stirs := i_p0_stirs) (i_p0_dSeats := i_p0_dSeats) (i_p0_dStirs := i_p0_dStirs) (i_p0_told := i_p0_told) (i_p0_highest := i_p0_highest) (i_p0_taped := i_p0_taped) (i_p0_pos := i_p0_pos) (i_p0_from := i_p0_from) (i_p0_sort := i_p0_sort) (i_p0_value := i_p0_value) (i_p0_fault := i_p0_fault) (i_p0_wrongAt := i_p0_wrongAt) (i_p0_torn := i_p0_torn) (x1 := i_p0_stirs) (x3 := x1) (r := z8) (hf := hcall)) (cwV 2 hts gX12_fair_X12_power rfl rfl rfl hdV_yX12_power_RX12 ⟨Nat.le_of_ble_eq_true rfl, Nat.le_of_ble_eq_true rfl⟩) (preG_V (ci := 12) (q := (RX12, TX12, 37)) (hP.sub [0] rfl) (hD.sub [0] rfl rfl) hK rfl rfl) rfl rfl hl.1 rfl (lv_room (Nat.le_of_ble_eq_true rfl)) dX12_fair_60 ⟨Nat.le_of_ble_eq_true rfl, Nat.le_of_ble_eq_true rfl⟩) hP hD hS hA [0] rfl (fun H locs hP hD hS => ?_)
          clear hcall
          refine lv_l2i (v := Int32.ofInt z8) hx hb dX12_fair_63 Int64.toInt32_ofInt ?_
          refine z_topi (fun z9 ez => ?_)
          replace hf := bnd_s hf ez
          clear ez
          refine lv_istore_n (lv' := [(3, .int (Int32.ofInt z9)), (0, .ref a_p0), (1, .int (Int32.ofInt x1)), (2, .int (Int32.ofInt x2))]) hx hb dX12_fair_64 rfl hl (by decide) rfl (fun ls hl => ?_)
          refine lv_iconst (v := Int32.ofInt (0 : Int)) hx hb dX12_fair_65 (by decide) ?_
          refine z_topi (fun z10 ez => ?_)
          replace hf := bnd_s hf ez
          clear ez
          refine lv_istore (lv' := [(4, .int (Int32.ofInt z10)), (3, .int (Int32.ofInt z9)), (0, .ref a_p0), (1, .int (Int32.ofInt x1)), (2, .int (Int32.ofInt x2))]) hx hb dX12_fair_66 hl (by decide) rfl (fun ls hl => ?_)
          refine lv_ldcw (v := (1000000 : Int32)) hx hb hown (hts _ mwX12_fair_3) dX12_fair_68 (z_ci (show Int32.ofInt (1000000 : Int) = _ from by decide) ?_)
          refine z_topi (fun z11 ez => ?_)
          replace hf := bnd_s hf ez
          clear ez
          refine lv_istore (lv' := [(5, .int (Int32.ofInt z11)), (4, .int (Int32.ofInt z10)), (3, .int (Int32.ofInt z9)), (0, .ref a_p0), (1, .int (Int32.ofInt x1)), (2, .int (Int32.ofInt x2))]) hx hb dX12_fair_71 hl (by decide) rfl (fun ls hl => ?_)
          refine lv_iconst (v := Int32.ofInt (0 : Int)) hx hb dX12_fair_73 (by decide) ?_
          refine z_topi (fun z12 ez => ?_)
          replace hf := bnd_s hf ez
          clear ez
          refine lv_istore (lv' := [(6, .int (Int32.ofInt z12)), (5, .int (Int32.ofInt z11)), (4, .int (Int32.ofInt z10)), (3, .int (Int32.ofInt z9)), (0, .ref a_p0), (1, .int (Int32.ofInt x1)), (2, .int (Int32.ofInt x2))]) hx hb dX12_fair_74 hl (by decide) rfl (fun ls hl => ?_)
          have hq := jn_i hf
          clear hf
          obtain ⟨J18, eJ18, hf⟩ := hq
          have hJ18 : ∀ (z13 : Int) (z14 : Int) (w15 : (Int → Int)) (w16 : (Int → Int)) (w17 : (Int → Int)) (ls : Array Slot) (H : Heap) (locs : List Loc), lv_has ls 8 [(5, .int (Int32.ofInt z14)), (4, .int (Int32.ofInt z13)), (0, .ref a_p0), (1, .int (Int32.ofInt x1)), (2, .int (Int32.ofInt x2))] → va_P D vwCl [(a_p0, .inr (12, [.ref a_p0_st, .ref a_p0_isKept, .int (Int32.ofInt i_p0_seats), .int (Int32.ofInt i_p0_stirs), .ref a_p0_brings, .ref a_p0_need, .ref a_p0_draft, .int (Int32.ofInt i_p0_dSeats), .int (Int32.ofInt i_p0_dStirs), .ref a_p0_dStir, .ref a_p0_dNeed, .int (Int32.ofInt i_p0_told), .int (Int32.ofInt i_p0_highest), .ref a_p0_tape, .int (Int32.ofInt i_p0_taped), .int (Int32.ofInt i_p0_pos), .int (Int32.ofInt i_p0_from), .int (Int32.ofInt i_p0_sort), .int (Int32.ofInt i_p0_value), .int (Int32.ofInt i_p0_fault), .int (Int32.ofInt i_p0_wrongAt), .ref a_p0_places, .ref a_p0_stirred, .ref a_p0_ways, .ref a_p0_waysThen, .ref a_p0_stays, .ref a_p0_fewest, .ref a_p0_bowls, .ref a_p0_has, .ref a_p0_goesOn, .ref a_p0_isThere, .ref a_p0_isThereThen, .ref a_p0_bestRow, .ref a_p0_lanes, .ref a_p0_sizes, .ref a_p0_cells, .int (Int32.ofInt i_p0_torn)])), (a_p0_st, .inl (G 1, 152, .inl (zA w15))), (a_p0_brings, .inl (G 1, 35, .inl (zA v_p0_brings))), (a_p0_places, .inl (G 1, 7, .inl (zA w16))), (a_p0_stirred, .inl (G 1, 7, .inl (zA w17))), (a_p0_bestRow, .inl (G 1, 4, .inl (zA v_p0_bestRow)))] H → va_D A [(a_p0, .inr (12, [.ref a_p0_st, .ref a_p0_isKept, .int (Int32.ofInt i_p0_seats), .int (Int32.ofInt i_p0_stirs), .ref a_p0_brings, .ref a_p0_need, .ref a_p0_draft, .int (Int32.ofInt i_p0_dSeats), .int (Int32.ofInt i_p0_dStirs), .ref a_p0_dStir, .ref a_p0_dNeed, .int (Int32.ofInt i_p0_told), .int (Int32.ofInt i_p0_highest), .ref a_p0_tape, .int (Int32.ofInt i_p0_taped), .int (Int32.ofInt i_p0_pos), .int (Int32.ofInt i_p0_from), .int (Int32.ofInt i_p0_sort), .int (Int32.ofInt i_p0_value), .int (Int32.ofInt i_p0_fault), .int (Int32.ofInt i_p0_wrongAt), .ref a_p0_places, .ref a_p0_stirred, .ref a_p0_ways, .ref a_p0_waysThen, .ref a_p0_stays, .ref a_p0_fewest, .ref a_p0_bowls, .ref a_p0_has, .ref a_p0_goesOn, .ref a_p0_isThere, .ref a_p0_isThereThen, .ref a_p0_bestRow, .ref a_p0_lanes, .ref a_p0_sizes, .ref a_p0_cells, .int (Int32.ofInt i_p0_torn)])), (a_p0_st, .inl (G 1, 152, .inl (zA w15))), (a_p0_brings, .inl (G 1, 35, .inl (zA v_p0_brings))), (a_p0_places, .inl (G 1, 7, .inl (zA w16))), (a_p0_stirred, .inl (G 1, 7, .inl (zA w17))), (a_p0_bestRow, .inl (G 1, 4, .inl (zA v_p0_bestRow)))] → va_S A s.heap H locs → J18 z13 z14 w15 w16 w17 = some (r, o_v_p0_st, o_v_p0_places, o_v_p0_stirred, o_v_p0_bestRow) → W p l e rm_X12_fair s m ([.ref a_p0, .int (Int32.ofInt x1), .int (Int32.ofInt x2)] : List Value).toArray below meth c H locs 0 0 Q (F0 m 129 ls []) := by
            clear hf hl hP hD hS
            intro z13 z14 w15 w16 w17 ls H locs hl hP hD hS hf
            replace hf := jn5_s eJ18 hf
            refine lv_iload_n hx hb dX12_fair_129 rfl (lv_at hl 3 rfl) ?_
            refine lv_iconst (v := Int32.ofInt (1 : Int)) hx hb dX12_fair_130 (by decide) ?_
            refine lv_isub hx hb dX12_fair_131 (z_ci (Int32.ofInt_sub x1 (1 : Int)) ?_)
            refine z_topi (fun z19 ez => ?_)
            replace hf := bnd_s hf ez
            clear ez
            refine lv_istore (lv' := [(6, .int (Int32.ofInt z19)), (5, .int (Int32.ofInt z14)), (4, .int (Int32.ofInt z13)), (0, .ref a_p0), (1, .int (Int32.ofInt x1)), (2, .int (Int32.ofInt x2))]) hx hb dX12_fair_132 hl (by decide) rfl (fun ls hl => ?_)
            have hq := jn_i hf
            clear hf
            obtain ⟨J21, eJ21, hf⟩ := hq
            have hJ21 : ∀ (w20 : (Int → Int)) (ls : Array Slot) (H : Heap) (locs : List Loc), lv_has ls 8 [(5, .int (Int32.ofInt z14)), (0, .ref a_p0), (2, .int (Int32.ofInt x2))] → va_P D vwCl [(a_p0, .inr (12, [.ref a_p0_st, .ref a_p0_isKept, .int (Int32.ofInt i_p0_seats), .int (Int32.ofInt i_p0_stirs), .ref a_p0_brings, .ref a_p0_need, .ref a_p0_draft, .int (Int32.ofInt i_p0_dSeats), .int (Int32.ofInt i_p0_dStirs), .ref a_p0_dStir, .ref a_p0_dNeed, .int (Int32.ofInt i_p0_told), .int (Int32.ofInt i_p0_highest), .ref a_p0_tape, .int (Int32.ofInt i_p0_taped), .int (Int32.ofInt i_p0_pos), .int (Int32.ofInt i_p0_from), .int (Int32.ofInt i_p0_sort), .int (Int32.ofInt i_p0_value), .int (Int32.ofInt i_p0_fault), .int (Int32.ofInt i_p0_wrongAt), .ref a_p0_places, .ref a_p0_stirred, .ref a_p0_ways, .ref a_p0_waysThen, .ref a_p0_stays, .ref a_p0_fewest, .ref a_p0_bowls, .ref a_p0_has, .ref a_p0_goesOn, .ref a_p0_isThere, .ref a_p0_isThereThen, .ref a_p0_bestRow, .ref a_p0_lanes, .ref a_p0_sizes, .ref a_p0_cells, .int (Int32.ofInt i_p0_torn)])), (a_p0_st, .inl (G 1, 152, .inl (zA w15))), (a_p0_brings, .inl (G 1, 35, .inl (zA v_p0_brings))), (a_p0_places, .inl (G 1, 7, .inl (zA w16))), (a_p0_stirred, .inl (G 1, 7, .inl (zA w17))), (a_p0_bestRow, .inl (G 1, 4, .inl (zA w20)))] H → va_D A [(a_p0, .inr (12, [.ref a_p0_st, .ref a_p0_isKept, .int (Int32.ofInt i_p0_seats), .int (Int32.ofInt i_p0_stirs), .ref a_p0_brings, .ref a_p0_need, .ref a_p0_draft, .int (Int32.ofInt i_p0_dSeats), .int (Int32.ofInt i_p0_dStirs), .ref a_p0_dStir, .ref a_p0_dNeed, .int (Int32.ofInt i_p0_told), .int (Int32.ofInt i_p0_highest), .ref a_p0_tape, .int (Int32.ofInt i_p0_taped), .int (Int32.ofInt i_p0_pos), .int (Int32.ofInt i_p0_from), .int (Int32.ofInt i_p0_sort), .int (Int32.ofInt i_p0_value), .int (Int32.ofInt i_p0_fault), .int (Int32.ofInt i_p0_wrongAt), .ref a_p0_places, .ref a_p0_stirred, .ref a_p0_ways, .ref a_p0_waysThen, .ref a_p0_stays, .ref a_p0_fewest, .ref a_p0_bowls, .ref a_p0_has, .ref a_p0_goesOn, .ref a_p0_isThere, .ref a_p0_isThereThen, .ref a_p0_bestRow, .ref a_p0_lanes, .ref a_p0_sizes, .ref a_p0_cells, .int (Int32.ofInt i_p0_torn)])), (a_p0_st, .inl (G 1, 152, .inl (zA w15))), (a_p0_brings, .inl (G 1, 35, .inl (zA v_p0_brings))), (a_p0_places, .inl (G 1, 7, .inl (zA w16))), (a_p0_stirred, .inl (G 1, 7, .inl (zA w17))), (a_p0_bestRow, .inl (G 1, 4, .inl (zA w20)))] → va_S A s.heap H locs → J21 w20 = some (r, o_v_p0_st, o_v_p0_places, o_v_p0_stirred, o_v_p0_bestRow) → W p l e rm_X12_fair s m ([.ref a_p0, .int (Int32.ofInt x1), .int (Int32.ofInt x2)] : List Value).toArray below meth c H locs 0 0 Q (F0 m 168 ls []) := by
              clear hf hl hP hD hS
              intro w20 ls H locs hl hP hD hS hf
              replace hf := jn1_s eJ21 hf
              refine lv_iload_n hx hb dX12_fair_168 rfl (lv_at hl 2 rfl) ?_
              refine lv_if_ne (tgt := 177) hx hb dX12_fair_169 (by decide) (fun cc => ?_) (fun cc => ?_)
              ·
                replace hf := ite_f (fun h9 => cc ((z_eq0 hr3).mpr h9)) hf
                clear cc
                refine lv_aload_n hx hb dX12_fair_177 rfl (lv_at hl 1 rfl) ?_
                refine va_get (D := D) (ci := 12) (v := .ref a_p0_bestRow) (C := RX12) (T := TX12) (N := 37) hx hb hts inX12_fair_X12 hown hK hP 0 rfl rfl 32 (by decide) (hts _ mwX12_fair_4) (fun _ h9 => h9) rfl dX12_fair_178 ?_
                refine lv_iload_n hx hb dX12_fair_181 rfl (lv_at hl 2 rfl) ?_
                refine lv_bipush (v := Int32.ofInt (10 : Int)) hx hb dX12_fair_182 (by decide) ?_
                refine lv_isub hx hb dX12_fair_184 (z_ci (Int32.ofInt_sub x2 (10 : Int)) ?_)
                have hc := ck_c hf
                replace hf := ck_r hf
                refine va_iald hx hb hK hP 5 1 rfl rfl (z_ix_in hc) dX12_fair_185 (z_ci (z_ald w20 hc) ?_)
                clear hc
                obtain ⟨rfl, rfl, rfl, rfl, rfl⟩ := ou5 hf
                rw [hQ]
                exact W.iret hx hb hr (fun t ht hW => ⟨⟨_, (), rfl, rfl, by rw [ht]; exact hP, va_K.moved hW.alike hK, hD⟩, hS.F ht⟩) hS.2.2 dX12_fair_186
              ·
                replace hf := ite_t ((z_eq0 hr3).mp cc) hf
                clear cc
                refine lv_iload hx hb dX12_fair_172 (lv_at hl 0 rfl) ?_
                refine lv_goto (tgt := 186) hx hb dX12_fair_174 (by decide) ?_
                obtain ⟨rfl, rfl, rfl, rfl, rfl⟩ := ou5 hf
                rw [hQ]
                exact W.iret hx hb hr (fun t ht hW => ⟨⟨_, (), rfl, rfl, by rw [ht]; exact hP, va_K.moved hW.alike hK, hD⟩, hS.F ht⟩) hS.2.2 dX12_fair_186
            have hq := lq3_i hf
            clear hf
            obtain ⟨B25, eB25, NB25, hf⟩ := hq
            have hB25 : ∀ (n : Nat) (z22 : Int) (z23 : Int) (w24 : (Int → Int)) (ls : Array Slot) (H : Heap) (locs : List Loc), lv_has ls 8 [(6, .int (Int32.ofInt z22)), (5, .int (Int32.ofInt z14)), (4, .int (Int32.ofInt z23)), (0, .ref a_p0), (2, .int (Int32.ofInt x2))] → va_P D vwCl [(a_p0, .inr (12, [.ref a_p0_st, .ref a_p0_isKept, .int (Int32.ofInt i_p0_seats), .int (Int32.ofInt i_p0_stirs), .ref a_p0_brings, .ref a_p0_need, .ref a_p0_draft, .int (Int32.ofInt i_p0_dSeats), .int (Int32.ofInt i_p0_dStirs), .ref a_p0_dStir, .ref a_p0_dNeed, .int (Int32.ofInt i_p0_told), .int (Int32.ofInt i_p0_highest), .ref a_p0_tape, .int (Int32.ofInt i_p0_taped), .int (Int32.ofInt i_p0_pos), .int (Int32.ofInt i_p0_from), .int (Int32.ofInt i_p0_sort), .int (Int32.ofInt i_p0_value), .int (Int32.ofInt i_p0_fault), .int (Int32.ofInt i_p0_wrongAt), .ref a_p0_places, .ref a_p0_stirred, .ref a_p0_ways, .ref a_p0_waysThen, .ref a_p0_stays, .ref a_p0_fewest, .ref a_p0_bowls, .ref a_p0_has, .ref a_p0_goesOn, .ref a_p0_isThere, .ref a_p0_isThereThen, .ref a_p0_bestRow, .ref a_p0_lanes, .ref a_p0_sizes, .ref a_p0_cells, .int (Int32.ofInt i_p0_torn)])), (a_p0_st, .inl (G 1, 152, .inl (zA w15))), (a_p0_brings, .inl (G 1, 35, .inl (zA v_p0_brings))), (a_p0_places, .inl (G 1, 7, .inl (zA w16))), (a_p0_stirred, .inl (G 1, 7, .inl (zA w17))), (a_p0_bestRow, .inl (G 1, 4, .inl (zA w24)))] H → va_D A [(a_p0, .inr (12, [.ref a_p0_st, .ref a_p0_isKept, .int (Int32.ofInt i_p0_seats), .int (Int32.ofInt i_p0_stirs), .ref a_p0_brings, .ref a_p0_need, .ref a_p0_draft, .int (Int32.ofInt i_p0_dSeats), .int (Int32.ofInt i_p0_dStirs), .ref a_p0_dStir, .ref a_p0_dNeed, .int (Int32.ofInt i_p0_told), .int (Int32.ofInt i_p0_highest), .ref a_p0_tape, .int (Int32.ofInt i_p0_taped), .int (Int32.ofInt i_p0_pos), .int (Int32.ofInt i_p0_from), .int (Int32.ofInt i_p0_sort), .int (Int32.ofInt i_p0_value), .int (Int32.ofInt i_p0_fault), .int (Int32.ofInt i_p0_wrongAt), .ref a_p0_places, .ref a_p0_stirred, .ref a_p0_ways, .ref a_p0_waysThen, .ref a_p0_stays, .ref a_p0_fewest, .ref a_p0_bowls, .ref a_p0_has, .ref a_p0_goesOn, .ref a_p0_isThere, .ref a_p0_isThereThen, .ref a_p0_bestRow, .ref a_p0_lanes, .ref a_p0_sizes, .ref a_p0_cells, .int (Int32.ofInt i_p0_torn)])), (a_p0_st, .inl (G 1, 152, .inl (zA w15))), (a_p0_brings, .inl (G 1, 35, .inl (zA v_p0_brings))), (a_p0_places, .inl (G 1, 7, .inl (zA w16))), (a_p0_stirred, .inl (G 1, 7, .inl (zA w17))), (a_p0_bestRow, .inl (G 1, 4, .inl (zA w24)))] → va_S A s.heap H locs → lq3 B25 n z22 z23 w24 = some (r, o_v_p0_st, o_v_p0_places, o_v_p0_stirred, o_v_p0_bestRow) → W p l e rm_X12_fair s m ([.ref a_p0, .int (Int32.ofInt x1), .int (Int32.ofInt x2)] : List Value).toArray below meth c H locs 0 0 Q (F0 m 134 ls []) := by
              clear hf hl hP hD hS
              intro n
              induction n with
              | zero =>
                intro z22 z23 w24 ls H locs hl hP hD hS hf
                exact (lq3_0 hf).elim
              | succ n ih134 =>
                intro z22 z23 w24 ls H locs hl hP hD hS hf
                replace hf := lq3_s eB25 hf
                unfold B_X12_fair_134 at hf
                refine lv_iload hx hb dX12_fair_134 (lv_at hl 0 rfl) ?_
                have hr25 := ck_c hf
                replace hf := ck_r hf
                refine lv_if_lt (tgt := 168) hx hb dX12_fair_136 (by decide) (fun cc => ?_) (fun cc => ?_)
                ·
                  replace hf := ite_t ((z_lt0 hr25).mp cc) hf
                  clear cc
                  exact hJ21 _ _ _ _ (lv_sub hl [1, 3, 4] rfl) hP hD hS hf
                ·
                  replace hf := ite_f (fun h9 => cc ((z_lt0 hr25).mpr h9)) hf
                  clear cc
                  refine lv_aload_n hx hb dX12_fair_139 rfl (lv_at hl 3 rfl) ?_
                  refine va_get (D := D) (ci := 12) (v := .ref a_p0_bestRow) (C := RX12) (T := TX12) (N := 37) hx hb hts inX12_fair_X12 hown hK hP 0 rfl rfl 32 (by decide) (hts _ mwX12_fair_4) (fun _ h9 => h9) rfl dX12_fair_140 ?_
                  refine lv_iload hx hb dX12_fair_143 (lv_at hl 0 rfl) ?_
                  refine lv_iload hx hb dX12_fair_145 (lv_at hl 2 rfl) ?_
                  refine lv_aload_n hx hb dX12_fair_147 rfl (lv_at hl 3 rfl) ?_
                  refine va_get (D := D) (ci := 12) (v := .int (Int32.ofInt i_p0_stirs)) (C := RX12) (T := TX12) (N := 37) hx hb hts inX12_fair_X12 hown hK hP 0 rfl rfl 3 (by decide) (hts _ mwX12_fair_2) (fun _ h9 => h9) rfl dX12_fair_148 ?_
                  have hc := ck_c hf
                  replace hf := ck_r hf
                  refine lv_irem hx hb dX12_fair_151 (z_nz hc) (z_ci (z_rem hc) ?_)
                  clear hc
                  have hc := ck_c hf
                  replace hf := ck_r hf
                  refine zs_iast (wf := fun w27 => [(a_p0, .inr (12, [.ref a_p0_st, .ref a_p0_isKept, .int (Int32.ofInt i_p0_seats), .int (Int32.ofInt i_p0_stirs), .ref a_p0_brings, .ref a_p0_need, .ref a_p0_draft, .int (Int32.ofInt i_p0_dSeats), .int (Int32.ofInt i_p0_dStirs), .ref a_p0_dStir, .ref a_p0_dNeed, .int (Int32.ofInt i_p0_told), .int (Int32.ofInt i_p0_highest), .ref a_p0_tape, .int (Int32.ofInt i_p0_taped), .int (Int32.ofInt i_p0_pos), .int (Int32.ofInt i_p0_from), .int (Int32.ofInt i_p0_sort), .int (Int32.ofInt i_p0_value), .int (Int32.ofInt i_p0_fault), .int (Int32.ofInt i_p0_wrongAt), .ref a_p0_places, .ref a_p0_stirred, .ref a_p0_ways, .ref a_p0_waysThen, .ref a_p0_stays, .ref a_p0_fewest, .ref a_p0_bowls, .ref a_p0_has, .ref a_p0_goesOn, .ref a_p0_isThere, .ref a_p0_isThereThen, .ref a_p0_bestRow, .ref a_p0_lanes, .ref a_p0_sizes, .ref a_p0_cells, .int (Int32.ofInt i_p0_torn)])), (a_p0_st, .inl (G 1, 152, .inl (zA w15))), (a_p0_brings, .inl (G 1, 35, .inl (zA v_p0_brings))), (a_p0_places, .inl (G 1, 7, .inl (zA w16))), (a_p0_stirred, .inl (G 1, 7, .inl (zA w17))), (a_p0_bestRow, .inl (G 1, 4, .inl (zA w27)))]) hx hb hK hP hD hS 5 1 rfl rfl hc dX12_fair_152 (fun _ => rfl) (fun w27 ez H locs hP hD hS => ?_)
                  replace hf := bnd_s hf ez
                  clear ez hc
                  refine lv_iload hx hb dX12_fair_153 (lv_at hl 2 rfl) ?_
                  refine lv_aload_n hx hb dX12_fair_155 rfl (lv_at hl 3 rfl) ?_
                  refine va_get (D := D) (ci := 12) (v := .int (Int32.ofInt i_p0_stirs)) (C := RX12) (T := TX12) (N := 37) hx hb hts inX12_fair_X12 hown hK hP 0 rfl rfl 3 (by decide) (hts _ mwX12_fair_2) (fun _ h9 => h9) rfl dX12_fair_156 ?_
                  have hc := ck_c hf
                  replace hf := ck_r hf
                  refine lv_idiv hx hb dX12_fair_159 (z_nz hc) (z_ci (z_div hc) ?_)
                  clear hc
                  refine z_topi (fun z28 ez => ?_)
                  replace hf := bnd_s hf ez
                  clear ez
                  refine lv_istore (lv' := [(4, .int (Int32.ofInt z28)), (6, .int (Int32.ofInt z22)), (5, .int (Int32.ofInt z14)), (0, .ref a_p0), (2, .int (Int32.ofInt x2))]) hx hb dX12_fair_160 hl (by decide) rfl (fun ls hl => ?_)
                  obtain ⟨z29, ez⟩ : ∃ y : Int, y = (z22 + (-1 : Int)) := ⟨_, rfl⟩
                  replace hf := bnd_s hf ez
                  refine lv_iinc (v := Int32.ofInt z29) (lv' := [(6, .int (Int32.ofInt z29)), (4, .int (Int32.ofInt z28)), (5, .int (Int32.ofInt z14)), (0, .ref a_p0), (2, .int (Int32.ofInt x2))]) hx hb dX12_fair_162 hl (k := 1) rfl (by rw [ez]; exact (Int32.ofInt_add _ _).symm) (by decide) rfl (fun ls hl => ?_)
                  clear ez
                  refine lv_goto (tgt := 134) hx hb dX12_fair_165 (by decide) ?_
                  exact ih134 _ _ _ _ _ _ (lv_sub hl [0, 2, 1, 3, 4] rfl) hP hD hS hf
            exact hB25 _ _ _ _ _ _ _ (lv_sub hl [0, 1, 2, 3, 5] rfl) hP hD hS hf
          have hq := lq6_i hf
          clear hf
          obtain ⟨B36, eB36, NB36, hf⟩ := hq
          have hB36 : ∀ (n : Nat) (z30 : Int) (z31 : Int) (z32 : Int) (w33 : (Int → Int)) (w34 : (Int → Int)) (w35 : (Int → Int)) (ls : Array Slot) (H : Heap) (locs : List Loc), lv_has ls 8 [(6, .int (Int32.ofInt z30)), (5, .int (Int32.ofInt z31)), (4, .int (Int32.ofInt z32)), (3, .int (Int32.ofInt z9)), (0, .ref a_p0), (1, .int (Int32.ofInt x1)), (2, .int (Int32.ofInt x2))] → va_P D vwCl [(a_p0, .inr (12, [.ref a_p0_st, .ref a_p0_isKept, .int (Int32.ofInt i_p0_seats), .int (Int32.ofInt i_p0_stirs), .ref a_p0_brings, .ref a_p0_need, .ref a_p0_draft, .int (Int32.ofInt i_p0_dSeats), .int (Int32.ofInt i_p0_dStirs), .ref a_p0_dStir, .ref a_p0_dNeed, .int (Int32.ofInt i_p0_told), .int (Int32.ofInt i_p0_highest), .ref a_p0_tape, .int (Int32.ofInt i_p0_taped), .int (Int32.ofInt i_p0_pos), .int (Int32.ofInt i_p0_from), .int (Int32.ofInt i_p0_sort), .int (Int32.ofInt i_p0_value), .int (Int32.ofInt i_p0_fault), .int (Int32.ofInt i_p0_wrongAt), .ref a_p0_places, .ref a_p0_stirred, .ref a_p0_ways, .ref a_p0_waysThen, .ref a_p0_stays, .ref a_p0_fewest, .ref a_p0_bowls, .ref a_p0_has, .ref a_p0_goesOn, .ref a_p0_isThere, .ref a_p0_isThereThen, .ref a_p0_bestRow, .ref a_p0_lanes, .ref a_p0_sizes, .ref a_p0_cells, .int (Int32.ofInt i_p0_torn)])), (a_p0_st, .inl (G 1, 152, .inl (zA w33))), (a_p0_brings, .inl (G 1, 35, .inl (zA v_p0_brings))), (a_p0_places, .inl (G 1, 7, .inl (zA w34))), (a_p0_stirred, .inl (G 1, 7, .inl (zA w35))), (a_p0_bestRow, .inl (G 1, 4, .inl (zA v_p0_bestRow)))] H → va_D A [(a_p0, .inr (12, [.ref a_p0_st, .ref a_p0_isKept, .int (Int32.ofInt i_p0_seats), .int (Int32.ofInt i_p0_stirs), .ref a_p0_brings, .ref a_p0_need, .ref a_p0_draft, .int (Int32.ofInt i_p0_dSeats), .int (Int32.ofInt i_p0_dStirs), .ref a_p0_dStir, .ref a_p0_dNeed, .int (Int32.ofInt i_p0_told), .int (Int32.ofInt i_p0_highest), .ref a_p0_tape, .int (Int32.ofInt i_p0_taped), .int (Int32.ofInt i_p0_pos), .int (Int32.ofInt i_p0_from), .int (Int32.ofInt i_p0_sort), .int (Int32.ofInt i_p0_value), .int (Int32.ofInt i_p0_fault), .int (Int32.ofInt i_p0_wrongAt), .ref a_p0_places, .ref a_p0_stirred, .ref a_p0_ways, .ref a_p0_waysThen, .ref a_p0_stays, .ref a_p0_fewest, .ref a_p0_bowls, .ref a_p0_has, .ref a_p0_goesOn, .ref a_p0_isThere, .ref a_p0_isThereThen, .ref a_p0_bestRow, .ref a_p0_lanes, .ref a_p0_sizes, .ref a_p0_cells, .int (Int32.ofInt i_p0_torn)])), (a_p0_st, .inl (G 1, 152, .inl (zA w33))), (a_p0_brings, .inl (G 1, 35, .inl (zA v_p0_brings))), (a_p0_places, .inl (G 1, 7, .inl (zA w34))), (a_p0_stirred, .inl (G 1, 7, .inl (zA w35))), (a_p0_bestRow, .inl (G 1, 4, .inl (zA v_p0_bestRow)))] → va_S A s.heap H locs → lq6 B36 n z30 z31 z32 w33 w34 w35 = some (r, o_v_p0_st, o_v_p0_places, o_v_p0_stirred, o_v_p0_bestRow) → W p l e rm_X12_fair s m ([.ref a_p0, .int (Int32.ofInt x1), .int (Int32.ofInt x2)] : List Value).toArray below meth c H locs 0 0 Q (F0 m 76 ls []) := by
            clear hf hl hP hD hS
            intro n
            induction n with
            | zero =>
              intro z30 z31 z32 w33 w34 w35 ls H locs hl hP hD hS hf
              exact (lq6_0 hf).elim
            | succ n ih76 =>
              intro z30 z31 z32 w33 w34 w35 ls H locs hl hP hD hS hf
              replace hf := lq6_s eB36 hf
              unfold B_X12_fair_76 at hf
              refine lv_iload hx hb dX12_fair_76 (lv_at hl 0 rfl) ?_
              refine lv_iload_n hx hb dX12_fair_78 rfl (lv_at hl 3 rfl) ?_
              have hr36 := ck_c hf
              replace hf := ck_r hf
              have hr37 := ck_c hf
              replace hf := ck_r hf
              refine lv_icmp_ge (tgt := 129) hx hb dX12_fair_79 (by decide) (fun cc => ?_) (fun cc => ?_)
              ·
                replace hf := ite_t ((z_le hr37 hr36).mp cc) hf
                clear cc
                exact hJ18 _ _ _ _ _ _ _ _ (lv_sub hl [1, 2, 4, 5, 6] rfl) hP hD hS hf
              ·
                replace hf := ite_f (fun h9 => cc ((z_le hr37 hr36).mpr h9)) hf
                clear cc
                refine lv_aload_n hx hb dX12_fair_82 rfl (lv_at hl 4 rfl) ?_
                refine lv_iload hx hb dX12_fair_83 (lv_at hl 0 rfl) ?_
                refine lv_iload_n hx hb dX12_fair_85 rfl (lv_at hl 5 rfl) ?_
                have hq := bd4_s hf
                clear hf
                obtain ⟨z39, w40, w41, w42, hcall, hf⟩ := hq
                refine gsI (ws' := [(a_p0, .inr (12, [.ref a_p0_st, .ref a_p0_isKept, .int (Int32.ofInt i_p0_seats), .int (Int32.ofInt i_p0_stirs), .ref a_p0_brings, .ref a_p0_need, .ref a_p0_draft, .int (Int32.ofInt i_p0_dSeats), .int (Int32.ofInt i_p0_dStirs), .ref a_p0_dStir, .ref a_p0_dNeed, .int (Int32.ofInt i_p0_told), .int (Int32.ofInt i_p0_highest), .ref a_p0_tape, .int (Int32.ofInt i_p0_taped), .int (Int32.ofInt i_p0_pos), .int (Int32.ofInt i_p0_from), .int (Int32.ofInt i_p0_sort), .int (Int32.ofInt i_p0_value), .int (Int32.ofInt i_p0_fault), .int (Int32.ofInt i_p0_wrongAt), .ref a_p0_places, .ref a_p0_stirred, .ref a_p0_ways, .ref a_p0_waysThen, .ref a_p0_stays, .ref a_p0_fewest, .ref a_p0_bowls, .ref a_p0_has, .ref a_p0_goesOn, .ref a_p0_isThere, .ref a_p0_isThereThen, .ref a_p0_bestRow, .ref a_p0_lanes, .ref a_p0_sizes, .ref a_p0_cells, .int (Int32.ofInt i_p0_torn)])), (a_p0_st, .inl (G 1, 152, .inl (zA w40))), (a_p0_brings, .inl (G 1, 35, .inl (zA v_p0_brings))), (a_p0_places, .inl (G 1, 7, .inl (zA w41))), (a_p0_stirred, .inl (G 1, 7, .inl (zA w42))), (a_p0_bestRow, .inl (G 1, 4, .inl (zA v_p0_bestRow)))]) (va_runV (As := [.int (Int32.ofInt z30), .int (Int32.ofInt x1)]) (rest := []) ⟨hx, hb, hml, hown, hts⟩ (c_X12_unlikeBy (l := l) (D := D) (G := G) (sz := H.size) (a_p0 := a_p0) (a_p0_st := a_p0_st) (a_p0_isKept := a_p0_isKept) (a_p0_brings := a_p0_brings) (a_p0_need := a_p0_need) (a_p0_draft := a_p0_draft) (a_p0_dStir := a_p0_dStir) (a_p0_dNeed := a_p0_dNeed) (a_p0_tape := a_p0_tape) (a_p0_places := a_p0_places) (a_p0_stirred := a_p0_stirred) (a_p0_ways := a_p0_ways) (a_p0_waysThen := a_p0_waysThen) (a_p0_stays := a_p0_stays) (a_p0_fewest := a_p0_fewest) (a_p0_bowls := a_p0_bowls) (a_p0_has := a_p0_has) (a_p0_goesOn := a_p0_goesOn) (a_p0_isThere := a_p0_isThere) (a_p0_isThereThen := a_p0_isThereThen) (a_p0_bestRow := a_p0_bestRow) (a_p0_lanes := a_p0_lanes) (a_p0_sizes := a_p0_sizes) (a_p0_cells := a_p0_cells) (i_p0_seats := i_p0_seats) (i_p0_stirs := i_p0_stirs) (i_p0_dSeats := i_p0_dSeats) (i_p0_dStirs := i_p0_dStirs) (i_p0_told := i_p0_told) (i_p0_highest := i_p0_highest) (i_p0_taped := i_p0_taped) (i_p0_pos := i_p0_pos) (i_p0_from := i_p0_from) (i_p0_sort := i_p0_sort) (i_p0_value := i_p0_value) (i_p0_fault := i_p0_fault) (i_p0_wrongAt := i_p0_wrongAt) (i_p0_torn := i_p0_torn) (v_p0_st := w33) (v_p0_brings := v_p0_brings) (v_p0_places := w34) (v_p0_stirred := w35) (x1 := z30) (x2 := x1) (r := z39) (o_v_p0_st := w40) (o_v_p0_places := w41) (o_v_p0_stirred := w42) (hf := hcall)) (cwV 2 hts gX12_fair_X12_unlikeBy rfl rfl rfl hdV_yX12_unlikeBy_RX12 ⟨Nat.le_of_ble_eq_true rfl, Nat.le_of_ble_eq_true rfl⟩) (preG_V (ci := 12) (q := (RX12, TX12, 37)) (hP.sub [0, 1, 2, 3, 4] rfl) (hD.sub [0, 1, 2, 3, 4] rfl rfl) hK rfl rfl) rfl rfl hl.1 rfl (lv_room (Nat.le_of_ble_eq_true rfl)) dX12_fair_86 ⟨Nat.le_of_ble_eq_true rfl, Nat.le_of_ble_eq_true rfl⟩) hP hD hS hA [0, 1, 2, 3, 4] rfl rfl rfl (fun H locs hP hD hS => ?_)
                clear hcall
                refine z_topi (fun z43 ez => ?_)
                replace hf := bnd_s hf ez
                clear ez
                refine lv_istore (lv' := [(7, .int (Int32.ofInt z43)), (6, .int (Int32.ofInt z30)), (5, .int (Int32.ofInt z31)), (4, .int (Int32.ofInt z32)), (3, .int (Int32.ofInt z9)), (0, .ref a_p0), (1, .int (Int32.ofInt x1)), (2, .int (Int32.ofInt x2))]) hx hb dX12_fair_89 hl (by decide) rfl (fun ls hl => ?_)
                refine lv_iload hx hb dX12_fair_91 (lv_at hl 0 rfl) ?_
                refine lv_iload hx hb dX12_fair_93 (lv_at hl 2 rfl) ?_
                have hr43 := ck_c hf
                replace hf := ck_r hf
                have hr44 := ck_c hf
                replace hf := ck_r hf
                have hq := jn_i hf
                clear hf
                obtain ⟨J47, eJ47, hf⟩ := hq
                have hJ47 : ∀ (z46 : Int) (ls : Array Slot) (H : Heap) (locs : List Loc), lv_has ls 8 [(7, .int (Int32.ofInt z43)), (6, .int (Int32.ofInt z30)), (5, .int (Int32.ofInt z31)), (3, .int (Int32.ofInt z9)), (0, .ref a_p0), (1, .int (Int32.ofInt x1)), (2, .int (Int32.ofInt x2))] → va_P D vwCl [(a_p0, .inr (12, [.ref a_p0_st, .ref a_p0_isKept, .int (Int32.ofInt i_p0_seats), .int (Int32.ofInt i_p0_stirs), .ref a_p0_brings, .ref a_p0_need, .ref a_p0_draft, .int (Int32.ofInt i_p0_dSeats), .int (Int32.ofInt i_p0_dStirs), .ref a_p0_dStir, .ref a_p0_dNeed, .int (Int32.ofInt i_p0_told), .int (Int32.ofInt i_p0_highest), .ref a_p0_tape, .int (Int32.ofInt i_p0_taped), .int (Int32.ofInt i_p0_pos), .int (Int32.ofInt i_p0_from), .int (Int32.ofInt i_p0_sort), .int (Int32.ofInt i_p0_value), .int (Int32.ofInt i_p0_fault), .int (Int32.ofInt i_p0_wrongAt), .ref a_p0_places, .ref a_p0_stirred, .ref a_p0_ways, .ref a_p0_waysThen, .ref a_p0_stays, .ref a_p0_fewest, .ref a_p0_bowls, .ref a_p0_has, .ref a_p0_goesOn, .ref a_p0_isThere, .ref a_p0_isThereThen, .ref a_p0_bestRow, .ref a_p0_lanes, .ref a_p0_sizes, .ref a_p0_cells, .int (Int32.ofInt i_p0_torn)])), (a_p0_st, .inl (G 1, 152, .inl (zA w40))), (a_p0_brings, .inl (G 1, 35, .inl (zA v_p0_brings))), (a_p0_places, .inl (G 1, 7, .inl (zA w41))), (a_p0_stirred, .inl (G 1, 7, .inl (zA w42))), (a_p0_bestRow, .inl (G 1, 4, .inl (zA v_p0_bestRow)))] H → va_D A [(a_p0, .inr (12, [.ref a_p0_st, .ref a_p0_isKept, .int (Int32.ofInt i_p0_seats), .int (Int32.ofInt i_p0_stirs), .ref a_p0_brings, .ref a_p0_need, .ref a_p0_draft, .int (Int32.ofInt i_p0_dSeats), .int (Int32.ofInt i_p0_dStirs), .ref a_p0_dStir, .ref a_p0_dNeed, .int (Int32.ofInt i_p0_told), .int (Int32.ofInt i_p0_highest), .ref a_p0_tape, .int (Int32.ofInt i_p0_taped), .int (Int32.ofInt i_p0_pos), .int (Int32.ofInt i_p0_from), .int (Int32.ofInt i_p0_sort), .int (Int32.ofInt i_p0_value), .int (Int32.ofInt i_p0_fault), .int (Int32.ofInt i_p0_wrongAt), .ref a_p0_places, .ref a_p0_stirred, .ref a_p0_ways, .ref a_p0_waysThen, .ref a_p0_stays, .ref a_p0_fewest, .ref a_p0_bowls, .ref a_p0_has, .ref a_p0_goesOn, .ref a_p0_isThere, .ref a_p0_isThereThen, .ref a_p0_bestRow, .ref a_p0_lanes, .ref a_p0_sizes, .ref a_p0_cells, .int (Int32.ofInt i_p0_torn)])), (a_p0_st, .inl (G 1, 152, .inl (zA w40))), (a_p0_brings, .inl (G 1, 35, .inl (zA v_p0_brings))), (a_p0_places, .inl (G 1, 7, .inl (zA w41))), (a_p0_stirred, .inl (G 1, 7, .inl (zA w42))), (a_p0_bestRow, .inl (G 1, 4, .inl (zA v_p0_bestRow)))] → va_S A s.heap H locs → J47 z46 = some (r, o_v_p0_st, o_v_p0_places, o_v_p0_stirred, o_v_p0_bestRow) → W p l e rm_X12_fair s m ([.ref a_p0, .int (Int32.ofInt x1), .int (Int32.ofInt x2)] : List Value).toArray below meth c H locs 0 0 Q (F0 m 105 ls [.int (Int32.ofInt z46)]) := by
                  clear hf hl hP hD hS
                  intro z46 ls H locs hl hP hD hS hf
                  replace hf := jn1_s eJ47 hf
                  refine z_topi (fun z48 ez => ?_)
                  replace hf := bnd_s hf ez
                  clear ez
                  refine lv_istore (lv' := [(4, .int (Int32.ofInt z48)), (7, .int (Int32.ofInt z43)), (6, .int (Int32.ofInt z30)), (5, .int (Int32.ofInt z31)), (3, .int (Int32.ofInt z9)), (0, .ref a_p0), (1, .int (Int32.ofInt x1)), (2, .int (Int32.ofInt x2))]) hx hb dX12_fair_105 hl (by decide) rfl (fun ls hl => ?_)
                  refine lv_iload hx hb dX12_fair_107 (lv_at hl 1 rfl) ?_
                  refine lv_iload hx hb dX12_fair_109 (lv_at hl 3 rfl) ?_
                  refine lv_icmp_ge (tgt := 119) hx hb dX12_fair_111 (by decide) (fun cc => ?_) (fun cc => ?_)
                  ·
                    replace hf := ite_t ((z_le hr44 hr43).mp cc) hf
                    clear cc
                    refine lv_iload hx hb dX12_fair_119 (lv_at hl 3 rfl) ?_
                    refine z_topi (fun z49 ez => ?_)
                    replace hf := bnd_s hf ez
                    clear ez
                    refine lv_istore (lv' := [(5, .int (Int32.ofInt z49)), (4, .int (Int32.ofInt z48)), (7, .int (Int32.ofInt z43)), (6, .int (Int32.ofInt z30)), (3, .int (Int32.ofInt z9)), (0, .ref a_p0), (1, .int (Int32.ofInt x1)), (2, .int (Int32.ofInt x2))]) hx hb dX12_fair_121 hl (by decide) rfl (fun ls hl => ?_)
                    obtain ⟨z50, ez⟩ : ∃ y : Int, y = (z30 + (1 : Int)) := ⟨_, rfl⟩
                    replace hf := bnd_s hf ez
                    refine lv_iinc (v := Int32.ofInt z50) (lv' := [(6, .int (Int32.ofInt z50)), (5, .int (Int32.ofInt z49)), (4, .int (Int32.ofInt z48)), (7, .int (Int32.ofInt z43)), (3, .int (Int32.ofInt z9)), (0, .ref a_p0), (1, .int (Int32.ofInt x1)), (2, .int (Int32.ofInt x2))]) hx hb dX12_fair_123 hl (k := 3) rfl (by rw [ez]; exact (Int32.ofInt_add _ _).symm) (by decide) rfl (fun ls hl => ?_)
                    clear ez
                    refine lv_goto (tgt := 76) hx hb dX12_fair_126 (by decide) ?_
                    exact ih76 _ _ _ _ _ _ _ _ _ (lv_sub hl [0, 1, 2, 4, 5, 6, 7] rfl) hP hD hS hf
                  ·
                    replace hf := ite_f (fun h9 => cc ((z_le hr44 hr43).mpr h9)) hf
                    clear cc
                    refine lv_iload hx hb dX12_fair_114 (lv_at hl 1 rfl) ?_
                    refine lv_goto (tgt := 121) hx hb dX12_fair_116 (by decide) ?_
                    refine z_topi (fun z51 ez => ?_)
                    replace hf := bnd_s hf ez
                    clear ez
                    refine lv_istore (lv' := [(5, .int (Int32.ofInt z51)), (4, .int (Int32.ofInt z48)), (7, .int (Int32.ofInt z43)), (6, .int (Int32.ofInt z30)), (3, .int (Int32.ofInt z9)), (0, .ref a_p0), (1, .int (Int32.ofInt x1)), (2, .int (Int32.ofInt x2))]) hx hb dX12_fair_121 hl (by decide) rfl (fun ls hl => ?_)
                    obtain ⟨z52, ez⟩ : ∃ y : Int, y = (z30 + (1 : Int)) := ⟨_, rfl⟩
                    replace hf := bnd_s hf ez
                    refine lv_iinc (v := Int32.ofInt z52) (lv' := [(6, .int (Int32.ofInt z52)), (5, .int (Int32.ofInt z51)), (4, .int (Int32.ofInt z48)), (7, .int (Int32.ofInt z43)), (3, .int (Int32.ofInt z9)), (0, .ref a_p0), (1, .int (Int32.ofInt x1)), (2, .int (Int32.ofInt x2))]) hx hb dX12_fair_123 hl (k := 3) rfl (by rw [ez]; exact (Int32.ofInt_add _ _).symm) (by decide) rfl (fun ls hl => ?_)
                    clear ez
                    refine lv_goto (tgt := 76) hx hb dX12_fair_126 (by decide) ?_
                    exact ih76 _ _ _ _ _ _ _ _ _ (lv_sub hl [0, 1, 2, 4, 5, 6, 7] rfl) hP hD hS hf
                refine lv_icmp_ge (tgt := 103) hx hb dX12_fair_95 (by decide) (fun cc => ?_) (fun cc => ?_)
                ·
                  replace hf := ite_t ((z_le hr44 hr43).mp cc) hf
                  clear cc
                  refine lv_iload hx hb dX12_fair_103 (lv_at hl 3 rfl) ?_
                  exact hJ47 _ _ _ _ (lv_sub hl [0, 1, 2, 4, 5, 6, 7] rfl) hP hD hS hf
                ·
                  replace hf := ite_f (fun h9 => cc ((z_le hr44 hr43).mpr h9)) hf
                  clear cc
                  refine lv_iload hx hb dX12_fair_98 (lv_at hl 1 rfl) ?_
                  refine lv_goto (tgt := 105) hx hb dX12_fair_100 (by decide) ?_
                  exact hJ47 _ _ _ _ (lv_sub hl [0, 1, 2, 4, 5, 6, 7] rfl) hP hD hS hf
          exact hB36 _ _ _ _ _ _ _ _ _ _ (lv_sub hl [0, 1, 2, 3, 4, 5, 6] rfl) hP hD hS hf
        ·
          replace hf := ite_f (fun h9 => cc ((z_lt hr6 hr0).mpr h9)) hf
          clear cc
          refine lv_bipush (v := Int32.ofInt (-4 : Int)) hx hb dX12_fair_50 (by decide) ?_
          obtain ⟨rfl, rfl, rfl, rfl, rfl⟩ := ou5 hf
          rw [hQ]
          exact W.iret hx hb hr (fun t ht hW => ⟨⟨_, (), rfl, rfl, by rw [ht]; exact hP, va_K.moved hW.alike hK, hD⟩, hS.F ht⟩) hS.2.2 dX12_fair_52
      ·
        replace hf := ite_t ((z_eq0 hr5).mp cc) hf
        clear cc
        refine lv_bipush (v := Int32.ofInt (-2 : Int)) hx hb dX12_fair_39 (by decide) ?_
        obtain ⟨rfl, rfl, rfl, rfl, rfl⟩ := ou5 hf
        rw [hQ]
        exact W.iret hx hb hr (fun t ht hW => ⟨⟨_, (), rfl, rfl, by rw [ht]; exact hP, va_K.moved hW.alike hK, hD⟩, hS.F ht⟩) hS.2.2 dX12_fair_41
    refine lv_if_eq (tgt := 32) hx hb dX12_fair_13 (by decide) (fun cc => ?_) (fun cc => ?_)
    ·
      replace hf := ite_t ((z_eq0 hr3).mp cc) hf
      clear cc
      exact hJ5  _ _ _ (lv_sub hl [0, 1, 2] rfl) hP hD hS hf
    ·
      replace hf := ite_f (fun h9 => cc ((z_eq0 hr3).mpr h9)) hf
      clear cc
      refine lv_iload_n hx hb dX12_fair_16 rfl (lv_at hl 2 rfl) ?_
      refine lv_i2l (v := Int64.ofInt x2) hx hb dX12_fair_17 (z_i2l hr3) ?_
      refine lv_ldc2 (v := (10 : Int64)) hx hb hown (hts _ mwX12_fair_6) dX12_fair_18 (z_cl (show Int64.ofInt (10 : Int) = _ from by decide) ?_)
      refine lv_ldc2 (v := (13 : Int64)) hx hb hown (hts _ mwX12_fair_7) dX12_fair_21 (z_cl (show Int64.ofInt (13 : Int) = _ from by decide) ?_)
      have hq := bd1_s hf
      clear hf
      obtain ⟨z53, hcall, hf⟩ := hq
      refine gnI (va_runS (As := [.long (Int64.ofInt x2), .long (Int64.ofInt (10 : Int)), .long (Int64.ofInt (13 : Int))]) (rest := []) ⟨hx, hb, hml, hown, hts⟩ (c_X12_in (l := l) (D := D) (G := G) (sz := H.size) (x0 := x2) (x2 := (10 : Int)) (x4 := (13 : Int)) (r := z53) (hf := hcall)) (va_cwS 3 hts gX12_fair_X12_in rfl rfl rfl (by decide +kernel) ⟨Nat.le_of_ble_eq_true rfl, Nat.le_of_ble_eq_true rfl⟩) (preG_S (hP.sub [] rfl) (hD.sub [] rfl rfl) hK) rfl rfl hl.1 rfl (lv_room (Nat.le_of_ble_eq_true rfl)) dX12_fair_24 ⟨Nat.le_of_ble_eq_true rfl, Nat.le_of_ble_eq_true rfl⟩) hP hD hS hA [] rfl (fun H locs hP hD hS => ?_)
      clear hcall
      have hr53 := ck_c hf
      replace hf := ck_r hf
      refine lv_if_ne (tgt := 32) hx hb dX12_fair_27 (by decide) (fun cc => ?_) (fun cc => ?_)
      ·
        replace hf := ite_f (fun h9 => cc ((z_eq0 hr53).mpr h9)) hf
        clear cc
        exact hJ5  _ _ _ (lv_sub hl [0, 1, 2] rfl) hP hD hS hf
      ·
        replace hf := ite_t ((z_eq0 hr53).mp cc) hf
        clear cc
        refine lv_iconst (v := Int32.ofInt (-1 : Int)) hx hb dX12_fair_30 (by decide) ?_
        obtain ⟨rfl, rfl, rfl, rfl, rfl⟩ := ou5 hf
        rw [hQ]
        exact W.iret hx hb hr (fun t ht hW => ⟨⟨_, (), rfl, rfl, by rw [ht]; exact hP, va_K.moved hW.alike hK, hD⟩, hS.F ht⟩) hS.2.2 dX12_fair_31

noncomputable def f_X12_keep (v_p0_st : (Int → Int)) (v_p0_isKept : (Int → Int)) (x1 : Int) : Option (Int × (Int → Int) × (Int → Int)) := (ck (z_r32 x1) (bd1 (f_X12_in x1 (0 : Int) (1 : Int)) (fun (z2 : Int) => (ck (z_r32 z2) (if z2 = (0 : Int) then (some ((-1 : Int), v_p0_st, v_p0_isKept)) else (ck (z_ix x1 2) (bd1 (f_X12_flag (v_p0_isKept x1)) (fun (z4 : Int) => (bnd z4 (fun (z5 : Int) => (ck (z_ix x1 2) (ck (z_bB (1 : Int)) (bnd (z_up v_p0_isKept x1 (1 : Int)) (fun (w6 : (Int → Int)) => (bd1 (f_X12_copies v_p0_st ((38 : Int) * (x1 + (1 : Int))) (0 : Int)) (fun (w7 : (Int → Int)) => (some (z5, w7, w6))))))))))))))))))
abbrev rm_X12_keep : Room := { frames := 1, cells := 0, slots := 0, locals := 25 }
theorem inX12_keep_X12 : ∀ w ∈ wsX120, w ∈ wsX12_keep := by first | exact fun w h => List.mem_cons_of_mem _ (List.mem_append_right _ h) | decide +kernel
theorem mwX12_keep_1 : Cond.fieldLink RX12 13 "LadleKingsModel" "isKept" "[Z" ∈ wsX12_keep := by first | exact List.mem_of_getElem? (i := 1) rfl | decide +kernel
set_option maxHeartbeats 8000000 in
set_option maxRecDepth 100000 in
theorem c_X12_keep (l : Launch) (D : va_G) (G : Nat → ClassId) (sz : Nat) (a_p0 : Nat) (a_p0_st : Nat) (a_p0_isKept : Nat) (a_p0_brings : Nat) (a_p0_need : Nat) (a_p0_draft : Nat) (a_p0_dStir : Nat) (a_p0_dNeed : Nat) (a_p0_tape : Nat) (a_p0_places : Nat) (a_p0_stirred : Nat) (a_p0_ways : Nat) (a_p0_waysThen : Nat) (a_p0_stays : Nat) (a_p0_fewest : Nat) (a_p0_bowls : Nat) (a_p0_has : Nat) (a_p0_goesOn : Nat) (a_p0_isThere : Nat) (a_p0_isThereThen : Nat) (a_p0_bestRow : Nat) (a_p0_lanes : Nat) (a_p0_sizes : Nat) (a_p0_cells : Nat) (i_p0_seats : Int) (i_p0_stirs : Int) (i_p0_dSeats : Int) (i_p0_dStirs : Int) (i_p0_told : Int) (i_p0_highest : Int) (i_p0_taped : Int) (i_p0_pos : Int) (i_p0_from : Int) (i_p0_sort : Int) (i_p0_value : Int) (i_p0_fault : Int) (i_p0_wrongAt : Int) (i_p0_torn : Int) (v_p0_st : (Int → Int)) (v_p0_isKept : (Int → Int)) (x1 : Int) (r : Int) (o_v_p0_st : (Int → Int)) (o_v_p0_isKept : (Int → Int)) (hf : f_X12_keep v_p0_st v_p0_isKept x1 = some (r, o_v_p0_st, o_v_p0_isKept)) : Met l yX12_keep wsX12_keep rm_X12_keep (pcG D G [.ref a_p0, .int (Int32.ofInt x1)] sz [(a_p0, .inr (12, [.ref a_p0_st, .ref a_p0_isKept, .int (Int32.ofInt i_p0_seats), .int (Int32.ofInt i_p0_stirs), .ref a_p0_brings, .ref a_p0_need, .ref a_p0_draft, .int (Int32.ofInt i_p0_dSeats), .int (Int32.ofInt i_p0_dStirs), .ref a_p0_dStir, .ref a_p0_dNeed, .int (Int32.ofInt i_p0_told), .int (Int32.ofInt i_p0_highest), .ref a_p0_tape, .int (Int32.ofInt i_p0_taped), .int (Int32.ofInt i_p0_pos), .int (Int32.ofInt i_p0_from), .int (Int32.ofInt i_p0_sort), .int (Int32.ofInt i_p0_value), .int (Int32.ofInt i_p0_fault), .int (Int32.ofInt i_p0_wrongAt), .ref a_p0_places, .ref a_p0_stirred, .ref a_p0_ways, .ref a_p0_waysThen, .ref a_p0_stays, .ref a_p0_fewest, .ref a_p0_bowls, .ref a_p0_has, .ref a_p0_goesOn, .ref a_p0_isThere, .ref a_p0_isThereThen, .ref a_p0_bestRow, .ref a_p0_lanes, .ref a_p0_sizes, .ref a_p0_cells, .int (Int32.ofInt i_p0_torn)])), (a_p0_st, .inl (G 1, 152, .inl (zA v_p0_st))), (a_p0_isKept, .inl (G 3, 2, .inl (zA v_p0_isKept)))]) (qcI D G (Int32.ofInt r) [(a_p0, .inr (12, [.ref a_p0_st, .ref a_p0_isKept, .int (Int32.ofInt i_p0_seats), .int (Int32.ofInt i_p0_stirs), .ref a_p0_brings, .ref a_p0_need, .ref a_p0_draft, .int (Int32.ofInt i_p0_dSeats), .int (Int32.ofInt i_p0_dStirs), .ref a_p0_dStir, .ref a_p0_dNeed, .int (Int32.ofInt i_p0_told), .int (Int32.ofInt i_p0_highest), .ref a_p0_tape, .int (Int32.ofInt i_p0_taped), .int (Int32.ofInt i_p0_pos), .int (Int32.ofInt i_p0_from), .int (Int32.ofInt i_p0_sort), .int (Int32.ofInt i_p0_value), .int (Int32.ofInt i_p0_fault), .int (Int32.ofInt i_p0_wrongAt), .ref a_p0_places, .ref a_p0_stirred, .ref a_p0_ways, .ref a_p0_waysThen, .ref a_p0_stays, .ref a_p0_fewest, .ref a_p0_bowls, .ref a_p0_has, .ref a_p0_goesOn, .ref a_p0_isThere, .ref a_p0_isThereThen, .ref a_p0_bestRow, .ref a_p0_lanes, .ref a_p0_sizes, .ref a_p0_cells, .int (Int32.ofInt i_p0_torn)])), (a_p0_st, .inl (G 1, 152, .inl (zA o_v_p0_st))), (a_p0_isKept, .inl (G 3, 2, .inl (zA o_v_p0_isKept)))] (va_A [(a_p0, .inr (12, [.ref a_p0_st, .ref a_p0_isKept, .int (Int32.ofInt i_p0_seats), .int (Int32.ofInt i_p0_stirs), .ref a_p0_brings, .ref a_p0_need, .ref a_p0_draft, .int (Int32.ofInt i_p0_dSeats), .int (Int32.ofInt i_p0_dStirs), .ref a_p0_dStir, .ref a_p0_dNeed, .int (Int32.ofInt i_p0_told), .int (Int32.ofInt i_p0_highest), .ref a_p0_tape, .int (Int32.ofInt i_p0_taped), .int (Int32.ofInt i_p0_pos), .int (Int32.ofInt i_p0_from), .int (Int32.ofInt i_p0_sort), .int (Int32.ofInt i_p0_value), .int (Int32.ofInt i_p0_fault), .int (Int32.ofInt i_p0_wrongAt), .ref a_p0_places, .ref a_p0_stirred, .ref a_p0_ways, .ref a_p0_waysThen, .ref a_p0_stays, .ref a_p0_fewest, .ref a_p0_bowls, .ref a_p0_has, .ref a_p0_goesOn, .ref a_p0_isThere, .ref a_p0_isThereThen, .ref a_p0_bestRow, .ref a_p0_lanes, .ref a_p0_sizes, .ref a_p0_cells, .int (Int32.ofInt i_p0_torn)])), (a_p0_st, .inl (G 1, 152, .inl (zA v_p0_st))), (a_p0_isKept, .inl (G 3, 2, .inl (zA v_p0_isKept)))] sz)) 0 0 (va_A [(a_p0, .inr (12, [.ref a_p0_st, .ref a_p0_isKept, .int (Int32.ofInt i_p0_seats), .int (Int32.ofInt i_p0_stirs), .ref a_p0_brings, .ref a_p0_need, .ref a_p0_draft, .int (Int32.ofInt i_p0_dSeats), .int (Int32.ofInt i_p0_dStirs), .ref a_p0_dStir, .ref a_p0_dNeed, .int (Int32.ofInt i_p0_told), .int (Int32.ofInt i_p0_highest), .ref a_p0_tape, .int (Int32.ofInt i_p0_taped), .int (Int32.ofInt i_p0_pos), .int (Int32.ofInt i_p0_from), .int (Int32.ofInt i_p0_sort), .int (Int32.ofInt i_p0_value), .int (Int32.ofInt i_p0_fault), .int (Int32.ofInt i_p0_wrongAt), .ref a_p0_places, .ref a_p0_stirred, .ref a_p0_ways, .ref a_p0_waysThen, .ref a_p0_stays, .ref a_p0_fewest, .ref a_p0_bowls, .ref a_p0_has, .ref a_p0_goesOn, .ref a_p0_isThere, .ref a_p0_isThereThen, .ref a_p0_bestRow, .ref a_p0_lanes, .ref a_p0_sizes, .ref a_p0_cells, .int (Int32.ofInt i_p0_torn)])), (a_p0_st, .inl (G 1, 152, .inl (zA v_p0_st))), (a_p0_isKept, .inl (G 3, 2, .inl (zA v_p0_isKept)))] sz) := by
  refine Met.ofW (cc := cX12_keep) (maxL := 3) (ret := (some .int)) (by decide) rfl ?_
  intro p e s m args below meth c s₁ B hml hv
  obtain ⟨rfl, hsz, hP, hK, hD0⟩ := hv
  have hx := B.exec
  have hb := B.bytes
  have hr := B.returns
  have hts := atoms_spec (ws := wsX12_keep) B.pre
  have hown : s.vm.findClass RX12 = some m.cls := findClass_of_methodNamed B.named
  have hlocks := B.notSynchronized
  subst hsz
  have hD := hD0.self (sz := s.heap.size)
  generalize hAe : va_A [(a_p0, .inr (12, [.ref a_p0_st, .ref a_p0_isKept, .int (Int32.ofInt i_p0_seats), .int (Int32.ofInt i_p0_stirs), .ref a_p0_brings, .ref a_p0_need, .ref a_p0_draft, .int (Int32.ofInt i_p0_dSeats), .int (Int32.ofInt i_p0_dStirs), .ref a_p0_dStir, .ref a_p0_dNeed, .int (Int32.ofInt i_p0_told), .int (Int32.ofInt i_p0_highest), .ref a_p0_tape, .int (Int32.ofInt i_p0_taped), .int (Int32.ofInt i_p0_pos), .int (Int32.ofInt i_p0_from), .int (Int32.ofInt i_p0_sort), .int (Int32.ofInt i_p0_value), .int (Int32.ofInt i_p0_fault), .int (Int32.ofInt i_p0_wrongAt), .ref a_p0_places, .ref a_p0_stirred, .ref a_p0_ways, .ref a_p0_waysThen, .ref a_p0_stays, .ref a_p0_fewest, .ref a_p0_bowls, .ref a_p0_has, .ref a_p0_goesOn, .ref a_p0_isThere, .ref a_p0_isThereThen, .ref a_p0_bestRow, .ref a_p0_lanes, .ref a_p0_sizes, .ref a_p0_cells, .int (Int32.ofInt i_p0_torn)])), (a_p0_st, .inl (G 1, 152, .inl (zA v_p0_st))), (a_p0_isKept, .inl (G 3, 2, .inl (zA v_p0_isKept)))] s.heap.size = A at hD ⊢
  have hA : ∀ q : Nat, s.heap.size ≤ q → A q := fun q h => by rw [← hAe]; exact Or.inr h
  clear hAe hD0
  have hS : va_S A s.heap s.heap [] := va_S.rf
  have hl := lv_entry ([.ref a_p0, .int (Int32.ofInt x1)]) (n := 3) (Nat.le_of_ble_eq_true rfl)
  rw [lg_entry_eq]
  generalize (lg_sl ([.ref a_p0, .int (Int32.ofInt x1)]) ++ List.replicate (3 - (lg_sl ([.ref a_p0, .int (Int32.ofInt x1)])).length) Slot.unset).toArray = ls at hl ⊢
  have hl : lv_has ls 3 [(0, .ref a_p0), (1, .int (Int32.ofInt x1))] := hl
  refine W_nameQ (fun Q hQ => ?_)
  obtain ⟨H, hH⟩ : ∃ H, H = s.heap := ⟨_, rfl⟩
  replace hS : va_S A s.heap H [] := by rw [hH]; exact hS
  replace hP : va_P D vwCl [(a_p0, .inr (12, [.ref a_p0_st, .ref a_p0_isKept, .int (Int32.ofInt i_p0_seats), .int (Int32.ofInt i_p0_stirs), .ref a_p0_brings, .ref a_p0_need, .ref a_p0_draft, .int (Int32.ofInt i_p0_dSeats), .int (Int32.ofInt i_p0_dStirs), .ref a_p0_dStir, .ref a_p0_dNeed, .int (Int32.ofInt i_p0_told), .int (Int32.ofInt i_p0_highest), .ref a_p0_tape, .int (Int32.ofInt i_p0_taped), .int (Int32.ofInt i_p0_pos), .int (Int32.ofInt i_p0_from), .int (Int32.ofInt i_p0_sort), .int (Int32.ofInt i_p0_value), .int (Int32.ofInt i_p0_fault), .int (Int32.ofInt i_p0_wrongAt), .ref a_p0_places, .ref a_p0_stirred, .ref a_p0_ways, .ref a_p0_waysThen, .ref a_p0_stays, .ref a_p0_fewest, .ref a_p0_bowls, .ref a_p0_has, .ref a_p0_goesOn, .ref a_p0_isThere, .ref a_p0_isThereThen, .ref a_p0_bestRow, .ref a_p0_lanes, .ref a_p0_sizes, .ref a_p0_cells, .int (Int32.ofInt i_p0_torn)])), (a_p0_st, .inl (G 1, 152, .inl (zA v_p0_st))), (a_p0_isKept, .inl (G 3, 2, .inl (zA v_p0_isKept)))] H := by rw [hH]; exact hP
  rw [← hH]
  clear hH
  unfold f_X12_keep at hf
  refine lv_iload_n hx hb dX12_keep_0 rfl (lv_at hl 1 rfl) ?_
  have hr0 := ck_c hf
  replace hf := ck_r hf
  refine lv_i2l (v := Int64.ofInt x1) hx hb dX12_keep_1 (z_i2l hr0) ?_
  refine lv_lconst (v := Int64.ofInt (0 : Int)) hx hb dX12_keep_2 (by decide) ?_
  refine lv_lconst (v := Int64.ofInt (1 : Int)) hx hb dX12_keep_3 (by decide) ?_
  have hq := bd1_s hf
  clear hf
  obtain ⟨z2, hcall, hf⟩ := hq
  refine gnI (va_runS (As := [.long (Int64.ofInt x1), .long (Int64.ofInt (0 : Int)), .long (Int64.ofInt (1 : Int))]) (rest := []) ⟨hx, hb, hml, hown, hts⟩ (c_X12_in (l := l) (D := D) (G := G) (sz := H.size) (x0 := x1) (x2 := (0 : Int)) (x4 := (1 : Int)) (r := z2) (hf := hcall)) (va_cwS 3 hts gX12_keep_X12_in rfl rfl rfl (by decide +kernel) ⟨Nat.le_of_ble_eq_true rfl, Nat.le_of_ble_eq_true rfl⟩) (preG_S (hP.sub [] rfl) (hD.sub [] rfl rfl) hK) rfl rfl hl.1 rfl (lv_room (Nat.le_of_ble_eq_true rfl)) dX12_keep_4 ⟨Nat.le_of_ble_eq_true rfl, Nat.le_of_ble_eq_true rfl⟩) hP hD hS hA [] rfl (fun H locs hP hD hS => ?_)
  clear hcall
  have hr2 := ck_c hf
  replace hf := ck_r hf
  refine lv_if_ne (tgt := 12) hx hb dX12_keep_7 (by decide) (fun cc => ?_) (fun cc => ?_)
  ·
    replace hf := ite_f (fun h9 => cc ((z_eq0 hr2).mpr h9)) hf
    clear cc
    refine lv_aload_n hx hb dX12_keep_12 rfl (lv_at hl 0 rfl) ?_
    refine va_get (D := D) (ci := 12) (v := .ref a_p0_isKept) (C := RX12) (T := TX12) (N := 37) hx hb hts inX12_keep_X12 hown hK hP 0 rfl rfl 1 (by decide) (hts _ mwX12_keep_1) (fun _ h9 => h9) rfl dX12_keep_13 ?_
    refine lv_iload_n hx hb dX12_keep_16 rfl (lv_at hl 1 rfl) ?_
    have hc := ck_c hf
    replace hf := ck_r hf
    refine va_zald hx hb hK hP 2 3 rfl rfl (z_ix_in hc) dX12_keep_17 (z_ci (z_ald v_p0_isKept hc) ?_)
    clear hc
    have hq := bd1_s hf
    clear hf
    obtain ⟨z4, hcall, hf⟩ := hq
    refine gnI (va_runS (As := [.int (Int32.ofInt (v_p0_isKept x1))]) (rest := []) ⟨hx, hb, hml, hown, hts⟩ (c_X12_flag (l := l) (D := D) (G := G) (sz := H.size) (x0 := (v_p0_isKept x1)) (r := z4) (hf := hcall)) (va_cwS 1 hts gX12_keep_X12_flag rfl rfl rfl (by decide +kernel) ⟨Nat.le_of_ble_eq_true rfl, Nat.le_of_ble_eq_true rfl⟩) (preG_S (hP.sub [] rfl) (hD.sub [] rfl rfl) hK) rfl rfl hl.1 rfl (lv_room (Nat.le_of_ble_eq_true rfl)) dX12_keep_18 ⟨Nat.le_of_ble_eq_true rfl, Nat.le_of_ble_eq_true rfl⟩) hP hD hS hA [] rfl (fun H locs hP hD hS => ?_)
    clear hcall
    refine z_topi (fun z5 ez => ?_)
    replace hf := bnd_s hf ez
    clear ez
    refine lv_istore_n (lv' := [(2, .int (Int32.ofInt z5)), (0, .ref a_p0), (1, .int (Int32.ofInt x1))]) hx hb dX12_keep_21 rfl hl (by decide) rfl (fun ls hl => ?_)
    refine lv_aload_n hx hb dX12_keep_22 rfl (lv_at hl 1 rfl) ?_
    refine va_get (D := D) (ci := 12) (v := .ref a_p0_isKept) (C := RX12) (T := TX12) (N := 37) hx hb hts inX12_keep_X12 hown hK hP 0 rfl rfl 1 (by decide) (hts _ mwX12_keep_1) (fun _ h9 => h9) rfl dX12_keep_23 ?_
    refine lv_iload_n hx hb dX12_keep_26 rfl (lv_at hl 2 rfl) ?_
    refine lv_iconst (v := Int32.ofInt (1 : Int)) hx hb dX12_keep_27 (by decide) ?_
    have hc := ck_c hf
    replace hf := ck_r hf
    have hz := ck_c hf
    replace hf := ck_r hf
    refine zs_zast (wf := fun w6 => [(a_p0, .inr (12, [.ref a_p0_st, .ref a_p0_isKept, .int (Int32.ofInt i_p0_seats), .int (Int32.ofInt i_p0_stirs), .ref a_p0_brings, .ref a_p0_need, .ref a_p0_draft, .int (Int32.ofInt i_p0_dSeats), .int (Int32.ofInt i_p0_dStirs), .ref a_p0_dStir, .ref a_p0_dNeed, .int (Int32.ofInt i_p0_told), .int (Int32.ofInt i_p0_highest), .ref a_p0_tape, .int (Int32.ofInt i_p0_taped), .int (Int32.ofInt i_p0_pos), .int (Int32.ofInt i_p0_from), .int (Int32.ofInt i_p0_sort), .int (Int32.ofInt i_p0_value), .int (Int32.ofInt i_p0_fault), .int (Int32.ofInt i_p0_wrongAt), .ref a_p0_places, .ref a_p0_stirred, .ref a_p0_ways, .ref a_p0_waysThen, .ref a_p0_stays, .ref a_p0_fewest, .ref a_p0_bowls, .ref a_p0_has, .ref a_p0_goesOn, .ref a_p0_isThere, .ref a_p0_isThereThen, .ref a_p0_bestRow, .ref a_p0_lanes, .ref a_p0_sizes, .ref a_p0_cells, .int (Int32.ofInt i_p0_torn)])), (a_p0_st, .inl (G 1, 152, .inl (zA v_p0_st))), (a_p0_isKept, .inl (G 3, 2, .inl (zA w6)))]) hx hb hK hP hD hS 2 3 rfl rfl hc (z_bv hz) dX12_keep_28 (fun _ => rfl) (fun w6 ez H locs hP hD hS => ?_)
    replace hf := bnd_s hf ez
    clear ez hc
    refine lv_aload_n hx hb dX12_keep_29 rfl (lv_at hl 1 rfl) ?_
    refine lv_bipush (v := Int32.ofInt (38 : Int)) hx hb dX12_keep_30 (by decide) ?_
    refine lv_iload_n hx hb dX12_keep_32 rfl (lv_at hl 2 rfl) ?_
    refine lv_iconst (v := Int32.ofInt (1 : Int)) hx hb dX12_keep_33 (by decide) ?_
    refine lv_iadd hx hb dX12_keep_34 (z_ci (Int32.ofInt_add x1 (1 : Int)) ?_)
    refine lv_imul hx hb dX12_keep_35 (z_ci (Int32.ofInt_mul (38 : Int) (x1 + (1 : Int))) ?_)
    refine lv_iconst (v := Int32.ofInt (0 : Int)) hx hb dX12_keep_36 (by decide) ?_
    have hq := bd1_s hf
    clear hf
    obtain ⟨w7, hcall, hf⟩ := hq
    refine gsV (ws' := [(a_p0, .inr (12, [.ref a_p0_st, .ref a_p0_isKept, .int (Int32.ofInt i_p0_seats), .int (Int32.ofInt i_p0_stirs), .ref a_p0_brings, .ref a_p0_need, .ref a_p0_draft, .int (Int32.ofInt i_p0_dSeats), .int (Int32.ofInt i_p0_dStirs), .ref a_p0_dStir, .ref a_p0_dNeed, .int (Int32.ofInt i_p0_told), .int (Int32.ofInt i_p0_highest), .ref a_p0_tape, .int (Int32.ofInt i_p0_taped), .int (Int32.ofInt i_p0_pos), .int (Int32.ofInt i_p0_from), .int (Int32.ofInt i_p0_sort), .int (Int32.ofInt i_p0_value), .int (Int32.ofInt i_p0_fault), .int (Int32.ofInt i_p0_wrongAt), .ref a_p0_places, .ref a_p0_stirred, .ref a_p0_ways, .ref a_p0_waysThen, .ref a_p0_stays, .ref a_p0_fewest, .ref a_p0_bowls, .ref a_p0_has, .ref a_p0_goesOn, .ref a_p0_isThere, .ref a_p0_isThereThen, .ref a_p0_bestRow, .ref a_p0_lanes, .ref a_p0_sizes, .ref a_p0_cells, .int (Int32.ofInt i_p0_torn)])), (a_p0_st, .inl (G 1, 152, .inl (zA w7))), (a_p0_isKept, .inl (G 3, 2, .inl (zA w6)))]) (va_runV (As := [.int (Int32.ofInt ((38 : Int) * (x1 + (1 : Int)))), .int (Int32.ofInt (0 : Int))]) (rest := []) ⟨hx, hb, hml, hown, hts⟩ (c_X12_copies (l := l) (D := D) (G := G) (sz := H.size) (a_p0 := a_p0) (a_p0_st := a_p0_st) (a_p0_isKept := a_p0_isKept) (a_p0_brings := a_p0_brings) (a_p0_need := a_p0_need) (a_p0_draft := a_p0_draft) (a_p0_dStir := a_p0_dStir) (a_p0_dNeed := a_p0_dNeed) (a_p0_tape := a_p0_tape) (a_p0_places := a_p0_places) (a_p0_stirred := a_p0_stirred) (a_p0_ways := a_p0_ways) (a_p0_waysThen := a_p0_waysThen) (a_p0_stays := a_p0_stays) (a_p0_fewest := a_p0_fewest) (a_p0_bowls := a_p0_bowls) (a_p0_has := a_p0_has) (a_p0_goesOn := a_p0_goesOn) (a_p0_isThere := a_p0_isThere) (a_p0_isThereThen := a_p0_isThereThen) (a_p0_bestRow := a_p0_bestRow) (a_p0_lanes := a_p0_lanes) (a_p0_sizes := a_p0_sizes) (a_p0_cells := a_p0_cells) (i_p0_seats := i_p0_seats) (i_p0_stirs := i_p0_stirs) (i_p0_dSeats := i_p0_dSeats) (i_p0_dStirs := i_p0_dStirs) (i_p0_told := i_p0_told) (i_p0_highest := i_p0_highest) (i_p0_taped := i_p0_taped) (i_p0_pos := i_p0_pos) (i_p0_from := i_p0_from) (i_p0_sort := i_p0_sort) (i_p0_value := i_p0_value) (i_p0_fault := i_p0_fault) (i_p0_wrongAt := i_p0_wrongAt) (i_p0_torn := i_p0_torn) (v_p0_st := v_p0_st) (x1 := ((38 : Int) * (x1 + (1 : Int)))) (x2 := (0 : Int)) (o_v_p0_st := w7) (hf := hcall)) (cwV 2 hts gX12_keep_X12_copies rfl rfl rfl hdV_yX12_copies_RX12 ⟨Nat.le_of_ble_eq_true rfl, Nat.le_of_ble_eq_true rfl⟩) (preG_V (ci := 12) (q := (RX12, TX12, 37)) (hP.sub [0, 1] rfl) (hD.sub [0, 1] rfl rfl) hK rfl rfl) rfl rfl hl.1 rfl (lv_room (Nat.le_of_ble_eq_true rfl)) dX12_keep_37 ⟨Nat.le_of_ble_eq_true rfl, Nat.le_of_ble_eq_true rfl⟩) hP hD hS hA [0, 1] rfl rfl rfl (fun H locs hP hD hS => ?_)
    clear hcall
    refine lv_iload_n hx hb dX12_keep_40 rfl (lv_at hl 0 rfl) ?_
    obtain ⟨rfl, rfl, rfl⟩ := ou3 hf
    rw [hQ]
    exact W.iret hx hb hr (fun t ht hW => ⟨⟨_, (), rfl, rfl, by rw [ht]; exact hP, va_K.moved hW.alike hK, hD⟩, hS.F ht⟩) hS.2.2 dX12_keep_41
  ·
    replace hf := ite_t ((z_eq0 hr2).mp cc) hf
    clear cc
    refine lv_iconst (v := Int32.ofInt (-1 : Int)) hx hb dX12_keep_10 (by decide) ?_
    obtain ⟨rfl, rfl, rfl⟩ := ou3 hf
    rw [hQ]
    exact W.iret hx hb hr (fun t ht hW => ⟨⟨_, (), rfl, rfl, by rw [ht]; exact hP, va_K.moved hW.alike hK, hD⟩, hS.F ht⟩) hS.2.2 dX12_keep_11

noncomputable def f_X12_back (v_p0_st : (Int → Int)) (v_p0_isKept : (Int → Int)) (x1 : Int) : Option (Int × (Int → Int)) := (ck (z_r32 x1) (bd1 (f_X12_in x1 (0 : Int) (1 : Int)) (fun (z2 : Int) => (ck (z_r32 z2) (if z2 = (0 : Int) then (some ((-1 : Int), v_p0_st)) else (ck (z_ix x1 2) (ck (z_r32 (v_p0_isKept x1)) (if (v_p0_isKept x1) = (0 : Int) then (some ((-2 : Int), v_p0_st)) else (bd1 (f_X12_copies v_p0_st (0 : Int) ((38 : Int) * (x1 + (1 : Int)))) (fun (w5 : (Int → Int)) => (ck (z_ix (8 : Int) 152) (some ((w5 (8 : Int)), w5)))))))))))))
abbrev rm_X12_back : Room := { frames := 1, cells := 0, slots := 0, locals := 25 }
theorem inX12_back_X12 : ∀ w ∈ wsX120, w ∈ wsX12_back := by first | exact fun w h => List.mem_cons_of_mem _ (List.mem_append_right _ h) | decide +kernel
theorem mwX12_back_1 : Cond.fieldLink RX12 13 "LadleKingsModel" "isKept" "[Z" ∈ wsX12_back := by first | exact List.mem_of_getElem? (i := 1) rfl | decide +kernel
theorem mwX12_back_2 : Cond.fieldLink RX12 7 "LadleKingsModel" "st" "[I" ∈ wsX12_back := by first | exact List.mem_of_getElem? (i := 2) rfl | decide +kernel
set_option maxHeartbeats 8000000 in
set_option maxRecDepth 100000 in
theorem c_X12_back (l : Launch) (D : va_G) (G : Nat → ClassId) (sz : Nat) (a_p0 : Nat) (a_p0_st : Nat) (a_p0_isKept : Nat) (a_p0_brings : Nat) (a_p0_need : Nat) (a_p0_draft : Nat) (a_p0_dStir : Nat) (a_p0_dNeed : Nat) (a_p0_tape : Nat) (a_p0_places : Nat) (a_p0_stirred : Nat) (a_p0_ways : Nat) (a_p0_waysThen : Nat) (a_p0_stays : Nat) (a_p0_fewest : Nat) (a_p0_bowls : Nat) (a_p0_has : Nat) (a_p0_goesOn : Nat) (a_p0_isThere : Nat) (a_p0_isThereThen : Nat) (a_p0_bestRow : Nat) (a_p0_lanes : Nat) (a_p0_sizes : Nat) (a_p0_cells : Nat) (i_p0_seats : Int) (i_p0_stirs : Int) (i_p0_dSeats : Int) (i_p0_dStirs : Int) (i_p0_told : Int) (i_p0_highest : Int) (i_p0_taped : Int) (i_p0_pos : Int) (i_p0_from : Int) (i_p0_sort : Int) (i_p0_value : Int) (i_p0_fault : Int) (i_p0_wrongAt : Int) (i_p0_torn : Int) (v_p0_st : (Int → Int)) (v_p0_isKept : (Int → Int)) (x1 : Int) (r : Int) (o_v_p0_st : (Int → Int)) (hf : f_X12_back v_p0_st v_p0_isKept x1 = some (r, o_v_p0_st)) : Met l yX12_back wsX12_back rm_X12_back (pcG D G [.ref a_p0, .int (Int32.ofInt x1)] sz [(a_p0, .inr (12, [.ref a_p0_st, .ref a_p0_isKept, .int (Int32.ofInt i_p0_seats), .int (Int32.ofInt i_p0_stirs), .ref a_p0_brings, .ref a_p0_need, .ref a_p0_draft, .int (Int32.ofInt i_p0_dSeats), .int (Int32.ofInt i_p0_dStirs), .ref a_p0_dStir, .ref a_p0_dNeed, .int (Int32.ofInt i_p0_told), .int (Int32.ofInt i_p0_highest), .ref a_p0_tape, .int (Int32.ofInt i_p0_taped), .int (Int32.ofInt i_p0_pos), .int (Int32.ofInt i_p0_from), .int (Int32.ofInt i_p0_sort), .int (Int32.ofInt i_p0_value), .int (Int32.ofInt i_p0_fault), .int (Int32.ofInt i_p0_wrongAt), .ref a_p0_places, .ref a_p0_stirred, .ref a_p0_ways, .ref a_p0_waysThen, .ref a_p0_stays, .ref a_p0_fewest, .ref a_p0_bowls, .ref a_p0_has, .ref a_p0_goesOn, .ref a_p0_isThere, .ref a_p0_isThereThen, .ref a_p0_bestRow, .ref a_p0_lanes, .ref a_p0_sizes, .ref a_p0_cells, .int (Int32.ofInt i_p0_torn)])), (a_p0_st, .inl (G 1, 152, .inl (zA v_p0_st))), (a_p0_isKept, .inl (G 3, 2, .inl (zA v_p0_isKept)))]) (qcI D G (Int32.ofInt r) [(a_p0, .inr (12, [.ref a_p0_st, .ref a_p0_isKept, .int (Int32.ofInt i_p0_seats), .int (Int32.ofInt i_p0_stirs), .ref a_p0_brings, .ref a_p0_need, .ref a_p0_draft, .int (Int32.ofInt i_p0_dSeats), .int (Int32.ofInt i_p0_dStirs), .ref a_p0_dStir, .ref a_p0_dNeed, .int (Int32.ofInt i_p0_told), .int (Int32.ofInt i_p0_highest), .ref a_p0_tape, .int (Int32.ofInt i_p0_taped), .int (Int32.ofInt i_p0_pos), .int (Int32.ofInt i_p0_from), .int (Int32.ofInt i_p0_sort), .int (Int32.ofInt i_p0_value), .int (Int32.ofInt i_p0_fault), .int (Int32.ofInt i_p0_wrongAt), .ref a_p0_places, .ref a_p0_stirred, .ref a_p0_ways, .ref a_p0_waysThen, .ref a_p0_stays, .ref a_p0_fewest, .ref a_p0_bowls, .ref a_p0_has, .ref a_p0_goesOn, .ref a_p0_isThere, .ref a_p0_isThereThen, .ref a_p0_bestRow, .ref a_p0_lanes, .ref a_p0_sizes, .ref a_p0_cells, .int (Int32.ofInt i_p0_torn)])), (a_p0_st, .inl (G 1, 152, .inl (zA o_v_p0_st))), (a_p0_isKept, .inl (G 3, 2, .inl (zA v_p0_isKept)))] (va_A [(a_p0, .inr (12, [.ref a_p0_st, .ref a_p0_isKept, .int (Int32.ofInt i_p0_seats), .int (Int32.ofInt i_p0_stirs), .ref a_p0_brings, .ref a_p0_need, .ref a_p0_draft, .int (Int32.ofInt i_p0_dSeats), .int (Int32.ofInt i_p0_dStirs), .ref a_p0_dStir, .ref a_p0_dNeed, .int (Int32.ofInt i_p0_told), .int (Int32.ofInt i_p0_highest), .ref a_p0_tape, .int (Int32.ofInt i_p0_taped), .int (Int32.ofInt i_p0_pos), .int (Int32.ofInt i_p0_from), .int (Int32.ofInt i_p0_sort), .int (Int32.ofInt i_p0_value), .int (Int32.ofInt i_p0_fault), .int (Int32.ofInt i_p0_wrongAt), .ref a_p0_places, .ref a_p0_stirred, .ref a_p0_ways, .ref a_p0_waysThen, .ref a_p0_stays, .ref a_p0_fewest, .ref a_p0_bowls, .ref a_p0_has, .ref a_p0_goesOn, .ref a_p0_isThere, .ref a_p0_isThereThen, .ref a_p0_bestRow, .ref a_p0_lanes, .ref a_p0_sizes, .ref a_p0_cells, .int (Int32.ofInt i_p0_torn)])), (a_p0_st, .inl (G 1, 152, .inl (zA v_p0_st))), (a_p0_isKept, .inl (G 3, 2, .inl (zA v_p0_isKept)))] sz)) 0 0 (va_A [(a_p0, .inr (12, [.ref a_p0_st, .ref a_p0_isKept, .int (Int32.ofInt i_p0_seats), .int (Int32.ofInt i_p0_stirs), .ref a_p0_brings, .ref a_p0_need, .ref a_p0_draft, .int (Int32.ofInt i_p0_dSeats), .int (Int32.ofInt i_p0_dStirs), .ref a_p0_dStir, .ref a_p0_dNeed, .int (Int32.ofInt i_p0_told), .int (Int32.ofInt i_p0_highest), .ref a_p0_tape, .int (Int32.ofInt i_p0_taped), .int (Int32.ofInt i_p0_pos), .int (Int32.ofInt i_p0_from), .int (Int32.ofInt i_p0_sort), .int (Int32.ofInt i_p0_value), .int (Int32.ofInt i_p0_fault), .int (Int32.ofInt i_p0_wrongAt), .ref a_p0_places, .ref a_p0_stirred, .ref a_p0_ways, .ref a_p0_waysThen, .ref a_p0_stays, .ref a_p0_fewest, .ref a_p0_bowls, .ref a_p0_has, .ref a_p0_goesOn, .ref a_p0_isThere, .ref a_p0_isThereThen, .ref a_p0_bestRow, .ref a_p0_lanes, .ref a_p0_sizes, .ref a_p0_cells, .int (Int32.ofInt i_p0_torn)])), (a_p0_st, .inl (G 1, 152, .inl (zA v_p0_st))), (a_p0_isKept, .inl (G 3, 2, .inl (zA v_p0_isKept)))] sz) := by
  refine Met.ofW (cc := cX12_back) (maxL := 2) (ret := (some .int)) (by decide) rfl ?_
  intro p e s m args below meth c s₁ B hml hv
  obtain ⟨rfl, hsz, hP, hK, hD0⟩ := hv
  have hx := B.exec
  have hb := B.bytes
  have hr := B.returns
  have hts := atoms_spec (ws := wsX12_back) B.pre
  have hown : s.vm.findClass RX12 = some m.cls := findClass_of_methodNamed B.named
  have hlocks := B.notSynchronized
  subst hsz
  have hD := hD0.self (sz := s.heap.size)
  generalize hAe : va_A [(a_p0, .inr (12, [.ref a_p0_st, .ref a_p0_isKept, .int (Int32.ofInt i_p0_seats), .int (Int32.ofInt i_p0_stirs), .ref a_p0_brings, .ref a_p0_need, .ref a_p0_draft, .int (Int32.ofInt i_p0_dSeats), .int (Int32.ofInt i_p0_dStirs), .ref a_p0_dStir, .ref a_p0_dNeed, .int (Int32.ofInt i_p0_told), .int (Int32.ofInt i_p0_highest), .ref a_p0_tape, .int (Int32.ofInt i_p0_taped), .int (Int32.ofInt i_p0_pos), .int (Int32.ofInt i_p0_from), .int (Int32.ofInt i_p0_sort), .int (Int32.ofInt i_p0_value), .int (Int32.ofInt i_p0_fault), .int (Int32.ofInt i_p0_wrongAt), .ref a_p0_places, .ref a_p0_stirred, .ref a_p0_ways, .ref a_p0_waysThen, .ref a_p0_stays, .ref a_p0_fewest, .ref a_p0_bowls, .ref a_p0_has, .ref a_p0_goesOn, .ref a_p0_isThere, .ref a_p0_isThereThen, .ref a_p0_bestRow, .ref a_p0_lanes, .ref a_p0_sizes, .ref a_p0_cells, .int (Int32.ofInt i_p0_torn)])), (a_p0_st, .inl (G 1, 152, .inl (zA v_p0_st))), (a_p0_isKept, .inl (G 3, 2, .inl (zA v_p0_isKept)))] s.heap.size = A at hD ⊢
  have hA : ∀ q : Nat, s.heap.size ≤ q → A q := fun q h => by rw [← hAe]; exact Or.inr h
  clear hAe hD0
  have hS : va_S A s.heap s.heap [] := va_S.rf
  have hl := lv_entry ([.ref a_p0, .int (Int32.ofInt x1)]) (n := 2) (Nat.le_of_ble_eq_true rfl)
  rw [lg_entry_eq]
  generalize (lg_sl ([.ref a_p0, .int (Int32.ofInt x1)]) ++ List.replicate (2 - (lg_sl ([.ref a_p0, .int (Int32.ofInt x1)])).length) Slot.unset).toArray = ls at hl ⊢
  have hl : lv_has ls 2 [(0, .ref a_p0), (1, .int (Int32.ofInt x1))] := hl
  refine W_nameQ (fun Q hQ => ?_)
  obtain ⟨H, hH⟩ : ∃ H, H = s.heap := ⟨_, rfl⟩
  replace hS : va_S A s.heap H [] := by rw [hH]; exact hS
  replace hP : va_P D vwCl [(a_p0, .inr (12, [.ref a_p0_st, .ref a_p0_isKept, .int (Int32.ofInt i_p0_seats), .int (Int32.ofInt i_p0_stirs), .ref a_p0_brings, .ref a_p0_need, .ref a_p0_draft, .int (Int32.ofInt i_p0_dSeats), .int (Int32.ofInt i_p0_dStirs), .ref a_p0_dStir, .ref a_p0_dNeed, .int (Int32.ofInt i_p0_told), .int (Int32.ofInt i_p0_highest), .ref a_p0_tape, .int (Int32.ofInt i_p0_taped), .int (Int32.ofInt i_p0_pos), .int (Int32.ofInt i_p0_from), .int (Int32.ofInt i_p0_sort), .int (Int32.ofInt i_p0_value), .int (Int32.ofInt i_p0_fault), .int (Int32.ofInt i_p0_wrongAt), .ref a_p0_places, .ref a_p0_stirred, .ref a_p0_ways, .ref a_p0_waysThen, .ref a_p0_stays, .ref a_p0_fewest, .ref a_p0_bowls, .ref a_p0_has, .ref a_p0_goesOn, .ref a_p0_isThere, .ref a_p0_isThereThen, .ref a_p0_bestRow, .ref a_p0_lanes, .ref a_p0_sizes, .ref a_p0_cells, .int (Int32.ofInt i_p0_torn)])), (a_p0_st, .inl (G 1, 152, .inl (zA v_p0_st))), (a_p0_isKept, .inl (G 3, 2, .inl (zA v_p0_isKept)))] H := by rw [hH]; exact hP
  rw [← hH]
  clear hH
  unfold f_X12_back at hf
  refine lv_iload_n hx hb dX12_back_0 rfl (lv_at hl 1 rfl) ?_
  have hr0 := ck_c hf
  replace hf := ck_r hf
  refine lv_i2l (v := Int64.ofInt x1) hx hb dX12_back_1 (z_i2l hr0) ?_
  refine lv_lconst (v := Int64.ofInt (0 : Int)) hx hb dX12_back_2 (by decide) ?_
  refine lv_lconst (v := Int64.ofInt (1 : Int)) hx hb dX12_back_3 (by decide) ?_
  have hq := bd1_s hf
  clear hf
  obtain ⟨z2, hcall, hf⟩ := hq
  refine gnI (va_runS (As := [.long (Int64.ofInt x1), .long (Int64.ofInt (0 : Int)), .long (Int64.ofInt (1 : Int))]) (rest := []) ⟨hx, hb, hml, hown, hts⟩ (c_X12_in (l := l) (D := D) (G := G) (sz := H.size) (x0 := x1) (x2 := (0 : Int)) (x4 := (1 : Int)) (r := z2) (hf := hcall)) (va_cwS 3 hts gX12_back_X12_in rfl rfl rfl (by decide +kernel) ⟨Nat.le_of_ble_eq_true rfl, Nat.le_of_ble_eq_true rfl⟩) (preG_S (hP.sub [] rfl) (hD.sub [] rfl rfl) hK) rfl rfl hl.1 rfl (lv_room (Nat.le_of_ble_eq_true rfl)) dX12_back_4 ⟨Nat.le_of_ble_eq_true rfl, Nat.le_of_ble_eq_true rfl⟩) hP hD hS hA [] rfl (fun H locs hP hD hS => ?_)
  clear hcall
  have hr2 := ck_c hf
  replace hf := ck_r hf
  refine lv_if_ne (tgt := 12) hx hb dX12_back_7 (by decide) (fun cc => ?_) (fun cc => ?_)
  ·
    replace hf := ite_f (fun h9 => cc ((z_eq0 hr2).mpr h9)) hf
    clear cc
    refine lv_aload_n hx hb dX12_back_12 rfl (lv_at hl 0 rfl) ?_
    refine va_get (D := D) (ci := 12) (v := .ref a_p0_isKept) (C := RX12) (T := TX12) (N := 37) hx hb hts inX12_back_X12 hown hK hP 0 rfl rfl 1 (by decide) (hts _ mwX12_back_1) (fun _ h9 => h9) rfl dX12_back_13 ?_
    refine lv_iload_n hx hb dX12_back_16 rfl (lv_at hl 1 rfl) ?_
    have hc := ck_c hf
    replace hf := ck_r hf
    refine va_zald hx hb hK hP 2 3 rfl rfl (z_ix_in hc) dX12_back_17 (z_ci (z_ald v_p0_isKept hc) ?_)
    clear hc
    have hr3 := ck_c hf
    replace hf := ck_r hf
    refine lv_if_ne (tgt := 24) hx hb dX12_back_18 (by decide) (fun cc => ?_) (fun cc => ?_)
    ·
      replace hf := ite_f (fun h9 => cc ((z_eq0 hr3).mpr h9)) hf
      clear cc
      refine lv_aload_n hx hb dX12_back_24 rfl (lv_at hl 0 rfl) ?_
      refine lv_iconst (v := Int32.ofInt (0 : Int)) hx hb dX12_back_25 (by decide) ?_
      refine lv_bipush (v := Int32.ofInt (38 : Int)) hx hb dX12_back_26 (by decide) ?_
      refine lv_iload_n hx hb dX12_back_28 rfl (lv_at hl 1 rfl) ?_
      refine lv_iconst (v := Int32.ofInt (1 : Int)) hx hb dX12_back_29 (by decide) ?_
      refine lv_iadd hx hb dX12_back_30 (z_ci (Int32.ofInt_add x1 (1 : Int)) ?_)
      refine lv_imul hx hb dX12_back_31 (z_ci (Int32.ofInt_mul (38 : Int) (x1 + (1 : Int))) ?_)
      have hq := bd1_s hf
      clear hf
      obtain ⟨w5, hcall, hf⟩ := hq
      refine gsV (ws' := [(a_p0, .inr (12, [.ref a_p0_st, .ref a_p0_isKept, .int (Int32.ofInt i_p0_seats), .int (Int32.ofInt i_p0_stirs), .ref a_p0_brings, .ref a_p0_need, .ref a_p0_draft, .int (Int32.ofInt i_p0_dSeats), .int (Int32.ofInt i_p0_dStirs), .ref a_p0_dStir, .ref a_p0_dNeed, .int (Int32.ofInt i_p0_told), .int (Int32.ofInt i_p0_highest), .ref a_p0_tape, .int (Int32.ofInt i_p0_taped), .int (Int32.ofInt i_p0_pos), .int (Int32.ofInt i_p0_from), .int (Int32.ofInt i_p0_sort), .int (Int32.ofInt i_p0_value), .int (Int32.ofInt i_p0_fault), .int (Int32.ofInt i_p0_wrongAt), .ref a_p0_places, .ref a_p0_stirred, .ref a_p0_ways, .ref a_p0_waysThen, .ref a_p0_stays, .ref a_p0_fewest, .ref a_p0_bowls, .ref a_p0_has, .ref a_p0_goesOn, .ref a_p0_isThere, .ref a_p0_isThereThen, .ref a_p0_bestRow, .ref a_p0_lanes, .ref a_p0_sizes, .ref a_p0_cells, .int (Int32.ofInt i_p0_torn)])), (a_p0_st, .inl (G 1, 152, .inl (zA w5))), (a_p0_isKept, .inl (G 3, 2, .inl (zA v_p0_isKept)))]) (va_runV (As := [.int (Int32.ofInt (0 : Int)), .int (Int32.ofInt ((38 : Int) * (x1 + (1 : Int))))]) (rest := []) ⟨hx, hb, hml, hown, hts⟩ (c_X12_copies (l := l) (D := D) (G := G) (sz := H.size) (a_p0 := a_p0) (a_p0_st := a_p0_st) (a_p0_isKept := a_p0_isKept) (a_p0_brings := a_p0_brings) (a_p0_need := a_p0_need) (a_p0_draft := a_p0_draft) (a_p0_dStir := a_p0_dStir) (a_p0_dNeed := a_p0_dNeed) (a_p0_tape := a_p0_tape) (a_p0_places := a_p0_places) (a_p0_stirred := a_p0_stirred) (a_p0_ways := a_p0_ways) (a_p0_waysThen := a_p0_waysThen) (a_p0_stays := a_p0_stays) (a_p0_fewest := a_p0_fewest) (a_p0_bowls := a_p0_bowls) (a_p0_has := a_p0_has) (a_p0_goesOn := a_p0_goesOn) (a_p0_isThere := a_p0_isThere) (a_p0_isThereThen := a_p0_isThereThen) (a_p0_bestRow := a_p0_bestRow) (a_p0_lanes := a_p0_lanes) (a_p0_sizes := a_p0_sizes) (a_p0_cells := a_p0_cells) (i_p0_seats := i_p0_seats) (i_p0_stirs := i_p0_stirs) (i_p0_dSeats := i_p0_dSeats) (i_p0_dStirs := i_p0_dStirs) (i_p0_told := i_p0_told) (i_p0_highest := i_p0_highest) (i_p0_taped := i_p0_taped) (i_p0_pos := i_p0_pos) (i_p0_from := i_p0_from) (i_p0_sort := i_p0_sort) (i_p0_value := i_p0_value) (i_p0_fault := i_p0_fault) (i_p0_wrongAt := i_p0_wrongAt) (i_p0_torn := i_p0_torn) (v_p0_st := v_p0_st) (x1 := (0 : Int)) (x2 := ((38 : Int) * (x1 + (1 : Int)))) (o_v_p0_st := w5) (hf := hcall)) (cwV 2 hts gX12_back_X12_copies rfl rfl rfl hdV_yX12_copies_RX12 ⟨Nat.le_of_ble_eq_true rfl, Nat.le_of_ble_eq_true rfl⟩) (preG_V (ci := 12) (q := (RX12, TX12, 37)) (hP.sub [0, 1] rfl) (hD.sub [0, 1] rfl rfl) hK rfl rfl) rfl rfl hl.1 rfl (lv_room (Nat.le_of_ble_eq_true rfl)) dX12_back_32 ⟨Nat.le_of_ble_eq_true rfl, Nat.le_of_ble_eq_true rfl⟩) hP hD hS hA [0, 1] rfl rfl rfl (fun H locs hP hD hS => ?_)
      clear hcall
      refine lv_aload_n hx hb dX12_back_35 rfl (lv_at hl 0 rfl) ?_
      refine va_get (D := D) (ci := 12) (v := .ref a_p0_st) (C := RX12) (T := TX12) (N := 37) hx hb hts inX12_back_X12 hown hK hP 0 rfl rfl 0 (by decide) (hts _ mwX12_back_2) (fun _ h9 => h9) rfl dX12_back_36 ?_
      refine lv_bipush (v := Int32.ofInt (8 : Int)) hx hb dX12_back_39 (by decide) ?_
      have hc := ck_c hf
      replace hf := ck_r hf
      refine va_iald hx hb hK hP 1 1 rfl rfl (z_ix_in hc) dX12_back_41 (z_ci (z_ald w5 hc) ?_)
      clear hc
      obtain ⟨rfl, rfl⟩ := ou2 hf
      rw [hQ]
      exact W.iret hx hb hr (fun t ht hW => ⟨⟨_, (), rfl, rfl, by rw [ht]; exact hP, va_K.moved hW.alike hK, hD⟩, hS.F ht⟩) hS.2.2 dX12_back_42
    ·
      replace hf := ite_t ((z_eq0 hr3).mp cc) hf
      clear cc
      refine lv_bipush (v := Int32.ofInt (-2 : Int)) hx hb dX12_back_21 (by decide) ?_
      obtain ⟨rfl, rfl⟩ := ou2 hf
      rw [hQ]
      exact W.iret hx hb hr (fun t ht hW => ⟨⟨_, (), rfl, rfl, by rw [ht]; exact hP, va_K.moved hW.alike hK, hD⟩, hS.F ht⟩) hS.2.2 dX12_back_23
  ·
    replace hf := ite_t ((z_eq0 hr2).mp cc) hf
    clear cc
    refine lv_iconst (v := Int32.ofInt (-1 : Int)) hx hb dX12_back_10 (by decide) ?_
    obtain ⟨rfl, rfl⟩ := ou2 hf
    rw [hQ]
    exact W.iret hx hb hr (fun t ht hW => ⟨⟨_, (), rfl, rfl, by rw [ht]; exact hP, va_K.moved hW.alike hK, hD⟩, hS.F ht⟩) hS.2.2 dX12_back_11

noncomputable def f_X12_isSheet (x0 : Int) (x1 : Int) : Option (Int) := (ck (z_r32 x0) (bd1 (f_X12_in x0 (0 : Int) (3 : Int)) (fun (z2 : Int) => (ck (z_r32 z2) (if z2 = (0 : Int) then (some (0 : Int)) else (ck (z_r32 x1) (bd1 (f_X12_in x1 (0 : Int) (2 : Int)) (fun (z5 : Int) => (ck (z_r32 z5) (if z5 = (0 : Int) then (some (0 : Int)) else (some (1 : Int))))))))))))
abbrev rm_X12_isSheet : Room := { frames := 1, cells := 0, slots := 0, locals := 25 }
theorem mwX12_isSheet_0 : Cond.constantLong RX12 306 (3) ∈ wsX12_isSheet := by first | exact List.mem_of_getElem? (i := 1) rfl | decide +kernel
theorem mwX12_isSheet_1 : Cond.constantLong RX12 308 (2) ∈ wsX12_isSheet := by first | exact List.mem_of_getElem? (i := 2) rfl | decide +kernel
set_option maxHeartbeats 8000000 in
set_option maxRecDepth 100000 in
theorem c_X12_isSheet (l : Launch) (D : va_G) (G : Nat → ClassId) (sz : Nat) (x0 : Int) (x1 : Int) (r : Int) (hf : f_X12_isSheet x0 x1 = some r) : Met l yX12_isSheet wsX12_isSheet rm_X12_isSheet (pcG D G [.int (Int32.ofInt x0), .int (Int32.ofInt x1)] sz []) (qcI D G (Int32.ofInt r) [] (va_A [] sz)) 0 0 (va_A [] sz) := by
  refine Met.ofW (cc := cX12_isSheet) (maxL := 2) (ret := (some .boolean)) (by decide) rfl ?_
  intro p e s m args below meth c s₁ B hml hv
  obtain ⟨rfl, hsz, hP, hK, hD0⟩ := hv
  have hx := B.exec
  have hb := B.bytes
  have hr := B.returns
  have hts := atoms_spec (ws := wsX12_isSheet) B.pre
  have hown : s.vm.findClass RX12 = some m.cls := findClass_of_methodNamed B.named
  have hlocks := B.notSynchronized
  subst hsz
  have hD := hD0.self (sz := s.heap.size)
  generalize hAe : va_A [] s.heap.size = A at hD ⊢
  have hA : ∀ q : Nat, s.heap.size ≤ q → A q := fun q h => by rw [← hAe]; exact Or.inr h
  clear hAe hD0
  have hS : va_S A s.heap s.heap [] := va_S.rf
  have hl := lv_entry ([.int (Int32.ofInt x0), .int (Int32.ofInt x1)]) (n := 2) (Nat.le_of_ble_eq_true rfl)
  rw [lg_entry_eq]
  generalize (lg_sl ([.int (Int32.ofInt x0), .int (Int32.ofInt x1)]) ++ List.replicate (2 - (lg_sl ([.int (Int32.ofInt x0), .int (Int32.ofInt x1)])).length) Slot.unset).toArray = ls at hl ⊢
  have hl : lv_has ls 2 [(0, .int (Int32.ofInt x0)), (1, .int (Int32.ofInt x1))] := hl
  refine W_nameQ (fun Q hQ => ?_)
  obtain ⟨H, hH⟩ : ∃ H, H = s.heap := ⟨_, rfl⟩
  replace hS : va_S A s.heap H [] := by rw [hH]; exact hS
  replace hP : va_P D vwCl [] H := by rw [hH]; exact hP
  rw [← hH]
  clear hH
  unfold f_X12_isSheet at hf
  refine lv_iload_n hx hb dX12_isSheet_0 rfl (lv_at hl 0 rfl) ?_
  have hr0 := ck_c hf
  replace hf := ck_r hf
  refine lv_i2l (v := Int64.ofInt x0) hx hb dX12_isSheet_1 (z_i2l hr0) ?_
  refine lv_lconst (v := Int64.ofInt (0 : Int)) hx hb dX12_isSheet_2 (by decide) ?_
  refine lv_ldc2 (v := (3 : Int64)) hx hb hown (hts _ mwX12_isSheet_0) dX12_isSheet_3 (z_cl (show Int64.ofInt (3 : Int) = _ from by decide) ?_)
  have hq := bd1_s hf
  clear hf
  obtain ⟨z2, hcall, hf⟩ := hq
  refine gnI (va_runS (As := [.long (Int64.ofInt x0), .long (Int64.ofInt (0 : Int)), .long (Int64.ofInt (3 : Int))]) (rest := []) ⟨hx, hb, hml, hown, hts⟩ (c_X12_in (l := l) (D := D) (G := G) (sz := H.size) (x0 := x0) (x2 := (0 : Int)) (x4 := (3 : Int)) (r := z2) (hf := hcall)) (va_cwS 3 hts gX12_isSheet_X12_in rfl rfl rfl (by decide +kernel) ⟨Nat.le_of_ble_eq_true rfl, Nat.le_of_ble_eq_true rfl⟩) (preG_S (hP.sub [] rfl) (hD.sub [] rfl rfl) hK) rfl rfl hl.1 rfl (lv_room (Nat.le_of_ble_eq_true rfl)) dX12_isSheet_6 ⟨Nat.le_of_ble_eq_true rfl, Nat.le_of_ble_eq_true rfl⟩) hP hD hS hA [] rfl (fun H locs hP hD hS => ?_)
  clear hcall
  have hr2 := ck_c hf
  replace hf := ck_r hf
  refine lv_if_eq (tgt := 28) hx hb dX12_isSheet_9 (by decide) (fun cc => ?_) (fun cc => ?_)
  ·
    replace hf := ite_t ((z_eq0 hr2).mp cc) hf
    clear cc
    refine lv_iconst (v := Int32.ofInt (0 : Int)) hx hb dX12_isSheet_28 (by decide) ?_
    obtain rfl := ou1 hf
    rw [hQ]
    exact W.zret hx hb hr rfl (fun t ht hW => ⟨⟨_, (), rfl, rfl, by rw [ht]; exact hP, va_K.moved hW.alike hK, hD⟩, hS.F ht⟩) hS.2.2 dX12_isSheet_29
  ·
    replace hf := ite_f (fun h9 => cc ((z_eq0 hr2).mpr h9)) hf
    clear cc
    refine lv_iload_n hx hb dX12_isSheet_12 rfl (lv_at hl 1 rfl) ?_
    have hr3 := ck_c hf
    replace hf := ck_r hf
    refine lv_i2l (v := Int64.ofInt x1) hx hb dX12_isSheet_13 (z_i2l hr3) ?_
    refine lv_lconst (v := Int64.ofInt (0 : Int)) hx hb dX12_isSheet_14 (by decide) ?_
    refine lv_ldc2 (v := (2 : Int64)) hx hb hown (hts _ mwX12_isSheet_1) dX12_isSheet_15 (z_cl (show Int64.ofInt (2 : Int) = _ from by decide) ?_)
    have hq := bd1_s hf
    clear hf
    obtain ⟨z5, hcall, hf⟩ := hq
    refine gnI (va_runS (As := [.long (Int64.ofInt x1), .long (Int64.ofInt (0 : Int)), .long (Int64.ofInt (2 : Int))]) (rest := []) ⟨hx, hb, hml, hown, hts⟩ (c_X12_in (l := l) (D := D) (G := G) (sz := H.size) (x0 := x1) (x2 := (0 : Int)) (x4 := (2 : Int)) (r := z5) (hf := hcall)) (va_cwS 3 hts gX12_isSheet_X12_in rfl rfl rfl (by decide +kernel) ⟨Nat.le_of_ble_eq_true rfl, Nat.le_of_ble_eq_true rfl⟩) (preG_S (hP.sub [] rfl) (hD.sub [] rfl rfl) hK) rfl rfl hl.1 rfl (lv_room (Nat.le_of_ble_eq_true rfl)) dX12_isSheet_18 ⟨Nat.le_of_ble_eq_true rfl, Nat.le_of_ble_eq_true rfl⟩) hP hD hS hA [] rfl (fun H locs hP hD hS => ?_)
    clear hcall
    have hr5 := ck_c hf
    replace hf := ck_r hf
    refine lv_if_eq (tgt := 28) hx hb dX12_isSheet_21 (by decide) (fun cc => ?_) (fun cc => ?_)
    ·
      replace hf := ite_t ((z_eq0 hr5).mp cc) hf
      clear cc
      refine lv_iconst (v := Int32.ofInt (0 : Int)) hx hb dX12_isSheet_28 (by decide) ?_
      obtain rfl := ou1 hf
      rw [hQ]
      exact W.zret hx hb hr rfl (fun t ht hW => ⟨⟨_, (), rfl, rfl, by rw [ht]; exact hP, va_K.moved hW.alike hK, hD⟩, hS.F ht⟩) hS.2.2 dX12_isSheet_29
    ·
      replace hf := ite_f (fun h9 => cc ((z_eq0 hr5).mpr h9)) hf
      clear cc
      refine lv_iconst (v := Int32.ofInt (1 : Int)) hx hb dX12_isSheet_24 (by decide) ?_
      refine lv_goto (tgt := 29) hx hb dX12_isSheet_25 (by decide) ?_
      obtain rfl := ou1 hf
      rw [hQ]
      exact W.zret hx hb hr rfl (fun t ht hW => ⟨⟨_, (), rfl, rfl, by rw [ht]; exact hP, va_K.moved hW.alike hK, hD⟩, hS.F ht⟩) hS.2.2 dX12_isSheet_29

noncomputable def B_X12_sheet_40 (w4 : (Int → Int)) (w5 : (Int → Int)) (x1 : Int) (again40 : Int → (Int → Int) → Option (Int × (Int → Int) × (Int → Int) × (Int → Int))) (z7 : Int) (w8 : (Int → Int)) : Option (Int × (Int → Int) × (Int → Int) × (Int → Int)) := (ck (z_r32 z7) (if (40 : Int) ≤ z7 then (some ((1 : Int), w4, w5, w8)) else (ck (z_ix (((40 : Int) * x1) + z7) 160) (bnd (z_up w8 (((40 : Int) * x1) + z7) (0 : Int)) (fun (w11 : (Int → Int)) => (bnd (z7 + (1 : Int)) (fun (z12 : Int) => (again40 z12 w11))))))))
noncomputable def f_X12_sheet (v_p0_lanes : (Int → Int)) (v_p0_sizes : (Int → Int)) (v_p0_cells : (Int → Int)) (x1 : Int) (x2 : Int) (x3 : Int) : Option (Int × (Int → Int) × (Int → Int) × (Int → Int)) := (bd1 (f_X12_isSheet x1 x2) (fun (z1 : Int) => (ck (z_r32 z1) (if z1 = (0 : Int) then (some ((-1 : Int), v_p0_lanes, v_p0_sizes, v_p0_cells)) else (ck (z_r32 x3) (if x3 ≤ (40 : Int) then (if (0 : Int) ≤ x3 then (ck (z_ix x1 4) (bnd (z_up v_p0_lanes x1 x2) (fun (w4 : (Int → Int)) => (ck (z_ix x1 4) (bnd (z_up v_p0_sizes x1 x3) (fun (w5 : (Int → Int)) => (bnd (0 : Int) (fun (z6 : Int) => (lq2 (B_X12_sheet_40 w4 w5 x1) 1000 z6 v_p0_cells))))))))) else (some ((-14 : Int), v_p0_lanes, v_p0_sizes, v_p0_cells))) else (some ((-1 : Int), v_p0_lanes, v_p0_sizes, v_p0_cells))))))))
abbrev rm_X12_sheet : Room := { frames := 2, cells := 0, slots := 0, locals := 46 }
theorem inX12_sheet_X12 : ∀ w ∈ wsX120, w ∈ wsX12_sheet := by first | exact fun w h => List.mem_cons_of_mem _ (List.mem_append_right _ h) | decide +kernel
theorem mwX12_sheet_1 : Cond.fieldLink RX12 72 "LadleKingsModel" "lanes" "[I" ∈ wsX12_sheet := by first | exact List.mem_of_getElem? (i := 1) rfl | decide +kernel
theorem mwX12_sheet_2 : Cond.fieldLink RX12 75 "LadleKingsModel" "sizes" "[I" ∈ wsX12_sheet := by first | exact List.mem_of_getElem? (i := 2) rfl | decide +kernel
theorem mwX12_sheet_3 : Cond.fieldLink RX12 78 "LadleKingsModel" "cells" "[I" ∈ wsX12_sheet := by first | exact List.mem_of_getElem? (i := 3) rfl | decide +kernel
set_option maxHeartbeats 8000000 in
set_option maxRecDepth 100000 in
theorem c_X12_sheet (l : Launch) (D : va_G) (G : Nat → ClassId) (sz : Nat) (a_p0 : Nat) (a_p0_st : Nat) (a_p0_isKept : Nat) (a_p0_brings : Nat) (a_p0_need : Nat) (a_p0_draft : Nat) (a_p0_dStir : Nat) (a_p0_dNeed : Nat) (a_p0_tape : Nat) (a_p0_places : Nat) (a_p0_stirred : Nat) (a_p0_ways : Nat) (a_p0_waysThen : Nat) (a_p0_stays : Nat) (a_p0_fewest : Nat) (a_p0_bowls : Nat) (a_p0_has : Nat) (a_p0_goesOn : Nat) (a_p0_isThere : Nat) (a_p0_isThereThen : Nat) (a_p0_bestRow : Nat) (a_p0_lanes : Nat) (a_p0_sizes : Nat) (a_p0_cells : Nat) (i_p0_seats : Int) (i_p0_stirs : Int) (i_p0_dSeats : Int) (i_p0_dStirs : Int) (i_p0_told : Int) (i_p0_highest : Int) (i_p0_taped : Int) (i_p0_pos : Int) (i_p0_from : Int) (i_p0_sort : Int) (i_p0_value : Int) (i_p0_fault : Int) (i_p0_wrongAt : Int) (i_p0_torn : Int) (v_p0_lanes : (Int → Int)) (v_p0_sizes : (Int → Int)) (v_p0_cells : (Int → Int)) (x1 : Int) (x2 : Int) (x3 : Int) (r : Int) (o_v_p0_lanes : (Int → Int)) (o_v_p0_sizes : (Int → Int)) (o_v_p0_cells : (Int → Int)) (hf : f_X12_sheet v_p0_lanes v_p0_sizes v_p0_cells x1 x2 x3 = some (r, o_v_p0_lanes, o_v_p0_sizes, o_v_p0_cells)) : Met l yX12_sheet wsX12_sheet rm_X12_sheet (pcG D G [.ref a_p0, .int (Int32.ofInt x1), .int (Int32.ofInt x2), .int (Int32.ofInt x3)] sz [(a_p0, .inr (12, [.ref a_p0_st, .ref a_p0_isKept, .int (Int32.ofInt i_p0_seats), .int (Int32.ofInt i_p0_stirs), .ref a_p0_brings, .ref a_p0_need, .ref a_p0_draft, .int (Int32.ofInt i_p0_dSeats), .int (Int32.ofInt i_p0_dStirs), .ref a_p0_dStir, .ref a_p0_dNeed, .int (Int32.ofInt i_p0_told), .int (Int32.ofInt i_p0_highest), .ref a_p0_tape, .int (Int32.ofInt i_p0_taped), .int (Int32.ofInt i_p0_pos), .int (Int32.ofInt i_p0_from), .int (Int32.ofInt i_p0_sort), .int (Int32.ofInt i_p0_value), .int (Int32.ofInt i_p0_fault), .int (Int32.ofInt i_p0_wrongAt), .ref a_p0_places, .ref a_p0_stirred, .ref a_p0_ways, .ref a_p0_waysThen, .ref a_p0_stays, .ref a_p0_fewest, .ref a_p0_bowls, .ref a_p0_has, .ref a_p0_goesOn, .ref a_p0_isThere, .ref a_p0_isThereThen, .ref a_p0_bestRow, .ref a_p0_lanes, .ref a_p0_sizes, .ref a_p0_cells, .int (Int32.ofInt i_p0_torn)])), (a_p0_lanes, .inl (G 1, 4, .inl (zA v_p0_lanes))), (a_p0_sizes, .inl (G 1, 4, .inl (zA v_p0_sizes))), (a_p0_cells, .inl (G 1, 160, .inl (zA v_p0_cells)))]) (qcI D G (Int32.ofInt r) [(a_p0, .inr (12, [.ref a_p0_st, .ref a_p0_isKept, .int (Int32.ofInt i_p0_seats), .int (Int32.ofInt i_p0_stirs), .ref a_p0_brings, .ref a_p0_need, .ref a_p0_draft, .int (Int32.ofInt i_p0_dSeats), .int (Int32.ofInt i_p0_dStirs), .ref a_p0_dStir, .ref a_p0_dNeed, .int (Int32.ofInt i_p0_told), .int (Int32.ofInt i_p0_highest), .ref a_p0_tape, .int (Int32.ofInt i_p0_taped), .int (Int32.ofInt i_p0_pos), .int (Int32.ofInt i_p0_from), .int (Int32.ofInt i_p0_sort), .int (Int32.ofInt i_p0_value), .int (Int32.ofInt i_p0_fault), .int (Int32.ofInt i_p0_wrongAt), .ref a_p0_places, .ref a_p0_stirred, .ref a_p0_ways, .ref a_p0_waysThen, .ref a_p0_stays, .ref a_p0_fewest, .ref a_p0_bowls, .ref a_p0_has, .ref a_p0_goesOn, .ref a_p0_isThere, .ref a_p0_isThereThen, .ref a_p0_bestRow, .ref a_p0_lanes, .ref a_p0_sizes, .ref a_p0_cells, .int (Int32.ofInt i_p0_torn)])), (a_p0_lanes, .inl (G 1, 4, .inl (zA o_v_p0_lanes))), (a_p0_sizes, .inl (G 1, 4, .inl (zA o_v_p0_sizes))), (a_p0_cells, .inl (G 1, 160, .inl (zA o_v_p0_cells)))] (va_A [(a_p0, .inr (12, [.ref a_p0_st, .ref a_p0_isKept, .int (Int32.ofInt i_p0_seats), .int (Int32.ofInt i_p0_stirs), .ref a_p0_brings, .ref a_p0_need, .ref a_p0_draft, .int (Int32.ofInt i_p0_dSeats), .int (Int32.ofInt i_p0_dStirs), .ref a_p0_dStir, .ref a_p0_dNeed, .int (Int32.ofInt i_p0_told), .int (Int32.ofInt i_p0_highest), .ref a_p0_tape, .int (Int32.ofInt i_p0_taped), .int (Int32.ofInt i_p0_pos), .int (Int32.ofInt i_p0_from), .int (Int32.ofInt i_p0_sort), .int (Int32.ofInt i_p0_value), .int (Int32.ofInt i_p0_fault), .int (Int32.ofInt i_p0_wrongAt), .ref a_p0_places, .ref a_p0_stirred, .ref a_p0_ways, .ref a_p0_waysThen, .ref a_p0_stays, .ref a_p0_fewest, .ref a_p0_bowls, .ref a_p0_has, .ref a_p0_goesOn, .ref a_p0_isThere, .ref a_p0_isThereThen, .ref a_p0_bestRow, .ref a_p0_lanes, .ref a_p0_sizes, .ref a_p0_cells, .int (Int32.ofInt i_p0_torn)])), (a_p0_lanes, .inl (G 1, 4, .inl (zA v_p0_lanes))), (a_p0_sizes, .inl (G 1, 4, .inl (zA v_p0_sizes))), (a_p0_cells, .inl (G 1, 160, .inl (zA v_p0_cells)))] sz)) 0 0 (va_A [(a_p0, .inr (12, [.ref a_p0_st, .ref a_p0_isKept, .int (Int32.ofInt i_p0_seats), .int (Int32.ofInt i_p0_stirs), .ref a_p0_brings, .ref a_p0_need, .ref a_p0_draft, .int (Int32.ofInt i_p0_dSeats), .int (Int32.ofInt i_p0_dStirs), .ref a_p0_dStir, .ref a_p0_dNeed, .int (Int32.ofInt i_p0_told), .int (Int32.ofInt i_p0_highest), .ref a_p0_tape, .int (Int32.ofInt i_p0_taped), .int (Int32.ofInt i_p0_pos), .int (Int32.ofInt i_p0_from), .int (Int32.ofInt i_p0_sort), .int (Int32.ofInt i_p0_value), .int (Int32.ofInt i_p0_fault), .int (Int32.ofInt i_p0_wrongAt), .ref a_p0_places, .ref a_p0_stirred, .ref a_p0_ways, .ref a_p0_waysThen, .ref a_p0_stays, .ref a_p0_fewest, .ref a_p0_bowls, .ref a_p0_has, .ref a_p0_goesOn, .ref a_p0_isThere, .ref a_p0_isThereThen, .ref a_p0_bestRow, .ref a_p0_lanes, .ref a_p0_sizes, .ref a_p0_cells, .int (Int32.ofInt i_p0_torn)])), (a_p0_lanes, .inl (G 1, 4, .inl (zA v_p0_lanes))), (a_p0_sizes, .inl (G 1, 4, .inl (zA v_p0_sizes))), (a_p0_cells, .inl (G 1, 160, .inl (zA v_p0_cells)))] sz) := by
  refine Met.ofW (cc := cX12_sheet) (maxL := 5) (ret := (some .int)) (by decide) rfl ?_
  intro p e s m args below meth c s₁ B hml hv
  obtain ⟨rfl, hsz, hP, hK, hD0⟩ := hv
  have hx := B.exec
  have hb := B.bytes
  have hr := B.returns
  have hts := atoms_spec (ws := wsX12_sheet) B.pre
  have hown : s.vm.findClass RX12 = some m.cls := findClass_of_methodNamed B.named
  have hlocks := B.notSynchronized
  subst hsz
  have hD := hD0.self (sz := s.heap.size)
  generalize hAe : va_A [(a_p0, .inr (12, [.ref a_p0_st, .ref a_p0_isKept, .int (Int32.ofInt i_p0_seats), .int (Int32.ofInt i_p0_stirs), .ref a_p0_brings, .ref a_p0_need, .ref a_p0_draft, .int (Int32.ofInt i_p0_dSeats), .int (Int32.ofInt i_p0_dStirs), .ref a_p0_dStir, .ref a_p0_dNeed, .int (Int32.ofInt i_p0_told), .int (Int32.ofInt i_p0_highest), .ref a_p0_tape, .int (Int32.ofInt i_p0_taped), .int (Int32.ofInt i_p0_pos), .int (Int32.ofInt i_p0_from), .int (Int32.ofInt i_p0_sort), .int (Int32.ofInt i_p0_value), .int (Int32.ofInt i_p0_fault), .int (Int32.ofInt i_p0_wrongAt), .ref a_p0_places, .ref a_p0_stirred, .ref a_p0_ways, .ref a_p0_waysThen, .ref a_p0_stays, .ref a_p0_fewest, .ref a_p0_bowls, .ref a_p0_has, .ref a_p0_goesOn, .ref a_p0_isThere, .ref a_p0_isThereThen, .ref a_p0_bestRow, .ref a_p0_lanes, .ref a_p0_sizes, .ref a_p0_cells, .int (Int32.ofInt i_p0_torn)])), (a_p0_lanes, .inl (G 1, 4, .inl (zA v_p0_lanes))), (a_p0_sizes, .inl (G 1, 4, .inl (zA v_p0_sizes))), (a_p0_cells, .inl (G 1, 160, .inl (zA v_p0_cells)))] s.heap.size = A at hD ⊢
  have hA : ∀ q : Nat, s.heap.size ≤ q → A q := fun q h => by rw [← hAe]; exact Or.inr h
  clear hAe hD0
  have hS : va_S A s.heap s.heap [] := va_S.rf
  have hl := lv_entry ([.ref a_p0, .int (Int32.ofInt x1), .int (Int32.ofInt x2), .int (Int32.ofInt x3)]) (n := 5) (Nat.le_of_ble_eq_true rfl)
  rw [lg_entry_eq]
  generalize (lg_sl ([.ref a_p0, .int (Int32.ofInt x1), .int (Int32.ofInt x2), .int (Int32.ofInt x3)]) ++ List.replicate (5 - (lg_sl ([.ref a_p0, .int (Int32.ofInt x1), .int (Int32.ofInt x2), .int (Int32.ofInt x3)])).length) Slot.unset).toArray = ls at hl ⊢
  have hl : lv_has ls 5 [(0, .ref a_p0), (1, .int (Int32.ofInt x1)), (2, .int (Int32.ofInt x2)), (3, .int (Int32.ofInt x3))] := hl
  refine W_nameQ (fun Q hQ => ?_)
  obtain ⟨H, hH⟩ : ∃ H, H = s.heap := ⟨_, rfl⟩
  replace hS : va_S A s.heap H [] := by rw [hH]; exact hS
  replace hP : va_P D vwCl [(a_p0, .inr (12, [.ref a_p0_st, .ref a_p0_isKept, .int (Int32.ofInt i_p0_seats), .int (Int32.ofInt i_p0_stirs), .ref a_p0_brings, .ref a_p0_need, .ref a_p0_draft, .int (Int32.ofInt i_p0_dSeats), .int (Int32.ofInt i_p0_dStirs), .ref a_p0_dStir, .ref a_p0_dNeed, .int (Int32.ofInt i_p0_told), .int (Int32.ofInt i_p0_highest), .ref a_p0_tape, .int (Int32.ofInt i_p0_taped), .int (Int32.ofInt i_p0_pos), .int (Int32.ofInt i_p0_from), .int (Int32.ofInt i_p0_sort), .int (Int32.ofInt i_p0_value), .int (Int32.ofInt i_p0_fault), .int (Int32.ofInt i_p0_wrongAt), .ref a_p0_places, .ref a_p0_stirred, .ref a_p0_ways, .ref a_p0_waysThen, .ref a_p0_stays, .ref a_p0_fewest, .ref a_p0_bowls, .ref a_p0_has, .ref a_p0_goesOn, .ref a_p0_isThere, .ref a_p0_isThereThen, .ref a_p0_bestRow, .ref a_p0_lanes, .ref a_p0_sizes, .ref a_p0_cells, .int (Int32.ofInt i_p0_torn)])), (a_p0_lanes, .inl (G 1, 4, .inl (zA v_p0_lanes))), (a_p0_sizes, .inl (G 1, 4, .inl (zA v_p0_sizes))), (a_p0_cells, .inl (G 1, 160, .inl (zA v_p0_cells)))] H := by rw [hH]; exact hP
  rw [← hH]
  clear hH
  unfold f_X12_sheet at hf
  refine lv_iload_n hx hb dX12_sheet_0 rfl (lv_at hl 1 rfl) ?_
  refine lv_iload_n hx hb dX12_sheet_1 rfl (lv_at hl 2 rfl) ?_
  have hq := bd1_s hf
  clear hf
  obtain ⟨z1, hcall, hf⟩ := hq
  refine gnI (va_runS (As := [.int (Int32.ofInt x1), .int (Int32.ofInt x2)]) (rest := []) ⟨hx, hb, hml, hown, hts⟩ (c_X12_isSheet (l := l) (D := D) (G := G) (sz := H.size) (x0 := x1) (x1 := x2) (r := z1) (hf := hcall)) (va_cwS 2 hts gX12_sheet_X12_isSheet rfl rfl rfl (by decide +kernel) ⟨Nat.le_of_ble_eq_true rfl, Nat.le_of_ble_eq_true rfl⟩) (preG_S (hP.sub [] rfl) (hD.sub [] rfl rfl) hK) rfl rfl hl.1 rfl (lv_room (Nat.le_of_ble_eq_true rfl)) dX12_sheet_2 ⟨Nat.le_of_ble_eq_true rfl, Nat.le_of_ble_eq_true rfl⟩) hP hD hS hA [] rfl (fun H locs hP hD hS => ?_)
  clear hcall
  have hr1 := ck_c hf
  replace hf := ck_r hf
  refine lv_if_eq (tgt := 14) hx hb dX12_sheet_5 (by decide) (fun cc => ?_) (fun cc => ?_)
  ·
    replace hf := ite_t ((z_eq0 hr1).mp cc) hf
    clear cc
    refine lv_iconst (v := Int32.ofInt (-1 : Int)) hx hb dX12_sheet_14 (by decide) ?_
    obtain ⟨rfl, rfl, rfl, rfl⟩ := ou4 hf
    rw [hQ]
    exact W.iret hx hb hr (fun t ht hW => ⟨⟨_, (), rfl, rfl, by rw [ht]; exact hP, va_K.moved hW.alike hK, hD⟩, hS.F ht⟩) hS.2.2 dX12_sheet_15
  ·
    replace hf := ite_f (fun h9 => cc ((z_eq0 hr1).mpr h9)) hf
    clear cc
    refine lv_iload_n hx hb dX12_sheet_8 rfl (lv_at hl 3 rfl) ?_
    refine lv_bipush (v := Int32.ofInt (40 : Int)) hx hb dX12_sheet_9 (by decide) ?_
    have hr2 := ck_c hf
    replace hf := ck_r hf
    refine lv_icmp_le (tgt := 16) hx hb dX12_sheet_11 (by decide) (fun cc => ?_) (fun cc => ?_)
    ·
      replace hf := ite_t ((z_le hr2 (by decide)).mp cc) hf
      clear cc
      refine lv_iload_n hx hb dX12_sheet_16 rfl (lv_at hl 3 rfl) ?_
      refine lv_if_ge (tgt := 23) hx hb dX12_sheet_17 (by decide) (fun cc => ?_) (fun cc => ?_)
      ·
        replace hf := ite_t ((z_0le hr2).mp cc) hf
        clear cc
        refine lv_aload_n hx hb dX12_sheet_23 rfl (lv_at hl 0 rfl) ?_
        refine va_get (D := D) (ci := 12) (v := .ref a_p0_lanes) (C := RX12) (T := TX12) (N := 37) hx hb hts inX12_sheet_X12 hown hK hP 0 rfl rfl 33 (by decide) (hts _ mwX12_sheet_1) (fun _ h9 => h9) rfl dX12_sheet_24 ?_
        refine lv_iload_n hx hb dX12_sheet_27 rfl (lv_at hl 1 rfl) ?_
        refine lv_iload_n hx hb dX12_sheet_28 rfl (lv_at hl 2 rfl) ?_
        have hc := ck_c hf
        replace hf := ck_r hf
        refine zs_iast (wf := fun w4 => [(a_p0, .inr (12, [.ref a_p0_st, .ref a_p0_isKept, .int (Int32.ofInt i_p0_seats), .int (Int32.ofInt i_p0_stirs), .ref a_p0_brings, .ref a_p0_need, .ref a_p0_draft, .int (Int32.ofInt i_p0_dSeats), .int (Int32.ofInt i_p0_dStirs), .ref a_p0_dStir, .ref a_p0_dNeed, .int (Int32.ofInt i_p0_told), .int (Int32.ofInt i_p0_highest), .ref a_p0_tape, .int (Int32.ofInt i_p0_taped), .int (Int32.ofInt i_p0_pos), .int (Int32.ofInt i_p0_from), .int (Int32.ofInt i_p0_sort), .int (Int32.ofInt i_p0_value), .int (Int32.ofInt i_p0_fault), .int (Int32.ofInt i_p0_wrongAt), .ref a_p0_places, .ref a_p0_stirred, .ref a_p0_ways, .ref a_p0_waysThen, .ref a_p0_stays, .ref a_p0_fewest, .ref a_p0_bowls, .ref a_p0_has, .ref a_p0_goesOn, .ref a_p0_isThere, .ref a_p0_isThereThen, .ref a_p0_bestRow, .ref a_p0_lanes, .ref a_p0_sizes, .ref a_p0_cells, .int (Int32.ofInt i_p0_torn)])), (a_p0_lanes, .inl (G 1, 4, .inl (zA w4))), (a_p0_sizes, .inl (G 1, 4, .inl (zA v_p0_sizes))), (a_p0_cells, .inl (G 1, 160, .inl (zA v_p0_cells)))]) hx hb hK hP hD hS 1 1 rfl rfl hc dX12_sheet_29 (fun _ => rfl) (fun w4 ez H locs hP hD hS => ?_)
        replace hf := bnd_s hf ez
        clear ez hc
        refine lv_aload_n hx hb dX12_sheet_30 rfl (lv_at hl 0 rfl) ?_
        refine va_get (D := D) (ci := 12) (v := .ref a_p0_sizes) (C := RX12) (T := TX12) (N := 37) hx hb hts inX12_sheet_X12 hown hK hP 0 rfl rfl 34 (by decide) (hts _ mwX12_sheet_2) (fun _ h9 => h9) rfl dX12_sheet_31 ?_
        refine lv_iload_n hx hb dX12_sheet_34 rfl (lv_at hl 1 rfl) ?_
        refine lv_iload_n hx hb dX12_sheet_35 rfl (lv_at hl 3 rfl) ?_
        have hc := ck_c hf
        replace hf := ck_r hf
        refine zs_iast (wf := fun w5 => [(a_p0, .inr (12, [.ref a_p0_st, .ref a_p0_isKept, .int (Int32.ofInt i_p0_seats), .int (Int32.ofInt i_p0_stirs), .ref a_p0_brings, .ref a_p0_need, .ref a_p0_draft, .int (Int32.ofInt i_p0_dSeats), .int (Int32.ofInt i_p0_dStirs), .ref a_p0_dStir, .ref a_p0_dNeed, .int (Int32.ofInt i_p0_told), .int (Int32.ofInt i_p0_highest), .ref a_p0_tape, .int (Int32.ofInt i_p0_taped), .int (Int32.ofInt i_p0_pos), .int (Int32.ofInt i_p0_from), .int (Int32.ofInt i_p0_sort), .int (Int32.ofInt i_p0_value), .int (Int32.ofInt i_p0_fault), .int (Int32.ofInt i_p0_wrongAt), .ref a_p0_places, .ref a_p0_stirred, .ref a_p0_ways, .ref a_p0_waysThen, .ref a_p0_stays, .ref a_p0_fewest, .ref a_p0_bowls, .ref a_p0_has, .ref a_p0_goesOn, .ref a_p0_isThere, .ref a_p0_isThereThen, .ref a_p0_bestRow, .ref a_p0_lanes, .ref a_p0_sizes, .ref a_p0_cells, .int (Int32.ofInt i_p0_torn)])), (a_p0_lanes, .inl (G 1, 4, .inl (zA w4))), (a_p0_sizes, .inl (G 1, 4, .inl (zA w5))), (a_p0_cells, .inl (G 1, 160, .inl (zA v_p0_cells)))]) hx hb hK hP hD hS 2 1 rfl rfl hc dX12_sheet_36 (fun _ => rfl) (fun w5 ez H locs hP hD hS => ?_)
        replace hf := bnd_s hf ez
        clear ez hc
        refine lv_iconst (v := Int32.ofInt (0 : Int)) hx hb dX12_sheet_37 (by decide) ?_
        refine z_topi (fun z6 ez => ?_)
        replace hf := bnd_s hf ez
        clear ez
        refine lv_istore (lv' := [(4, .int (Int32.ofInt z6)), (0, .ref a_p0), (1, .int (Int32.ofInt x1)), (2, .int (Int32.ofInt x2)), (3, .int (Int32.ofInt x3))]) hx hb dX12_sheet_38 hl (by decide) rfl (fun ls hl => ?_)
        have hq := lq2_i hf
        clear hf
        obtain ⟨B9, eB9, NB9, hf⟩ := hq
        have hB9 : ∀ (n : Nat) (z7 : Int) (w8 : (Int → Int)) (ls : Array Slot) (H : Heap) (locs : List Loc), lv_has ls 5 [(4, .int (Int32.ofInt z7)), (0, .ref a_p0), (1, .int (Int32.ofInt x1))] → va_P D vwCl [(a_p0, .inr (12, [.ref a_p0_st, .ref a_p0_isKept, .int (Int32.ofInt i_p0_seats), .int (Int32.ofInt i_p0_stirs), .ref a_p0_brings, .ref a_p0_need, .ref a_p0_draft, .int (Int32.ofInt i_p0_dSeats), .int (Int32.ofInt i_p0_dStirs), .ref a_p0_dStir, .ref a_p0_dNeed, .int (Int32.ofInt i_p0_told), .int (Int32.ofInt i_p0_highest), .ref a_p0_tape, .int (Int32.ofInt i_p0_taped), .int (Int32.ofInt i_p0_pos), .int (Int32.ofInt i_p0_from), .int (Int32.ofInt i_p0_sort), .int (Int32.ofInt i_p0_value), .int (Int32.ofInt i_p0_fault), .int (Int32.ofInt i_p0_wrongAt), .ref a_p0_places, .ref a_p0_stirred, .ref a_p0_ways, .ref a_p0_waysThen, .ref a_p0_stays, .ref a_p0_fewest, .ref a_p0_bowls, .ref a_p0_has, .ref a_p0_goesOn, .ref a_p0_isThere, .ref a_p0_isThereThen, .ref a_p0_bestRow, .ref a_p0_lanes, .ref a_p0_sizes, .ref a_p0_cells, .int (Int32.ofInt i_p0_torn)])), (a_p0_lanes, .inl (G 1, 4, .inl (zA w4))), (a_p0_sizes, .inl (G 1, 4, .inl (zA w5))), (a_p0_cells, .inl (G 1, 160, .inl (zA w8)))] H → va_D A [(a_p0, .inr (12, [.ref a_p0_st, .ref a_p0_isKept, .int (Int32.ofInt i_p0_seats), .int (Int32.ofInt i_p0_stirs), .ref a_p0_brings, .ref a_p0_need, .ref a_p0_draft, .int (Int32.ofInt i_p0_dSeats), .int (Int32.ofInt i_p0_dStirs), .ref a_p0_dStir, .ref a_p0_dNeed, .int (Int32.ofInt i_p0_told), .int (Int32.ofInt i_p0_highest), .ref a_p0_tape, .int (Int32.ofInt i_p0_taped), .int (Int32.ofInt i_p0_pos), .int (Int32.ofInt i_p0_from), .int (Int32.ofInt i_p0_sort), .int (Int32.ofInt i_p0_value), .int (Int32.ofInt i_p0_fault), .int (Int32.ofInt i_p0_wrongAt), .ref a_p0_places, .ref a_p0_stirred, .ref a_p0_ways, .ref a_p0_waysThen, .ref a_p0_stays, .ref a_p0_fewest, .ref a_p0_bowls, .ref a_p0_has, .ref a_p0_goesOn, .ref a_p0_isThere, .ref a_p0_isThereThen, .ref a_p0_bestRow, .ref a_p0_lanes, .ref a_p0_sizes, .ref a_p0_cells, .int (Int32.ofInt i_p0_torn)])), (a_p0_lanes, .inl (G 1, 4, .inl (zA w4))), (a_p0_sizes, .inl (G 1, 4, .inl (zA w5))), (a_p0_cells, .inl (G 1, 160, .inl (zA w8)))] → va_S A s.heap H locs → lq2 B9 n z7 w8 = some (r, o_v_p0_lanes, o_v_p0_sizes, o_v_p0_cells) → W p l e rm_X12_sheet s m ([.ref a_p0, .int (Int32.ofInt x1), .int (Int32.ofInt x2), .int (Int32.ofInt x3)] : List Value).toArray below meth c H locs 0 0 Q (F0 m 40 ls []) := by
          clear hf hl hP hD hS
          intro n
          induction n with
          | zero =>
            intro z7 w8 ls H locs hl hP hD hS hf
            exact (lq2_0 hf).elim
          | succ n ih40 =>
            intro z7 w8 ls H locs hl hP hD hS hf
            replace hf := lq2_s eB9 hf
            unfold B_X12_sheet_40 at hf
            refine lv_iload hx hb dX12_sheet_40 (lv_at hl 0 rfl) ?_
            refine lv_bipush (v := Int32.ofInt (40 : Int)) hx hb dX12_sheet_42 (by decide) ?_
            have hr9 := ck_c hf
            replace hf := ck_r hf
            refine lv_icmp_ge (tgt := 66) hx hb dX12_sheet_44 (by decide) (fun cc => ?_) (fun cc => ?_)
            ·
              replace hf := ite_t ((z_le (by decide) hr9).mp cc) hf
              clear cc
              refine lv_iconst (v := Int32.ofInt (1 : Int)) hx hb dX12_sheet_66 (by decide) ?_
              obtain ⟨rfl, rfl, rfl, rfl⟩ := ou4 hf
              rw [hQ]
              exact W.iret hx hb hr (fun t ht hW => ⟨⟨_, (), rfl, rfl, by rw [ht]; exact hP, va_K.moved hW.alike hK, hD⟩, hS.F ht⟩) hS.2.2 dX12_sheet_67
            ·
              replace hf := ite_f (fun h9 => cc ((z_le (by decide) hr9).mpr h9)) hf
              clear cc
              refine lv_aload_n hx hb dX12_sheet_47 rfl (lv_at hl 1 rfl) ?_
              refine va_get (D := D) (ci := 12) (v := .ref a_p0_cells) (C := RX12) (T := TX12) (N := 37) hx hb hts inX12_sheet_X12 hown hK hP 0 rfl rfl 35 (by decide) (hts _ mwX12_sheet_3) (fun _ h9 => h9) rfl dX12_sheet_48 ?_
              refine lv_bipush (v := Int32.ofInt (40 : Int)) hx hb dX12_sheet_51 (by decide) ?_
              refine lv_iload_n hx hb dX12_sheet_53 rfl (lv_at hl 2 rfl) ?_
              refine lv_imul hx hb dX12_sheet_54 (z_ci (Int32.ofInt_mul (40 : Int) x1) ?_)
              refine lv_iload hx hb dX12_sheet_55 (lv_at hl 0 rfl) ?_
              refine lv_iadd hx hb dX12_sheet_57 (z_ci (Int32.ofInt_add ((40 : Int) * x1) z7) ?_)
              refine lv_iconst (v := Int32.ofInt (0 : Int)) hx hb dX12_sheet_58 (by decide) ?_
              have hc := ck_c hf
              replace hf := ck_r hf
              refine zs_iast (wf := fun w11 => [(a_p0, .inr (12, [.ref a_p0_st, .ref a_p0_isKept, .int (Int32.ofInt i_p0_seats), .int (Int32.ofInt i_p0_stirs), .ref a_p0_brings, .ref a_p0_need, .ref a_p0_draft, .int (Int32.ofInt i_p0_dSeats), .int (Int32.ofInt i_p0_dStirs), .ref a_p0_dStir, .ref a_p0_dNeed, .int (Int32.ofInt i_p0_told), .int (Int32.ofInt i_p0_highest), .ref a_p0_tape, .int (Int32.ofInt i_p0_taped), .int (Int32.ofInt i_p0_pos), .int (Int32.ofInt i_p0_from), .int (Int32.ofInt i_p0_sort), .int (Int32.ofInt i_p0_value), .int (Int32.ofInt i_p0_fault), .int (Int32.ofInt i_p0_wrongAt), .ref a_p0_places, .ref a_p0_stirred, .ref a_p0_ways, .ref a_p0_waysThen, .ref a_p0_stays, .ref a_p0_fewest, .ref a_p0_bowls, .ref a_p0_has, .ref a_p0_goesOn, .ref a_p0_isThere, .ref a_p0_isThereThen, .ref a_p0_bestRow, .ref a_p0_lanes, .ref a_p0_sizes, .ref a_p0_cells, .int (Int32.ofInt i_p0_torn)])), (a_p0_lanes, .inl (G 1, 4, .inl (zA w4))), (a_p0_sizes, .inl (G 1, 4, .inl (zA w5))), (a_p0_cells, .inl (G 1, 160, .inl (zA w11)))]) hx hb hK hP hD hS 3 1 rfl rfl hc dX12_sheet_59 (fun _ => rfl) (fun w11 ez H locs hP hD hS => ?_)
              replace hf := bnd_s hf ez
              clear ez hc
              obtain ⟨z12, ez⟩ : ∃ y : Int, y = (z7 + (1 : Int)) := ⟨_, rfl⟩
              replace hf := bnd_s hf ez
              refine lv_iinc (v := Int32.ofInt z12) (lv' := [(4, .int (Int32.ofInt z12)), (0, .ref a_p0), (1, .int (Int32.ofInt x1))]) hx hb dX12_sheet_60 hl (k := 0) rfl (by rw [ez]; exact (Int32.ofInt_add _ _).symm) (by decide) rfl (fun ls hl => ?_)
              clear ez
              refine lv_goto (tgt := 40) hx hb dX12_sheet_63 (by decide) ?_
              exact ih40 _ _ _ _ _ (lv_sub hl [0, 1, 2] rfl) hP hD hS hf
        exact hB9 _ _ _ _ _ _ (lv_sub hl [0, 1, 2] rfl) hP hD hS hf
      ·
        replace hf := ite_f (fun h9 => cc ((z_0le hr2).mpr h9)) hf
        clear cc
        refine lv_bipush (v := Int32.ofInt (-14 : Int)) hx hb dX12_sheet_20 (by decide) ?_
        obtain ⟨rfl, rfl, rfl, rfl⟩ := ou4 hf
        rw [hQ]
        exact W.iret hx hb hr (fun t ht hW => ⟨⟨_, (), rfl, rfl, by rw [ht]; exact hP, va_K.moved hW.alike hK, hD⟩, hS.F ht⟩) hS.2.2 dX12_sheet_22
    ·
      replace hf := ite_f (fun h9 => cc ((z_le hr2 (by decide)).mpr h9)) hf
      clear cc
      refine lv_iconst (v := Int32.ofInt (-1 : Int)) hx hb dX12_sheet_14 (by decide) ?_
      obtain ⟨rfl, rfl, rfl, rfl⟩ := ou4 hf
      rw [hQ]
      exact W.iret hx hb hr (fun t ht hW => ⟨⟨_, (), rfl, rfl, by rw [ht]; exact hP, va_K.moved hW.alike hK, hD⟩, hS.F ht⟩) hS.2.2 dX12_sheet_15

noncomputable def f_X12_lay (v_p0_lanes : (Int → Int)) (v_p0_sizes : (Int → Int)) (v_p0_cells : (Int → Int)) (x1 : Int) (x2 : Int) (x3 : Int) : Option (Int × (Int → Int)) := (bd1 (f_X12_isSheet x1 (0 : Int)) (fun (z1 : Int) => (ck (z_r32 z1) (if z1 = (0 : Int) then (some ((-1 : Int), v_p0_cells)) else (ck (z_ix x1 4) (ck (z_r32 (v_p0_lanes x1)) (if (v_p0_lanes x1) = (-4 : Int) then (some ((-11 : Int), v_p0_cells)) else (ck (z_r32 x2) (ck (z_ix x1 4) (ck (z_r32 ((v_p0_sizes x1) - (1 : Int))) (bd1 (f_X12_in x2 (0 : Int) ((v_p0_sizes x1) - (1 : Int))) (fun (z6 : Int) => (ck (z_r32 z6) (if z6 = (0 : Int) then (some ((-12 : Int), v_p0_cells)) else (ck (z_ix x1 4) (if (v_p0_lanes x1) = (0 : Int) then (ck (z_ix (((40 : Int) * x1) + x2) 160) (bnd (z_up v_p0_cells (((40 : Int) * x1) + x2) (z_i2b x3)) (fun (w10 : (Int → Int)) => (some ((1 : Int), w10))))) else (ck (z_ix x1 4) (if (v_p0_lanes x1) = (1 : Int) then (ck (z_ix (((40 : Int) * x1) + x2) 160) (bnd (z_up v_p0_cells (((40 : Int) * x1) + x2) (z_i2s x3)) (fun (w9 : (Int → Int)) => (some ((1 : Int), w9))))) else (ck (z_ix (((40 : Int) * x1) + x2) 160) (bnd (z_up v_p0_cells (((40 : Int) * x1) + x2) x3) (fun (w8 : (Int → Int)) => (some ((1 : Int), w8)))))))))))))))))))))))
abbrev rm_X12_lay : Room := { frames := 2, cells := 0, slots := 0, locals := 46 }
theorem inX12_lay_X12 : ∀ w ∈ wsX120, w ∈ wsX12_lay := by first | exact fun w h => List.mem_cons_of_mem _ (List.mem_append_right _ h) | decide +kernel
theorem mwX12_lay_1 : Cond.fieldLink RX12 72 "LadleKingsModel" "lanes" "[I" ∈ wsX12_lay := by first | exact List.mem_of_getElem? (i := 1) rfl | decide +kernel
theorem mwX12_lay_2 : Cond.fieldLink RX12 75 "LadleKingsModel" "sizes" "[I" ∈ wsX12_lay := by first | exact List.mem_of_getElem? (i := 2) rfl | decide +kernel
theorem mwX12_lay_3 : Cond.fieldLink RX12 78 "LadleKingsModel" "cells" "[I" ∈ wsX12_lay := by first | exact List.mem_of_getElem? (i := 3) rfl | decide +kernel
set_option maxHeartbeats 8000000 in
set_option maxRecDepth 100000 in
theorem c_X12_lay (l : Launch) (D : va_G) (G : Nat → ClassId) (sz : Nat) (a_p0 : Nat) (a_p0_st : Nat) (a_p0_isKept : Nat) (a_p0_brings : Nat) (a_p0_need : Nat) (a_p0_draft : Nat) (a_p0_dStir : Nat) (a_p0_dNeed : Nat) (a_p0_tape : Nat) (a_p0_places : Nat) (a_p0_stirred : Nat) (a_p0_ways : Nat) (a_p0_waysThen : Nat) (a_p0_stays : Nat) (a_p0_fewest : Nat) (a_p0_bowls : Nat) (a_p0_has : Nat) (a_p0_goesOn : Nat) (a_p0_isThere : Nat) (a_p0_isThereThen : Nat) (a_p0_bestRow : Nat) (a_p0_lanes : Nat) (a_p0_sizes : Nat) (a_p0_cells : Nat) (i_p0_seats : Int) (i_p0_stirs : Int) (i_p0_dSeats : Int) (i_p0_dStirs : Int) (i_p0_told : Int) (i_p0_highest : Int) (i_p0_taped : Int) (i_p0_pos : Int) (i_p0_from : Int) (i_p0_sort : Int) (i_p0_value : Int) (i_p0_fault : Int) (i_p0_wrongAt : Int) (i_p0_torn : Int) (v_p0_lanes : (Int → Int)) (v_p0_sizes : (Int → Int)) (v_p0_cells : (Int → Int)) (x1 : Int) (x2 : Int) (x3 : Int) (r : Int) (o_v_p0_cells : (Int → Int)) (hf : f_X12_lay v_p0_lanes v_p0_sizes v_p0_cells x1 x2 x3 = some (r, o_v_p0_cells)) : Met l yX12_lay wsX12_lay rm_X12_lay (pcG D G [.ref a_p0, .int (Int32.ofInt x1), .int (Int32.ofInt x2), .int (Int32.ofInt x3)] sz [(a_p0, .inr (12, [.ref a_p0_st, .ref a_p0_isKept, .int (Int32.ofInt i_p0_seats), .int (Int32.ofInt i_p0_stirs), .ref a_p0_brings, .ref a_p0_need, .ref a_p0_draft, .int (Int32.ofInt i_p0_dSeats), .int (Int32.ofInt i_p0_dStirs), .ref a_p0_dStir, .ref a_p0_dNeed, .int (Int32.ofInt i_p0_told), .int (Int32.ofInt i_p0_highest), .ref a_p0_tape, .int (Int32.ofInt i_p0_taped), .int (Int32.ofInt i_p0_pos), .int (Int32.ofInt i_p0_from), .int (Int32.ofInt i_p0_sort), .int (Int32.ofInt i_p0_value), .int (Int32.ofInt i_p0_fault), .int (Int32.ofInt i_p0_wrongAt), .ref a_p0_places, .ref a_p0_stirred, .ref a_p0_ways, .ref a_p0_waysThen, .ref a_p0_stays, .ref a_p0_fewest, .ref a_p0_bowls, .ref a_p0_has, .ref a_p0_goesOn, .ref a_p0_isThere, .ref a_p0_isThereThen, .ref a_p0_bestRow, .ref a_p0_lanes, .ref a_p0_sizes, .ref a_p0_cells, .int (Int32.ofInt i_p0_torn)])), (a_p0_lanes, .inl (G 1, 4, .inl (zA v_p0_lanes))), (a_p0_sizes, .inl (G 1, 4, .inl (zA v_p0_sizes))), (a_p0_cells, .inl (G 1, 160, .inl (zA v_p0_cells)))]) (qcI D G (Int32.ofInt r) [(a_p0, .inr (12, [.ref a_p0_st, .ref a_p0_isKept, .int (Int32.ofInt i_p0_seats), .int (Int32.ofInt i_p0_stirs), .ref a_p0_brings, .ref a_p0_need, .ref a_p0_draft, .int (Int32.ofInt i_p0_dSeats), .int (Int32.ofInt i_p0_dStirs), .ref a_p0_dStir, .ref a_p0_dNeed, .int (Int32.ofInt i_p0_told), .int (Int32.ofInt i_p0_highest), .ref a_p0_tape, .int (Int32.ofInt i_p0_taped), .int (Int32.ofInt i_p0_pos), .int (Int32.ofInt i_p0_from), .int (Int32.ofInt i_p0_sort), .int (Int32.ofInt i_p0_value), .int (Int32.ofInt i_p0_fault), .int (Int32.ofInt i_p0_wrongAt), .ref a_p0_places, .ref a_p0_stirred, .ref a_p0_ways, .ref a_p0_waysThen, .ref a_p0_stays, .ref a_p0_fewest, .ref a_p0_bowls, .ref a_p0_has, .ref a_p0_goesOn, .ref a_p0_isThere, .ref a_p0_isThereThen, .ref a_p0_bestRow, .ref a_p0_lanes, .ref a_p0_sizes, .ref a_p0_cells, .int (Int32.ofInt i_p0_torn)])), (a_p0_lanes, .inl (G 1, 4, .inl (zA v_p0_lanes))), (a_p0_sizes, .inl (G 1, 4, .inl (zA v_p0_sizes))), (a_p0_cells, .inl (G 1, 160, .inl (zA o_v_p0_cells)))] (va_A [(a_p0, .inr (12, [.ref a_p0_st, .ref a_p0_isKept, .int (Int32.ofInt i_p0_seats), .int (Int32.ofInt i_p0_stirs), .ref a_p0_brings, .ref a_p0_need, .ref a_p0_draft, .int (Int32.ofInt i_p0_dSeats), .int (Int32.ofInt i_p0_dStirs), .ref a_p0_dStir, .ref a_p0_dNeed, .int (Int32.ofInt i_p0_told), .int (Int32.ofInt i_p0_highest), .ref a_p0_tape, .int (Int32.ofInt i_p0_taped), .int (Int32.ofInt i_p0_pos), .int (Int32.ofInt i_p0_from), .int (Int32.ofInt i_p0_sort), .int (Int32.ofInt i_p0_value), .int (Int32.ofInt i_p0_fault), .int (Int32.ofInt i_p0_wrongAt), .ref a_p0_places, .ref a_p0_stirred, .ref a_p0_ways, .ref a_p0_waysThen, .ref a_p0_stays, .ref a_p0_fewest, .ref a_p0_bowls, .ref a_p0_has, .ref a_p0_goesOn, .ref a_p0_isThere, .ref a_p0_isThereThen, .ref a_p0_bestRow, .ref a_p0_lanes, .ref a_p0_sizes, .ref a_p0_cells, .int (Int32.ofInt i_p0_torn)])), (a_p0_lanes, .inl (G 1, 4, .inl (zA v_p0_lanes))), (a_p0_sizes, .inl (G 1, 4, .inl (zA v_p0_sizes))), (a_p0_cells, .inl (G 1, 160, .inl (zA v_p0_cells)))] sz)) 0 0 (va_A [(a_p0, .inr (12, [.ref a_p0_st, .ref a_p0_isKept, .int (Int32.ofInt i_p0_seats), .int (Int32.ofInt i_p0_stirs), .ref a_p0_brings, .ref a_p0_need, .ref a_p0_draft, .int (Int32.ofInt i_p0_dSeats), .int (Int32.ofInt i_p0_dStirs), .ref a_p0_dStir, .ref a_p0_dNeed, .int (Int32.ofInt i_p0_told), .int (Int32.ofInt i_p0_highest), .ref a_p0_tape, .int (Int32.ofInt i_p0_taped), .int (Int32.ofInt i_p0_pos), .int (Int32.ofInt i_p0_from), .int (Int32.ofInt i_p0_sort), .int (Int32.ofInt i_p0_value), .int (Int32.ofInt i_p0_fault), .int (Int32.ofInt i_p0_wrongAt), .ref a_p0_places, .ref a_p0_stirred, .ref a_p0_ways, .ref a_p0_waysThen, .ref a_p0_stays, .ref a_p0_fewest, .ref a_p0_bowls, .ref a_p0_has, .ref a_p0_goesOn, .ref a_p0_isThere, .ref a_p0_isThereThen, .ref a_p0_bestRow, .ref a_p0_lanes, .ref a_p0_sizes, .ref a_p0_cells, .int (Int32.ofInt i_p0_torn)])), (a_p0_lanes, .inl (G 1, 4, .inl (zA v_p0_lanes))), (a_p0_sizes, .inl (G 1, 4, .inl (zA v_p0_sizes))), (a_p0_cells, .inl (G 1, 160, .inl (zA v_p0_cells)))] sz) := by
  refine Met.ofW (cc := cX12_lay) (maxL := 4) (ret := (some .int)) (by decide) rfl ?_
  intro p e s m args below meth c s₁ B hml hv
  obtain ⟨rfl, hsz, hP, hK, hD0⟩ := hv
  have hx := B.exec
  have hb := B.bytes
  have hr := B.returns
  have hts := atoms_spec (ws := wsX12_lay) B.pre
  have hown : s.vm.findClass RX12 = some m.cls := findClass_of_methodNamed B.named
  have hlocks := B.notSynchronized
  subst hsz
  have hD := hD0.self (sz := s.heap.size)
  generalize hAe : va_A [(a_p0, .inr (12, [.ref a_p0_st, .ref a_p0_isKept, .int (Int32.ofInt i_p0_seats), .int (Int32.ofInt i_p0_stirs), .ref a_p0_brings, .ref a_p0_need, .ref a_p0_draft, .int (Int32.ofInt i_p0_dSeats), .int (Int32.ofInt i_p0_dStirs), .ref a_p0_dStir, .ref a_p0_dNeed, .int (Int32.ofInt i_p0_told), .int (Int32.ofInt i_p0_highest), .ref a_p0_tape, .int (Int32.ofInt i_p0_taped), .int (Int32.ofInt i_p0_pos), .int (Int32.ofInt i_p0_from), .int (Int32.ofInt i_p0_sort), .int (Int32.ofInt i_p0_value), .int (Int32.ofInt i_p0_fault), .int (Int32.ofInt i_p0_wrongAt), .ref a_p0_places, .ref a_p0_stirred, .ref a_p0_ways, .ref a_p0_waysThen, .ref a_p0_stays, .ref a_p0_fewest, .ref a_p0_bowls, .ref a_p0_has, .ref a_p0_goesOn, .ref a_p0_isThere, .ref a_p0_isThereThen, .ref a_p0_bestRow, .ref a_p0_lanes, .ref a_p0_sizes, .ref a_p0_cells, .int (Int32.ofInt i_p0_torn)])), (a_p0_lanes, .inl (G 1, 4, .inl (zA v_p0_lanes))), (a_p0_sizes, .inl (G 1, 4, .inl (zA v_p0_sizes))), (a_p0_cells, .inl (G 1, 160, .inl (zA v_p0_cells)))] s.heap.size = A at hD ⊢
  have hA : ∀ q : Nat, s.heap.size ≤ q → A q := fun q h => by rw [← hAe]; exact Or.inr h
  clear hAe hD0
  have hS : va_S A s.heap s.heap [] := va_S.rf
  have hl := lv_entry ([.ref a_p0, .int (Int32.ofInt x1), .int (Int32.ofInt x2), .int (Int32.ofInt x3)]) (n := 4) (Nat.le_of_ble_eq_true rfl)
  rw [lg_entry_eq]
  generalize (lg_sl ([.ref a_p0, .int (Int32.ofInt x1), .int (Int32.ofInt x2), .int (Int32.ofInt x3)]) ++ List.replicate (4 - (lg_sl ([.ref a_p0, .int (Int32.ofInt x1), .int (Int32.ofInt x2), .int (Int32.ofInt x3)])).length) Slot.unset).toArray = ls at hl ⊢
  have hl : lv_has ls 4 [(0, .ref a_p0), (1, .int (Int32.ofInt x1)), (2, .int (Int32.ofInt x2)), (3, .int (Int32.ofInt x3))] := hl
  refine W_nameQ (fun Q hQ => ?_)
  obtain ⟨H, hH⟩ : ∃ H, H = s.heap := ⟨_, rfl⟩
  replace hS : va_S A s.heap H [] := by rw [hH]; exact hS
  replace hP : va_P D vwCl [(a_p0, .inr (12, [.ref a_p0_st, .ref a_p0_isKept, .int (Int32.ofInt i_p0_seats), .int (Int32.ofInt i_p0_stirs), .ref a_p0_brings, .ref a_p0_need, .ref a_p0_draft, .int (Int32.ofInt i_p0_dSeats), .int (Int32.ofInt i_p0_dStirs), .ref a_p0_dStir, .ref a_p0_dNeed, .int (Int32.ofInt i_p0_told), .int (Int32.ofInt i_p0_highest), .ref a_p0_tape, .int (Int32.ofInt i_p0_taped), .int (Int32.ofInt i_p0_pos), .int (Int32.ofInt i_p0_from), .int (Int32.ofInt i_p0_sort), .int (Int32.ofInt i_p0_value), .int (Int32.ofInt i_p0_fault), .int (Int32.ofInt i_p0_wrongAt), .ref a_p0_places, .ref a_p0_stirred, .ref a_p0_ways, .ref a_p0_waysThen, .ref a_p0_stays, .ref a_p0_fewest, .ref a_p0_bowls, .ref a_p0_has, .ref a_p0_goesOn, .ref a_p0_isThere, .ref a_p0_isThereThen, .ref a_p0_bestRow, .ref a_p0_lanes, .ref a_p0_sizes, .ref a_p0_cells, .int (Int32.ofInt i_p0_torn)])), (a_p0_lanes, .inl (G 1, 4, .inl (zA v_p0_lanes))), (a_p0_sizes, .inl (G 1, 4, .inl (zA v_p0_sizes))), (a_p0_cells, .inl (G 1, 160, .inl (zA v_p0_cells)))] H := by rw [hH]; exact hP
  rw [← hH]
  clear hH
  unfold f_X12_lay at hf
  refine lv_iload_n hx hb dX12_lay_0 rfl (lv_at hl 1 rfl) ?_
  refine lv_iconst (v := Int32.ofInt (0 : Int)) hx hb dX12_lay_1 (by decide) ?_
  have hq := bd1_s hf
  clear hf
  obtain ⟨z1, hcall, hf⟩ := hq
  refine gnI (va_runS (As := [.int (Int32.ofInt x1), .int (Int32.ofInt (0 : Int))]) (rest := []) ⟨hx, hb, hml, hown, hts⟩ (c_X12_isSheet (l := l) (D := D) (G := G) (sz := H.size) (x0 := x1) (x1 := (0 : Int)) (r := z1) (hf := hcall)) (va_cwS 2 hts gX12_lay_X12_isSheet rfl rfl rfl (by decide +kernel) ⟨Nat.le_of_ble_eq_true rfl, Nat.le_of_ble_eq_true rfl⟩) (preG_S (hP.sub [] rfl) (hD.sub [] rfl rfl) hK) rfl rfl hl.1 rfl (lv_room (Nat.le_of_ble_eq_true rfl)) dX12_lay_2 ⟨Nat.le_of_ble_eq_true rfl, Nat.le_of_ble_eq_true rfl⟩) hP hD hS hA [] rfl (fun H locs hP hD hS => ?_)
  clear hcall
  have hr1 := ck_c hf
  replace hf := ck_r hf
  refine lv_if_ne (tgt := 10) hx hb dX12_lay_5 (by decide) (fun cc => ?_) (fun cc => ?_)
  ·
    replace hf := ite_f (fun h9 => cc ((z_eq0 hr1).mpr h9)) hf
    clear cc
    refine lv_aload_n hx hb dX12_lay_10 rfl (lv_at hl 0 rfl) ?_
    refine va_get (D := D) (ci := 12) (v := .ref a_p0_lanes) (C := RX12) (T := TX12) (N := 37) hx hb hts inX12_lay_X12 hown hK hP 0 rfl rfl 33 (by decide) (hts _ mwX12_lay_1) (fun _ h9 => h9) rfl dX12_lay_11 ?_
    refine lv_iload_n hx hb dX12_lay_14 rfl (lv_at hl 1 rfl) ?_
    have hc := ck_c hf
    replace hf := ck_r hf
    refine va_iald hx hb hK hP 1 1 rfl rfl (z_ix_in hc) dX12_lay_15 (z_ci (z_ald v_p0_lanes hc) ?_)
    clear hc
    refine lv_bipush (v := Int32.ofInt (-4 : Int)) hx hb dX12_lay_16 (by decide) ?_
    have hr2 := ck_c hf
    replace hf := ck_r hf
    refine lv_icmp_ne (tgt := 24) hx hb dX12_lay_18 (by decide) (fun cc => ?_) (fun cc => ?_)
    ·
      replace hf := ite_f (fun h9 => cc ((z_eq hr2 (by decide)).mpr h9)) hf
      clear cc
      refine lv_iload_n hx hb dX12_lay_24 rfl (lv_at hl 2 rfl) ?_
      have hr3 := ck_c hf
      replace hf := ck_r hf
      refine lv_i2l (v := Int64.ofInt x2) hx hb dX12_lay_25 (z_i2l hr3) ?_
      refine lv_lconst (v := Int64.ofInt (0 : Int)) hx hb dX12_lay_26 (by decide) ?_
      refine lv_aload_n hx hb dX12_lay_27 rfl (lv_at hl 0 rfl) ?_
      refine va_get (D := D) (ci := 12) (v := .ref a_p0_sizes) (C := RX12) (T := TX12) (N := 37) hx hb hts inX12_lay_X12 hown hK hP 0 rfl rfl 34 (by decide) (hts _ mwX12_lay_2) (fun _ h9 => h9) rfl dX12_lay_28 ?_
      refine lv_iload_n hx hb dX12_lay_31 rfl (lv_at hl 1 rfl) ?_
      have hc := ck_c hf
      replace hf := ck_r hf
      refine va_iald hx hb hK hP 2 1 rfl rfl (z_ix_in hc) dX12_lay_32 (z_ci (z_ald v_p0_sizes hc) ?_)
      clear hc
      refine lv_iconst (v := Int32.ofInt (1 : Int)) hx hb dX12_lay_33 (by decide) ?_
      refine lv_isub hx hb dX12_lay_34 (z_ci (Int32.ofInt_sub (v_p0_sizes x1) (1 : Int)) ?_)
      have hr4 := ck_c hf
      replace hf := ck_r hf
      refine lv_i2l (v := Int64.ofInt ((v_p0_sizes x1) - (1 : Int))) hx hb dX12_lay_35 (z_i2l hr4) ?_
      have hq := bd1_s hf
      clear hf
      obtain ⟨z6, hcall, hf⟩ := hq
      refine gnI (va_runS (As := [.long (Int64.ofInt x2), .long (Int64.ofInt (0 : Int)), .long (Int64.ofInt ((v_p0_sizes x1) - (1 : Int)))]) (rest := []) ⟨hx, hb, hml, hown, hts⟩ (c_X12_in (l := l) (D := D) (G := G) (sz := H.size) (x0 := x2) (x2 := (0 : Int)) (x4 := ((v_p0_sizes x1) - (1 : Int))) (r := z6) (hf := hcall)) (va_cwS 3 hts gX12_lay_X12_in rfl rfl rfl (by decide +kernel) ⟨Nat.le_of_ble_eq_true rfl, Nat.le_of_ble_eq_true rfl⟩) (preG_S (hP.sub [] rfl) (hD.sub [] rfl rfl) hK) rfl rfl hl.1 rfl (lv_room (Nat.le_of_ble_eq_true rfl)) dX12_lay_36 ⟨Nat.le_of_ble_eq_true rfl, Nat.le_of_ble_eq_true rfl⟩) hP hD hS hA [] rfl (fun H locs hP hD hS => ?_)
      clear hcall
      have hr6 := ck_c hf
      replace hf := ck_r hf
      refine lv_if_ne (tgt := 45) hx hb dX12_lay_39 (by decide) (fun cc => ?_) (fun cc => ?_)
      ·
        replace hf := ite_f (fun h9 => cc ((z_eq0 hr6).mpr h9)) hf
        clear cc
        refine lv_aload_n hx hb dX12_lay_45 rfl (lv_at hl 0 rfl) ?_
        refine va_get (D := D) (ci := 12) (v := .ref a_p0_cells) (C := RX12) (T := TX12) (N := 37) hx hb hts inX12_lay_X12 hown hK hP 0 rfl rfl 35 (by decide) (hts _ mwX12_lay_3) (fun _ h9 => h9) rfl dX12_lay_46 ?_
        refine lv_bipush (v := Int32.ofInt (40 : Int)) hx hb dX12_lay_49 (by decide) ?_
        refine lv_iload_n hx hb dX12_lay_51 rfl (lv_at hl 1 rfl) ?_
        refine lv_imul hx hb dX12_lay_52 (z_ci (Int32.ofInt_mul (40 : Int) x1) ?_)
        refine lv_iload_n hx hb dX12_lay_53 rfl (lv_at hl 2 rfl) ?_
        refine lv_iadd hx hb dX12_lay_54 (z_ci (Int32.ofInt_add ((40 : Int) * x1) x2) ?_)
        refine lv_aload_n hx hb dX12_lay_55 rfl (lv_at hl 0 rfl) ?_
        refine va_get (D := D) (ci := 12) (v := .ref a_p0_lanes) (C := RX12) (T := TX12) (N := 37) hx hb hts inX12_lay_X12 hown hK hP 0 rfl rfl 33 (by decide) (hts _ mwX12_lay_1) (fun _ h9 => h9) rfl dX12_lay_56 ?_
        refine lv_iload_n hx hb dX12_lay_59 rfl (lv_at hl 1 rfl) ?_
        have hc := ck_c hf
        replace hf := ck_r hf
        refine va_iald hx hb hK hP 1 1 rfl rfl (z_ix_in hc) dX12_lay_60 (z_ci (z_ald v_p0_lanes hc) ?_)
        clear hc
        refine lv_if_ne (tgt := 69) hx hb dX12_lay_61 (by decide) (fun cc => ?_) (fun cc => ?_)
        ·
          replace hf := ite_f (fun h9 => cc ((z_eq0 hr2).mpr h9)) hf
          clear cc
          refine lv_aload_n hx hb dX12_lay_69 rfl (lv_at hl 0 rfl) ?_
          refine va_get (D := D) (ci := 12) (v := .ref a_p0_lanes) (C := RX12) (T := TX12) (N := 37) hx hb hts inX12_lay_X12 hown hK hP 0 rfl rfl 33 (by decide) (hts _ mwX12_lay_1) (fun _ h9 => h9) rfl dX12_lay_70 ?_
          refine lv_iload_n hx hb dX12_lay_73 rfl (lv_at hl 1 rfl) ?_
          have hc := ck_c hf
          replace hf := ck_r hf
          refine va_iald hx hb hK hP 1 1 rfl rfl (z_ix_in hc) dX12_lay_74 (z_ci (z_ald v_p0_lanes hc) ?_)
          clear hc
          refine lv_iconst (v := Int32.ofInt (1 : Int)) hx hb dX12_lay_75 (by decide) ?_
          refine lv_icmp_ne (tgt := 84) hx hb dX12_lay_76 (by decide) (fun cc => ?_) (fun cc => ?_)
          ·
            replace hf := ite_f (fun h9 => cc ((z_eq hr2 (by decide)).mpr h9)) hf
            clear cc
            refine lv_iload_n hx hb dX12_lay_84 rfl (lv_at hl 3 rfl) ?_
            have hc := ck_c hf
            replace hf := ck_r hf
            refine zs_iast (wf := fun w8 => [(a_p0, .inr (12, [.ref a_p0_st, .ref a_p0_isKept, .int (Int32.ofInt i_p0_seats), .int (Int32.ofInt i_p0_stirs), .ref a_p0_brings, .ref a_p0_need, .ref a_p0_draft, .int (Int32.ofInt i_p0_dSeats), .int (Int32.ofInt i_p0_dStirs), .ref a_p0_dStir, .ref a_p0_dNeed, .int (Int32.ofInt i_p0_told), .int (Int32.ofInt i_p0_highest), .ref a_p0_tape, .int (Int32.ofInt i_p0_taped), .int (Int32.ofInt i_p0_pos), .int (Int32.ofInt i_p0_from), .int (Int32.ofInt i_p0_sort), .int (Int32.ofInt i_p0_value), .int (Int32.ofInt i_p0_fault), .int (Int32.ofInt i_p0_wrongAt), .ref a_p0_places, .ref a_p0_stirred, .ref a_p0_ways, .ref a_p0_waysThen, .ref a_p0_stays, .ref a_p0_fewest, .ref a_p0_bowls, .ref a_p0_has, .ref a_p0_goesOn, .ref a_p0_isThere, .ref a_p0_isThereThen, .ref a_p0_bestRow, .ref a_p0_lanes, .ref a_p0_sizes, .ref a_p0_cells, .int (Int32.ofInt i_p0_torn)])), (a_p0_lanes, .inl (G 1, 4, .inl (zA v_p0_lanes))), (a_p0_sizes, .inl (G 1, 4, .inl (zA v_p0_sizes))), (a_p0_cells, .inl (G 1, 160, .inl (zA w8)))]) hx hb hK hP hD hS 3 1 rfl rfl hc dX12_lay_85 (fun _ => rfl) (fun w8 ez H locs hP hD hS => ?_)
            replace hf := bnd_s hf ez
            clear ez hc
            refine lv_iconst (v := Int32.ofInt (1 : Int)) hx hb dX12_lay_86 (by decide) ?_
            obtain ⟨rfl, rfl⟩ := ou2 hf
            rw [hQ]
            exact W.iret hx hb hr (fun t ht hW => ⟨⟨_, (), rfl, rfl, by rw [ht]; exact hP, va_K.moved hW.alike hK, hD⟩, hS.F ht⟩) hS.2.2 dX12_lay_87
          ·
            replace hf := ite_t ((z_eq hr2 (by decide)).mp cc) hf
            clear cc
            refine lv_iload_n hx hb dX12_lay_79 rfl (lv_at hl 3 rfl) ?_
            refine lv_i2s (v := Int32.ofInt (z_i2s x3)) hx hb dX12_lay_80 (z_i2s_e x3).symm ?_
            refine lv_goto (tgt := 85) hx hb dX12_lay_81 (by decide) ?_
            have hc := ck_c hf
            replace hf := ck_r hf
            refine zs_iast (wf := fun w9 => [(a_p0, .inr (12, [.ref a_p0_st, .ref a_p0_isKept, .int (Int32.ofInt i_p0_seats), .int (Int32.ofInt i_p0_stirs), .ref a_p0_brings, .ref a_p0_need, .ref a_p0_draft, .int (Int32.ofInt i_p0_dSeats), .int (Int32.ofInt i_p0_dStirs), .ref a_p0_dStir, .ref a_p0_dNeed, .int (Int32.ofInt i_p0_told), .int (Int32.ofInt i_p0_highest), .ref a_p0_tape, .int (Int32.ofInt i_p0_taped), .int (Int32.ofInt i_p0_pos), .int (Int32.ofInt i_p0_from), .int (Int32.ofInt i_p0_sort), .int (Int32.ofInt i_p0_value), .int (Int32.ofInt i_p0_fault), .int (Int32.ofInt i_p0_wrongAt), .ref a_p0_places, .ref a_p0_stirred, .ref a_p0_ways, .ref a_p0_waysThen, .ref a_p0_stays, .ref a_p0_fewest, .ref a_p0_bowls, .ref a_p0_has, .ref a_p0_goesOn, .ref a_p0_isThere, .ref a_p0_isThereThen, .ref a_p0_bestRow, .ref a_p0_lanes, .ref a_p0_sizes, .ref a_p0_cells, .int (Int32.ofInt i_p0_torn)])), (a_p0_lanes, .inl (G 1, 4, .inl (zA v_p0_lanes))), (a_p0_sizes, .inl (G 1, 4, .inl (zA v_p0_sizes))), (a_p0_cells, .inl (G 1, 160, .inl (zA w9)))]) hx hb hK hP hD hS 3 1 rfl rfl hc dX12_lay_85 (fun _ => rfl) (fun w9 ez H locs hP hD hS => ?_)
            replace hf := bnd_s hf ez
            clear ez hc
            refine lv_iconst (v := Int32.ofInt (1 : Int)) hx hb dX12_lay_86 (by decide) ?_
            obtain ⟨rfl, rfl⟩ := ou2 hf
            rw [hQ]
            exact W.iret hx hb hr (fun t ht hW => ⟨⟨_, (), rfl, rfl, by rw [ht]; exact hP, va_K.moved hW.alike hK, hD⟩, hS.F ht⟩) hS.2.2 dX12_lay_87
        ·
          replace hf := ite_t ((z_eq0 hr2).mp cc) hf
          clear cc
          refine lv_iload_n hx hb dX12_lay_64 rfl (lv_at hl 3 rfl) ?_
          refine lv_i2b (v := Int32.ofInt (z_i2b x3)) hx hb dX12_lay_65 (z_i2b_e x3).symm ?_
          refine lv_goto (tgt := 85) hx hb dX12_lay_66 (by decide) ?_
          have hc := ck_c hf
          replace hf := ck_r hf
          refine zs_iast (wf := fun w10 => [(a_p0, .inr (12, [.ref a_p0_st, .ref a_p0_isKept, .int (Int32.ofInt i_p0_seats), .int (Int32.ofInt i_p0_stirs), .ref a_p0_brings, .ref a_p0_need, .ref a_p0_draft, .int (Int32.ofInt i_p0_dSeats), .int (Int32.ofInt i_p0_dStirs), .ref a_p0_dStir, .ref a_p0_dNeed, .int (Int32.ofInt i_p0_told), .int (Int32.ofInt i_p0_highest), .ref a_p0_tape, .int (Int32.ofInt i_p0_taped), .int (Int32.ofInt i_p0_pos), .int (Int32.ofInt i_p0_from), .int (Int32.ofInt i_p0_sort), .int (Int32.ofInt i_p0_value), .int (Int32.ofInt i_p0_fault), .int (Int32.ofInt i_p0_wrongAt), .ref a_p0_places, .ref a_p0_stirred, .ref a_p0_ways, .ref a_p0_waysThen, .ref a_p0_stays, .ref a_p0_fewest, .ref a_p0_bowls, .ref a_p0_has, .ref a_p0_goesOn, .ref a_p0_isThere, .ref a_p0_isThereThen, .ref a_p0_bestRow, .ref a_p0_lanes, .ref a_p0_sizes, .ref a_p0_cells, .int (Int32.ofInt i_p0_torn)])), (a_p0_lanes, .inl (G 1, 4, .inl (zA v_p0_lanes))), (a_p0_sizes, .inl (G 1, 4, .inl (zA v_p0_sizes))), (a_p0_cells, .inl (G 1, 160, .inl (zA w10)))]) hx hb hK hP hD hS 3 1 rfl rfl hc dX12_lay_85 (fun _ => rfl) (fun w10 ez H locs hP hD hS => ?_)
          replace hf := bnd_s hf ez
          clear ez hc
          refine lv_iconst (v := Int32.ofInt (1 : Int)) hx hb dX12_lay_86 (by decide) ?_
          obtain ⟨rfl, rfl⟩ := ou2 hf
          rw [hQ]
          exact W.iret hx hb hr (fun t ht hW => ⟨⟨_, (), rfl, rfl, by rw [ht]; exact hP, va_K.moved hW.alike hK, hD⟩, hS.F ht⟩) hS.2.2 dX12_lay_87
      ·
        replace hf := ite_t ((z_eq0 hr6).mp cc) hf
        clear cc
        refine lv_bipush (v := Int32.ofInt (-12 : Int)) hx hb dX12_lay_42 (by decide) ?_
        obtain ⟨rfl, rfl⟩ := ou2 hf
        rw [hQ]
        exact W.iret hx hb hr (fun t ht hW => ⟨⟨_, (), rfl, rfl, by rw [ht]; exact hP, va_K.moved hW.alike hK, hD⟩, hS.F ht⟩) hS.2.2 dX12_lay_44
    ·
      replace hf := ite_t ((z_eq hr2 (by decide)).mp cc) hf
      clear cc
      refine lv_bipush (v := Int32.ofInt (-11 : Int)) hx hb dX12_lay_21 (by decide) ?_
      obtain ⟨rfl, rfl⟩ := ou2 hf
      rw [hQ]
      exact W.iret hx hb hr (fun t ht hW => ⟨⟨_, (), rfl, rfl, by rw [ht]; exact hP, va_K.moved hW.alike hK, hD⟩, hS.F ht⟩) hS.2.2 dX12_lay_23
  ·
    replace hf := ite_t ((z_eq0 hr1).mp cc) hf
    clear cc
    refine lv_iconst (v := Int32.ofInt (-1 : Int)) hx hb dX12_lay_8 (by decide) ?_
    obtain ⟨rfl, rfl⟩ := ou2 hf
    rw [hQ]
    exact W.iret hx hb hr (fun t ht hW => ⟨⟨_, (), rfl, rfl, by rw [ht]; exact hP, va_K.moved hW.alike hK, hD⟩, hS.F ht⟩) hS.2.2 dX12_lay_9

noncomputable def B_X12_read_39 (x4 : Int) (J15 : Int → Int → (Int → Int) → (Int → Int) → (Int → Int) → Option (Int × Int × (Int → Int) × (Int → Int) × (Int → Int))) (x3 : Int) (x1 : Int) (v_p0_lanes : (Int → Int)) (i_p0_seats : Int) (i_p0_stirs : Int) (v_p0_brings : (Int → Int)) (v_p0_cells : (Int → Int)) (J21 : Int → (Int → Int) → (Int → Int) → (Int → Int) → Option (Int × Int × (Int → Int) × (Int → Int) × (Int → Int))) (x2 : Int) (v_p0_sizes : (Int → Int)) (again39 : Int → Int → Int → (Int → Int) → (Int → Int) → (Int → Int) → Option (Int × Int × (Int → Int) × (Int → Int) × (Int → Int))) (z23 : Int) (z24 : Int) (z25 : Int) (w26 : (Int → Int)) (w27 : (Int → Int)) (w28 : (Int → Int)) : Option (Int × Int × (Int → Int) × (Int → Int) × (Int → Int)) := (ck (z_r32 z23) (if x4 ≤ z23 then (J15 z25 z24 w26 w27 w28) else (ck (z_r32 z25) (if z25 = (0 : Int) then (ck (z_r32 x3) (bnd (x3 + z23) (fun (z33 : Int) => (ck (z_ix x1 4) (ck (z_r32 (v_p0_lanes x1)) (jn (fun (z35 : Int) => (bnd z35 (fun (z37 : Int) => (ck (z_r32 z37) (if z37 = (0 : Int) then (ck (z_ix ((((40 : Int) * x1) + x3) + z23) 160) (bd4 (f_X12_day i_p0_seats i_p0_stirs w26 v_p0_brings w27 w28 (v_p0_cells ((((40 : Int) * x1) + x3) + z23))) (fun (z40 : Int) (w41 : (Int → Int)) (w42 : (Int → Int)) (w43 : (Int → Int)) => (ck (z_r32 z40) (if (0 : Int) ≤ z40 then (bnd (z24 + (1 : Int)) (fun (z45 : Int) => (bnd (z23 + (1 : Int)) (fun (z46 : Int) => (again39 z46 z45 z37 w41 w42 w43))))) else (J21 z23 w41 w42 w43)))))) else (bnd (z23 + (1 : Int)) (fun (z39 : Int) => (again39 z39 z24 z37 w26 w27 w28)))))))) (fun (J36 : Int → Option (Int × Int × (Int → Int) × (Int → Int) × (Int → Int))) => (if (v_p0_lanes x1) = (-4 : Int) then (J36 (1 : Int)) else (ck (z_ix x1 4) (ck (z_r32 x2) (if (v_p0_lanes x1) = x2 then (ck (z_r64 z33) (ck (z_r32 (z_cmp z33 (0 : Int))) (if (z_cmp z33 (0 : Int)) < (0 : Int) then (J36 (2 : Int)) else (ck (z_ix x1 4) (ck (z_r32 (v_p0_sizes x1)) (ck (z_r64 (v_p0_sizes x1)) (ck (z_r32 (z_cmp z33 (v_p0_sizes x1))) (if (z_cmp z33 (v_p0_sizes x1)) < (0 : Int) then (J36 (0 : Int)) else (J36 (2 : Int)))))))))) else (J36 (3 : Int))))))))))))) else (J15 z25 z24 w26 w27 w28)))))
noncomputable def f_X12_read (i_p0_seats : Int) (i_p0_stirs : Int) (i_p0_torn : Int) (v_p0_st : (Int → Int)) (v_p0_brings : (Int → Int)) (v_p0_places : (Int → Int)) (v_p0_stirred : (Int → Int)) (v_p0_lanes : (Int → Int)) (v_p0_sizes : (Int → Int)) (v_p0_cells : (Int → Int)) (x1 : Int) (x2 : Int) (x3 : Int) (x4 : Int) : Option (Int × Int × (Int → Int) × (Int → Int) × (Int → Int)) := (bd1 (f_X12_isSheet x1 x2) (fun (z1 : Int) => (ck (z_r32 z1) (if z1 = (0 : Int) then (some ((-1 : Int), i_p0_torn, v_p0_st, v_p0_places, v_p0_stirred)) else (ck (z_r32 x4) (bd1 (f_X12_in x4 (0 : Int) (20 : Int)) (fun (z4 : Int) => (ck (z_r32 z4) (if z4 = (0 : Int) then (some ((-1 : Int), i_p0_torn, v_p0_st, v_p0_places, v_p0_stirred)) else (bd1 (f_X12_copies v_p0_st (114 : Int) (0 : Int)) (fun (w6 : (Int → Int)) => (bnd (0 : Int) (fun (z7 : Int) => (bnd (0 : Int) (fun (z8 : Int) => (bnd (0 : Int) (fun (z9 : Int) => (jn (fun (z10 : Int) (z11 : Int) (w12 : (Int → Int)) (w13 : (Int → Int)) (w14 : (Int → Int)) => (bnd z10 (fun (z16 : Int) => (some (z11, z16, w12, w13, w14))))) (fun (J15 : Int → Int → (Int → Int) → (Int → Int) → (Int → Int) → Option (Int × Int × (Int → Int) × (Int → Int) × (Int → Int))) => (jn (fun (z17 : Int) (w18 : (Int → Int)) (w19 : (Int → Int)) (w20 : (Int → Int)) => (bd1 (f_X12_copies w18 (0 : Int) (114 : Int)) (fun (w22 : (Int → Int)) => (some (((-20 : Int) - z17), i_p0_torn, w22, w19, w20))))) (fun (J21 : Int → (Int → Int) → (Int → Int) → (Int → Int) → Option (Int × Int × (Int → Int) × (Int → Int) × (Int → Int))) => (lq6 (B_X12_read_39 x4 J15 x3 x1 v_p0_lanes i_p0_seats i_p0_stirs v_p0_brings v_p0_cells J21 x2 v_p0_sizes) 1000 z9 z8 z7 w6 v_p0_places v_p0_stirred))))))))))))))))))))))
abbrev rm_X12_read : Room := { frames := 5, cells := 0, slots := 0, locals := 114 }
theorem mwX12_read_0 : Cond.constantLong RX12 314 (20) ∈ wsX12_read := by first | exact List.mem_of_getElem? (i := 1) rfl | decide +kernel
theorem inX12_read_X12 : ∀ w ∈ wsX120, w ∈ wsX12_read := by first | exact fun w h => List.mem_cons_of_mem _ (List.mem_append_right _ h) | decide +kernel
theorem mwX12_read_2 : Cond.fieldLink RX12 319 "LadleKingsModel" "torn" "I" ∈ wsX12_read := by first | exact List.mem_of_getElem? (i := 5) rfl | decide +kernel
theorem mwX12_read_3 : Cond.fieldLink RX12 72 "LadleKingsModel" "lanes" "[I" ∈ wsX12_read := by first | exact List.mem_of_getElem? (i := 2) rfl | decide +kernel
theorem mwX12_read_4 : Cond.fieldLink RX12 78 "LadleKingsModel" "cells" "[I" ∈ wsX12_read := by first | exact List.mem_of_getElem? (i := 4) rfl | decide +kernel
theorem hdV_yX12_day_RX12 : yX12_day.cls = RX12 ∧ yX12_day.cls ≠ "java/lang/invoke/MethodHandle" ∧ yX12_day.cls ≠ "java/lang/invoke/VarHandle" ∧ (parseMethodDescriptor yX12_day.desc).map (fun d => d.parameters.length) = some 1 := by decide +kernel
theorem mwX12_read_6 : Cond.fieldLink RX12 75 "LadleKingsModel" "sizes" "[I" ∈ wsX12_read := by first | exact List.mem_of_getElem? (i := 3) rfl | decide +kernel
set_option maxHeartbeats 8000000 in
set_option maxRecDepth 100000 in
theorem c_X12_read (l : Launch) (D : va_G) (G : Nat → ClassId) (sz : Nat) (a_p0 : Nat) (a_p0_st : Nat) (a_p0_isKept : Nat) (a_p0_brings : Nat) (a_p0_need : Nat) (a_p0_draft : Nat) (a_p0_dStir : Nat) (a_p0_dNeed : Nat) (a_p0_tape : Nat) (a_p0_places : Nat) (a_p0_stirred : Nat) (a_p0_ways : Nat) (a_p0_waysThen : Nat) (a_p0_stays : Nat) (a_p0_fewest : Nat) (a_p0_bowls : Nat) (a_p0_has : Nat) (a_p0_goesOn : Nat) (a_p0_isThere : Nat) (a_p0_isThereThen : Nat) (a_p0_bestRow : Nat) (a_p0_lanes : Nat) (a_p0_sizes : Nat) (a_p0_cells : Nat) (i_p0_seats : Int) (i_p0_stirs : Int) (i_p0_dSeats : Int) (i_p0_dStirs : Int) (i_p0_told : Int) (i_p0_highest : Int) (i_p0_taped : Int) (i_p0_pos : Int) (i_p0_from : Int) (i_p0_sort : Int) (i_p0_value : Int) (i_p0_fault : Int) (i_p0_wrongAt : Int) (i_p0_torn : Int) (v_p0_st : (Int → Int)) (v_p0_brings : (Int → Int)) (v_p0_places : (Int → Int)) (v_p0_stirred : (Int → Int)) (v_p0_lanes : (Int → Int)) (v_p0_sizes : (Int → Int)) (v_p0_cells : (Int → Int)) (x1 : Int) (x2 : Int) (x3 : Int) (x4 : Int) (r : Int) (o_i_p0_torn : Int) (o_v_p0_st : (Int → Int)) (o_v_p0_places : (Int → Int)) (o_v_p0_stirred : (Int → Int)) (hf : f_X12_read i_p0_seats i_p0_stirs i_p0_torn v_p0_st v_p0_brings v_p0_places v_p0_stirred v_p0_lanes v_p0_sizes v_p0_cells x1 x2 x3 x4 = some (r, o_i_p0_torn, o_v_p0_st, o_v_p0_places, o_v_p0_stirred)) : Met l yX12_read wsX12_read rm_X12_read (pcG D G [.ref a_p0, .int (Int32.ofInt x1), .int (Int32.ofInt x2), .int (Int32.ofInt x3), .int (Int32.ofInt x4)] sz [(a_p0, .inr (12, [.ref a_p0_st, .ref a_p0_isKept, .int (Int32.ofInt i_p0_seats), .int (Int32.ofInt i_p0_stirs), .ref a_p0_brings, .ref a_p0_need, .ref a_p0_draft, .int (Int32.ofInt i_p0_dSeats), .int (Int32.ofInt i_p0_dStirs), .ref a_p0_dStir, .ref a_p0_dNeed, .int (Int32.ofInt i_p0_told), .int (Int32.ofInt i_p0_highest), .ref a_p0_tape, .int (Int32.ofInt i_p0_taped), .int (Int32.ofInt i_p0_pos), .int (Int32.ofInt i_p0_from), .int (Int32.ofInt i_p0_sort), .int (Int32.ofInt i_p0_value), .int (Int32.ofInt i_p0_fault), .int (Int32.ofInt i_p0_wrongAt), .ref a_p0_places, .ref a_p0_stirred, .ref a_p0_ways, .ref a_p0_waysThen, .ref a_p0_stays, .ref a_p0_fewest, .ref a_p0_bowls, .ref a_p0_has, .ref a_p0_goesOn, .ref a_p0_isThere, .ref a_p0_isThereThen, .ref a_p0_bestRow, .ref a_p0_lanes, .ref a_p0_sizes, .ref a_p0_cells, .int (Int32.ofInt i_p0_torn)])), (a_p0_st, .inl (G 1, 152, .inl (zA v_p0_st))), (a_p0_brings, .inl (G 1, 35, .inl (zA v_p0_brings))), (a_p0_places, .inl (G 1, 7, .inl (zA v_p0_places))), (a_p0_stirred, .inl (G 1, 7, .inl (zA v_p0_stirred))), (a_p0_lanes, .inl (G 1, 4, .inl (zA v_p0_lanes))), (a_p0_sizes, .inl (G 1, 4, .inl (zA v_p0_sizes))), (a_p0_cells, .inl (G 1, 160, .inl (zA v_p0_cells)))]) (qcI D G (Int32.ofInt r) [(a_p0, .inr (12, [.ref a_p0_st, .ref a_p0_isKept, .int (Int32.ofInt i_p0_seats), .int (Int32.ofInt i_p0_stirs), .ref a_p0_brings, .ref a_p0_need, .ref a_p0_draft, .int (Int32.ofInt i_p0_dSeats), .int (Int32.ofInt i_p0_dStirs), .ref a_p0_dStir, .ref a_p0_dNeed, .int (Int32.ofInt i_p0_told), .int (Int32.ofInt i_p0_highest), .ref a_p0_tape, .int (Int32.ofInt i_p0_taped), .int (Int32.ofInt i_p0_pos), .int (Int32.ofInt i_p0_from), .int (Int32.ofInt i_p0_sort), .int (Int32.ofInt i_p0_value), .int (Int32.ofInt i_p0_fault), .int (Int32.ofInt i_p0_wrongAt), .ref a_p0_places, .ref a_p0_stirred, .ref a_p0_ways, .ref a_p0_waysThen, .ref a_p0_stays, .ref a_p0_fewest, .ref a_p0_bowls, .ref a_p0_has, .ref a_p0_goesOn, .ref a_p0_isThere, .ref a_p0_isThereThen, .ref a_p0_bestRow, .ref a_p0_lanes, .ref a_p0_sizes, .ref a_p0_cells, .int (Int32.ofInt o_i_p0_torn)])), (a_p0_st, .inl (G 1, 152, .inl (zA o_v_p0_st))), (a_p0_brings, .inl (G 1, 35, .inl (zA v_p0_brings))), (a_p0_places, .inl (G 1, 7, .inl (zA o_v_p0_places))), (a_p0_stirred, .inl (G 1, 7, .inl (zA o_v_p0_stirred))), (a_p0_lanes, .inl (G 1, 4, .inl (zA v_p0_lanes))), (a_p0_sizes, .inl (G 1, 4, .inl (zA v_p0_sizes))), (a_p0_cells, .inl (G 1, 160, .inl (zA v_p0_cells)))] (va_A [(a_p0, .inr (12, [.ref a_p0_st, .ref a_p0_isKept, .int (Int32.ofInt i_p0_seats), .int (Int32.ofInt i_p0_stirs), .ref a_p0_brings, .ref a_p0_need, .ref a_p0_draft, .int (Int32.ofInt i_p0_dSeats), .int (Int32.ofInt i_p0_dStirs), .ref a_p0_dStir, .ref a_p0_dNeed, .int (Int32.ofInt i_p0_told), .int (Int32.ofInt i_p0_highest), .ref a_p0_tape, .int (Int32.ofInt i_p0_taped), .int (Int32.ofInt i_p0_pos), .int (Int32.ofInt i_p0_from), .int (Int32.ofInt i_p0_sort), .int (Int32.ofInt i_p0_value), .int (Int32.ofInt i_p0_fault), .int (Int32.ofInt i_p0_wrongAt), .ref a_p0_places, .ref a_p0_stirred, .ref a_p0_ways, .ref a_p0_waysThen, .ref a_p0_stays, .ref a_p0_fewest, .ref a_p0_bowls, .ref a_p0_has, .ref a_p0_goesOn, .ref a_p0_isThere, .ref a_p0_isThereThen, .ref a_p0_bestRow, .ref a_p0_lanes, .ref a_p0_sizes, .ref a_p0_cells, .int (Int32.ofInt i_p0_torn)])), (a_p0_st, .inl (G 1, 152, .inl (zA v_p0_st))), (a_p0_brings, .inl (G 1, 35, .inl (zA v_p0_brings))), (a_p0_places, .inl (G 1, 7, .inl (zA v_p0_places))), (a_p0_stirred, .inl (G 1, 7, .inl (zA v_p0_stirred))), (a_p0_lanes, .inl (G 1, 4, .inl (zA v_p0_lanes))), (a_p0_sizes, .inl (G 1, 4, .inl (zA v_p0_sizes))), (a_p0_cells, .inl (G 1, 160, .inl (zA v_p0_cells)))] sz)) 0 0 (va_A [(a_p0, .inr (12, [.ref a_p0_st, .ref a_p0_isKept, .int (Int32.ofInt i_p0_seats), .int (Int32.ofInt i_p0_stirs), .ref a_p0_brings, .ref a_p0_need, .ref a_p0_draft, .int (Int32.ofInt i_p0_dSeats), .int (Int32.ofInt i_p0_dStirs), .ref a_p0_dStir, .ref a_p0_dNeed, .int (Int32.ofInt i_p0_told), .int (Int32.ofInt i_p0_highest), .ref a_p0_tape, .int (Int32.ofInt i_p0_taped), .int (Int32.ofInt i_p0_pos), .int (Int32.ofInt i_p0_from), .int (Int32.ofInt i_p0_sort), .int (Int32.ofInt i_p0_value), .int (Int32.ofInt i_p0_fault), .int (Int32.ofInt i_p0_wrongAt), .ref a_p0_places, .ref a_p0_stirred, .ref a_p0_ways, .ref a_p0_waysThen, .ref a_p0_stays, .ref a_p0_fewest, .ref a_p0_bowls, .ref a_p0_has, .ref a_p0_goesOn, .ref a_p0_isThere, .ref a_p0_isThereThen, .ref a_p0_bestRow, .ref a_p0_lanes, .ref a_p0_sizes, .ref a_p0_cells, .int (Int32.ofInt i_p0_torn)])), (a_p0_st, .inl (G 1, 152, .inl (zA v_p0_st))), (a_p0_brings, .inl (G 1, 35, .inl (zA v_p0_brings))), (a_p0_places, .inl (G 1, 7, .inl (zA v_p0_places))), (a_p0_stirred, .inl (G 1, 7, .inl (zA v_p0_stirred))), (a_p0_lanes, .inl (G 1, 4, .inl (zA v_p0_lanes))), (a_p0_sizes, .inl (G 1, 4, .inl (zA v_p0_sizes))), (a_p0_cells, .inl (G 1, 160, .inl (zA v_p0_cells)))] sz) := by
  refine Met.ofW (cc := cX12_read) (maxL := 10) (ret := (some .int)) (by decide) rfl ?_
  intro p e s m args below meth c s₁ B hml hv
  obtain ⟨rfl, hsz, hP, hK, hD0⟩ := hv
  have hx := B.exec
  have hb := B.bytes
  have hr := B.returns
  have hts := atoms_spec (ws := wsX12_read) B.pre
  have hown : s.vm.findClass RX12 = some m.cls := findClass_of_methodNamed B.named
  have hlocks := B.notSynchronized
  subst hsz
  have hD := hD0.self (sz := s.heap.size)
  generalize hAe : va_A [(a_p0, .inr (12, [.ref a_p0_st, .ref a_p0_isKept, .int (Int32.ofInt i_p0_seats), .int (Int32.ofInt i_p0_stirs), .ref a_p0_brings, .ref a_p0_need, .ref a_p0_draft, .int (Int32.ofInt i_p0_dSeats), .int (Int32.ofInt i_p0_dStirs), .ref a_p0_dStir, .ref a_p0_dNeed, .int (Int32.ofInt i_p0_told), .int (Int32.ofInt i_p0_highest), .ref a_p0_tape, .int (Int32.ofInt i_p0_taped), .int (Int32.ofInt i_p0_pos), .int (Int32.ofInt i_p0_from), .int (Int32.ofInt i_p0_sort), .int (Int32.ofInt i_p0_value), .int (Int32.ofInt i_p0_fault), .int (Int32.ofInt i_p0_wrongAt), .ref a_p0_places, .ref a_p0_stirred, .ref a_p0_ways, .ref a_p0_waysThen, .ref a_p0_stays, .ref a_p0_fewest, .ref a_p0_bowls, .ref a_p0_has, .ref a_p0_goesOn, .ref a_p0_isThere, .ref a_p0_isThereThen, .ref a_p0_bestRow, .ref a_p0_lanes, .ref a_p0_sizes, .ref a_p0_cells, .int (Int32.ofInt i_p0_torn)])), (a_p0_st, .inl (G 1, 152, .inl (zA v_p0_st))), (a_p0_brings, .inl (G 1, 35, .inl (zA v_p0_brings))), (a_p0_places, .inl (G 1, 7, .inl (zA v_p0_places))), (a_p0_stirred, .inl (G 1, 7, .inl (zA v_p0_stirred))), (a_p0_lanes, .inl (G 1, 4, .inl (zA v_p0_lanes))), (a_p0_sizes, .inl (G 1, 4, .inl (zA v_p0_sizes))), (a_p0_cells, .inl (G 1, 160, .inl (zA v_p0_cells)))] s.heap.size = A at hD ⊢
  have hA : ∀ q : Nat, s.heap.size ≤ q → A q := fun q h => by rw [← hAe]; exact Or.inr h
  clear hAe hD0
  have hS : va_S A s.heap s.heap [] := va_S.rf
  have hl := lv_entry ([.ref a_p0, .int (Int32.ofInt x1), .int (Int32.ofInt x2), .int (Int32.ofInt x3), .int (Int32.ofInt x4)]) (n := 10) (Nat.le_of_ble_eq_true rfl)
  rw [lg_entry_eq]
  generalize (lg_sl ([.ref a_p0, .int (Int32.ofInt x1), .int (Int32.ofInt x2), .int (Int32.ofInt x3), .int (Int32.ofInt x4)]) ++ List.replicate (10 - (lg_sl ([.ref a_p0, .int (Int32.ofInt x1), .int (Int32.ofInt x2), .int (Int32.ofInt x3), .int (Int32.ofInt x4)])).length) Slot.unset).toArray = ls at hl ⊢
  have hl : lv_has ls 10 [(0, .ref a_p0), (1, .int (Int32.ofInt x1)), (2, .int (Int32.ofInt x2)), (3, .int (Int32.ofInt x3)), (4, .int (Int32.ofInt x4))] := hl
  refine W_nameQ (fun Q hQ => ?_)
  obtain ⟨H, hH⟩ : ∃ H, H = s.heap := ⟨_, rfl⟩
  replace hS : va_S A s.heap H [] := by rw [hH]; exact hS
  replace hP : va_P D vwCl [(a_p0, .inr (12, [.ref a_p0_st, .ref a_p0_isKept, .int (Int32.ofInt i_p0_seats), .int (Int32.ofInt i_p0_stirs), .ref a_p0_brings, .ref a_p0_need, .ref a_p0_draft, .int (Int32.ofInt i_p0_dSeats), .int (Int32.ofInt i_p0_dStirs), .ref a_p0_dStir, .ref a_p0_dNeed, .int (Int32.ofInt i_p0_told), .int (Int32.ofInt i_p0_highest), .ref a_p0_tape, .int (Int32.ofInt i_p0_taped), .int (Int32.ofInt i_p0_pos), .int (Int32.ofInt i_p0_from), .int (Int32.ofInt i_p0_sort), .int (Int32.ofInt i_p0_value), .int (Int32.ofInt i_p0_fault), .int (Int32.ofInt i_p0_wrongAt), .ref a_p0_places, .ref a_p0_stirred, .ref a_p0_ways, .ref a_p0_waysThen, .ref a_p0_stays, .ref a_p0_fewest, .ref a_p0_bowls, .ref a_p0_has, .ref a_p0_goesOn, .ref a_p0_isThere, .ref a_p0_isThereThen, .ref a_p0_bestRow, .ref a_p0_lanes, .ref a_p0_sizes, .ref a_p0_cells, .int (Int32.ofInt i_p0_torn)])), (a_p0_st, .inl (G 1, 152, .inl (zA v_p0_st))), (a_p0_brings, .inl (G 1, 35, .inl (zA v_p0_brings))), (a_p0_places, .inl (G 1, 7, .inl (zA v_p0_places))), (a_p0_stirred, .inl (G 1, 7, .inl (zA v_p0_stirred))), (a_p0_lanes, .inl (G 1, 4, .inl (zA v_p0_lanes))), (a_p0_sizes, .inl (G 1, 4, .inl (zA v_p0_sizes))), (a_p0_cells, .inl (G 1, 160, .inl (zA v_p0_cells)))] H := by rw [hH]; exact hP
  rw [← hH]
  clear hH
  unfold f_X12_read at hf
  refine lv_iload_n hx hb dX12_read_0 rfl (lv_at hl 1 rfl) ?_
  refine lv_iload_n hx hb dX12_read_1 rfl (lv_at hl 2 rfl) ?_
  have hq := bd1_s hf
  clear hf
  obtain ⟨z1, hcall, hf⟩ := hq
  refine gnI (va_runS (As := [.int (Int32.ofInt x1), .int (Int32.ofInt x2)]) (rest := []) ⟨hx, hb, hml, hown, hts⟩ (c_X12_isSheet (l := l) (D := D) (G := G) (sz := H.size) (x0 := x1) (x1 := x2) (r := z1) (hf := hcall)) (va_cwS 2 hts gX12_read_X12_isSheet rfl rfl rfl (by decide +kernel) ⟨Nat.le_of_ble_eq_true rfl, Nat.le_of_ble_eq_true rfl⟩) (preG_S (hP.sub [] rfl) (hD.sub [] rfl rfl) hK) rfl rfl hl.1 rfl (lv_room (Nat.le_of_ble_eq_true rfl)) dX12_read_2 ⟨Nat.le_of_ble_eq_true rfl, Nat.le_of_ble_eq_true rfl⟩) hP hD hS hA [] rfl (fun H locs hP hD hS => ?_)
  clear hcall
  have hr1 := ck_c hf
  replace hf := ck_r hf
  refine lv_if_eq (tgt := 21) hx hb dX12_read_5 (by decide) (fun cc => ?_) (fun cc => ?_)
  ·
    replace hf := ite_t ((z_eq0 hr1).mp cc) hf
    clear cc
    refine lv_iconst (v := Int32.ofInt (-1 : Int)) hx hb dX12_read_21 (by decide) ?_
    obtain ⟨rfl, rfl, rfl, rfl, rfl⟩ := ou5 hf
    rw [hQ]
    exact W.iret hx hb hr (fun t ht hW => ⟨⟨_, (), rfl, rfl, by rw [ht]; exact hP, va_K.moved hW.alike hK, hD⟩, hS.F ht⟩) hS.2.2 dX12_read_22
  ·
    replace hf := ite_f (fun h9 => cc ((z_eq0 hr1).mpr h9)) hf
    clear cc
    refine lv_iload hx hb dX12_read_8 (lv_at hl 4 rfl) ?_
    have hr2 := ck_c hf
    replace hf := ck_r hf
    refine lv_i2l (v := Int64.ofInt x4) hx hb dX12_read_10 (z_i2l hr2) ?_
    refine lv_lconst (v := Int64.ofInt (0 : Int)) hx hb dX12_read_11 (by decide) ?_
    refine lv_ldc2 (v := (20 : Int64)) hx hb hown (hts _ mwX12_read_0) dX12_read_12 (z_cl (show Int64.ofInt (20 : Int) = _ from by decide) ?_)
    have hq := bd1_s hf
    clear hf
    obtain ⟨z4, hcall, hf⟩ := hq
    refine gnI (va_runS (As := [.long (Int64.ofInt x4), .long (Int64.ofInt (0 : Int)), .long (Int64.ofInt (20 : Int))]) (rest := []) ⟨hx, hb, hml, hown, hts⟩ (c_X12_in (l := l) (D := D) (G := G) (sz := H.size) (x0 := x4) (x2 := (0 : Int)) (x4 := (20 : Int)) (r := z4) (hf := hcall)) (va_cwS 3 hts gX12_read_X12_in rfl rfl rfl (by decide +kernel) ⟨Nat.le_of_ble_eq_true rfl, Nat.le_of_ble_eq_true rfl⟩) (preG_S (hP.sub [] rfl) (hD.sub [] rfl rfl) hK) rfl rfl hl.1 rfl (lv_room (Nat.le_of_ble_eq_true rfl)) dX12_read_15 ⟨Nat.le_of_ble_eq_true rfl, Nat.le_of_ble_eq_true rfl⟩) hP hD hS hA [] rfl (fun H locs hP hD hS => ?_)
    clear hcall
    have hr4 := ck_c hf
    replace hf := ck_r hf
    refine lv_if_ne (tgt := 23) hx hb dX12_read_18 (by decide) (fun cc => ?_) (fun cc => ?_)
    ·
      replace hf := ite_f (fun h9 => cc ((z_eq0 hr4).mpr h9)) hf
      clear cc
      refine lv_aload_n hx hb dX12_read_23 rfl (lv_at hl 0 rfl) ?_
      refine lv_bipush (v := Int32.ofInt (114 : Int)) hx hb dX12_read_24 (by decide) ?_
      refine lv_iconst (v := Int32.ofInt (0 : Int)) hx hb dX12_read_26 (by decide) ?_
      have hq := bd1_s hf
      clear hf
      obtain ⟨w6, hcall, hf⟩ := hq
      refine gsV (ws' := [(a_p0, .inr (12, [.ref a_p0_st, .ref a_p0_isKept, .int (Int32.ofInt i_p0_seats), .int (Int32.ofInt i_p0_stirs), .ref a_p0_brings, .ref a_p0_need, .ref a_p0_draft, .int (Int32.ofInt i_p0_dSeats), .int (Int32.ofInt i_p0_dStirs), .ref a_p0_dStir, .ref a_p0_dNeed, .int (Int32.ofInt i_p0_told), .int (Int32.ofInt i_p0_highest), .ref a_p0_tape, .int (Int32.ofInt i_p0_taped), .int (Int32.ofInt i_p0_pos), .int (Int32.ofInt i_p0_from), .int (Int32.ofInt i_p0_sort), .int (Int32.ofInt i_p0_value), .int (Int32.ofInt i_p0_fault), .int (Int32.ofInt i_p0_wrongAt), .ref a_p0_places, .ref a_p0_stirred, .ref a_p0_ways, .ref a_p0_waysThen, .ref a_p0_stays, .ref a_p0_fewest, .ref a_p0_bowls, .ref a_p0_has, .ref a_p0_goesOn, .ref a_p0_isThere, .ref a_p0_isThereThen, .ref a_p0_bestRow, .ref a_p0_lanes, .ref a_p0_sizes, .ref a_p0_cells, .int (Int32.ofInt i_p0_torn)])), (a_p0_st, .inl (G 1, 152, .inl (zA w6))), (a_p0_brings, .inl (G 1, 35, .inl (zA v_p0_brings))), (a_p0_places, .inl (G 1, 7, .inl (zA v_p0_places))), (a_p0_stirred, .inl (G 1, 7, .inl (zA v_p0_stirred))), (a_p0_lanes, .inl (G 1, 4, .inl (zA v_p0_lanes))), (a_p0_sizes, .inl (G 1, 4, .inl (zA v_p0_sizes))), (a_p0_cells, .inl (G 1, 160, .inl (zA v_p0_cells)))]) (va_runV (As := [.int (Int32.ofInt (114 : Int)), .int (Int32.ofInt (0 : Int))]) (rest := []) ⟨hx, hb, hml, hown, hts⟩ (c_X12_copies (l := l) (D := D) (G := G) (sz := H.size) (a_p0 := a_p0) (a_p0_st := a_p0_st) (a_p0_isKept := a_p0_isKept) (a_p0_brings := a_p0_brings) (a_p0_need := a_p0_need) (a_p0_draft := a_p0_draft) (a_p0_dStir := a_p0_dStir) (a_p0_dNeed := a_p0_dNeed) (a_p0_tape := a_p0_tape) (a_p0_places := a_p0_places) (a_p0_stirred := a_p0_stirred) (a_p0_ways := a_p0_ways) (a_p0_waysThen := a_p0_waysThen) (a_p0_stays := a_p0_stays) (a_p0_fewest := a_p0_fewest) (a_p0_bowls := a_p0_bowls) (a_p0_has := a_p0_has) (a_p0_goesOn := a_p0_goesOn) (a_p0_isThere := a_p0_isThere) (a_p0_isThereThen := a_p0_isThereThen) (a_p0_bestRow := a_p0_bestRow) (a_p0_lanes := a_p0_lanes) (a_p0_sizes := a_p0_sizes) (a_p0_cells := a_p0_cells) (i_p0_seats := i_p0_seats) (i_p0_stirs := i_p0_stirs) (i_p0_dSeats := i_p0_dSeats) (i_p0_dStirs := i_p0_dStirs) (i_p0_told := i_p0_told) (i_p0_highest := i_p0_highest) (i_p0_taped := i_p0_taped) (i_p0_pos := i_p0_pos) (i_p0_from := i_p0_from) (i_p0_sort := i_p0_sort) (i_p0_value := i_p0_value) (i_p0_fault := i_p0_fault) (i_p0_wrongAt := i_p0_wrongAt) (i_p0_torn := i_p0_torn) (v_p0_st := v_p0_st) (x1 := (114 : Int)) (x2 := (0 : Int)) (o_v_p0_st := w6) (hf := hcall)) (cwV 2 hts gX12_read_X12_copies rfl rfl rfl hdV_yX12_copies_RX12 ⟨Nat.le_of_ble_eq_true rfl, Nat.le_of_ble_eq_true rfl⟩) (preG_V (ci := 12) (q := (RX12, TX12, 37)) (hP.sub [0, 1] rfl) (hD.sub [0, 1] rfl rfl) hK rfl rfl) rfl rfl hl.1 rfl (lv_room (Nat.le_of_ble_eq_true rfl)) dX12_read_27 ⟨Nat.le_of_ble_eq_true rfl, Nat.le_of_ble_eq_true rfl⟩) hP hD hS hA [0, 1] rfl rfl rfl (fun H locs hP hD hS => ?_)
      clear hcall
      refine lv_iconst (v := Int32.ofInt (0 : Int)) hx hb dX12_read_30 (by decide) ?_
      refine z_topi (fun z7 ez => ?_)
      replace hf := bnd_s hf ez
      clear ez
      refine lv_istore (lv' := [(5, .int (Int32.ofInt z7)), (0, .ref a_p0), (1, .int (Int32.ofInt x1)), (2, .int (Int32.ofInt x2)), (3, .int (Int32.ofInt x3)), (4, .int (Int32.ofInt x4))]) hx hb dX12_read_31 hl (by decide) rfl (fun ls hl => ?_)
      refine lv_iconst (v := Int32.ofInt (0 : Int)) hx hb dX12_read_33 (by decide) ?_
      refine z_topi (fun z8 ez => ?_)
      replace hf := bnd_s hf ez
      clear ez
      refine lv_istore (lv' := [(6, .int (Int32.ofInt z8)), (5, .int (Int32.ofInt z7)), (0, .ref a_p0), (1, .int (Int32.ofInt x1)), (2, .int (Int32.ofInt x2)), (3, .int (Int32.ofInt x3)), (4, .int (Int32.ofInt x4))]) hx hb dX12_read_34 hl (by decide) rfl (fun ls hl => ?_)
      refine lv_iconst (v := Int32.ofInt (0 : Int)) hx hb dX12_read_36 (by decide) ?_
      refine z_topi (fun z9 ez => ?_)
      replace hf := bnd_s hf ez
      clear ez
      refine lv_istore (lv' := [(7, .int (Int32.ofInt z9)), (6, .int (Int32.ofInt z8)), (5, .int (Int32.ofInt z7)), (0, .ref a_p0), (1, .int (Int32.ofInt x1)), (2, .int (Int32.ofInt x2)), (3, .int (Int32.ofInt x3)), (4, .int (Int32.ofInt x4))]) hx hb dX12_read_37 hl (by decide) rfl (fun ls hl => ?_)
      have hq := jn_i hf
      clear hf
      obtain ⟨J15, eJ15, hf⟩ := hq
      have hJ15 : ∀ (z10 : Int) (z11 : Int) (w12 : (Int → Int)) (w13 : (Int → Int)) (w14 : (Int → Int)) (ls : Array Slot) (H : Heap) (locs : List Loc), lv_has ls 10 [(6, .int (Int32.ofInt z11)), (5, .int (Int32.ofInt z10)), (0, .ref a_p0)] → va_P D vwCl [(a_p0, .inr (12, [.ref a_p0_st, .ref a_p0_isKept, .int (Int32.ofInt i_p0_seats), .int (Int32.ofInt i_p0_stirs), .ref a_p0_brings, .ref a_p0_need, .ref a_p0_draft, .int (Int32.ofInt i_p0_dSeats), .int (Int32.ofInt i_p0_dStirs), .ref a_p0_dStir, .ref a_p0_dNeed, .int (Int32.ofInt i_p0_told), .int (Int32.ofInt i_p0_highest), .ref a_p0_tape, .int (Int32.ofInt i_p0_taped), .int (Int32.ofInt i_p0_pos), .int (Int32.ofInt i_p0_from), .int (Int32.ofInt i_p0_sort), .int (Int32.ofInt i_p0_value), .int (Int32.ofInt i_p0_fault), .int (Int32.ofInt i_p0_wrongAt), .ref a_p0_places, .ref a_p0_stirred, .ref a_p0_ways, .ref a_p0_waysThen, .ref a_p0_stays, .ref a_p0_fewest, .ref a_p0_bowls, .ref a_p0_has, .ref a_p0_goesOn, .ref a_p0_isThere, .ref a_p0_isThereThen, .ref a_p0_bestRow, .ref a_p0_lanes, .ref a_p0_sizes, .ref a_p0_cells, .int (Int32.ofInt i_p0_torn)])), (a_p0_st, .inl (G 1, 152, .inl (zA w12))), (a_p0_brings, .inl (G 1, 35, .inl (zA v_p0_brings))), (a_p0_places, .inl (G 1, 7, .inl (zA w13))), (a_p0_stirred, .inl (G 1, 7, .inl (zA w14))), (a_p0_lanes, .inl (G 1, 4, .inl (zA v_p0_lanes))), (a_p0_sizes, .inl (G 1, 4, .inl (zA v_p0_sizes))), (a_p0_cells, .inl (G 1, 160, .inl (zA v_p0_cells)))] H → va_D A [(a_p0, .inr (12, [.ref a_p0_st, .ref a_p0_isKept, .int (Int32.ofInt i_p0_seats), .int (Int32.ofInt i_p0_stirs), .ref a_p0_brings, .ref a_p0_need, .ref a_p0_draft, .int (Int32.ofInt i_p0_dSeats), .int (Int32.ofInt i_p0_dStirs), .ref a_p0_dStir, .ref a_p0_dNeed, .int (Int32.ofInt i_p0_told), .int (Int32.ofInt i_p0_highest), .ref a_p0_tape, .int (Int32.ofInt i_p0_taped), .int (Int32.ofInt i_p0_pos), .int (Int32.ofInt i_p0_from), .int (Int32.ofInt i_p0_sort), .int (Int32.ofInt i_p0_value), .int (Int32.ofInt i_p0_fault), .int (Int32.ofInt i_p0_wrongAt), .ref a_p0_places, .ref a_p0_stirred, .ref a_p0_ways, .ref a_p0_waysThen, .ref a_p0_stays, .ref a_p0_fewest, .ref a_p0_bowls, .ref a_p0_has, .ref a_p0_goesOn, .ref a_p0_isThere, .ref a_p0_isThereThen, .ref a_p0_bestRow, .ref a_p0_lanes, .ref a_p0_sizes, .ref a_p0_cells, .int (Int32.ofInt i_p0_torn)])), (a_p0_st, .inl (G 1, 152, .inl (zA w12))), (a_p0_brings, .inl (G 1, 35, .inl (zA v_p0_brings))), (a_p0_places, .inl (G 1, 7, .inl (zA w13))), (a_p0_stirred, .inl (G 1, 7, .inl (zA w14))), (a_p0_lanes, .inl (G 1, 4, .inl (zA v_p0_lanes))), (a_p0_sizes, .inl (G 1, 4, .inl (zA v_p0_sizes))), (a_p0_cells, .inl (G 1, 160, .inl (zA v_p0_cells)))] → va_S A s.heap H locs → J15 z10 z11 w12 w13 w14 = some (r, o_i_p0_torn, o_v_p0_st, o_v_p0_places, o_v_p0_stirred) → W p l e rm_X12_read s m ([.ref a_p0, .int (Int32.ofInt x1), .int (Int32.ofInt x2), .int (Int32.ofInt x3), .int (Int32.ofInt x4)] : List Value).toArray below meth c H locs 0 0 Q (F0 m 163 ls []) := by
        clear hf hl hP hD hS
        intro z10 z11 w12 w13 w14 ls H locs hl hP hD hS hf
        replace hf := jn5_s eJ15 hf
        refine lv_aload_n hx hb dX12_read_163 rfl (lv_at hl 2 rfl) ?_
        refine lv_iload hx hb dX12_read_164 (lv_at hl 1 rfl) ?_
        refine z_topi (fun z16 ez => ?_)
        replace hf := bnd_s hf ez
        clear ez
        refine va_put (D := D) (ci := 12) (v := .int (Int32.ofInt z16)) (ty := .int) (C := RX12) (T := TX12) (N := 37) hx hb hts inX12_read_X12 tyX12 tyX12_ok nmX12 hown hK hP hD hS 0 rfl rfl 36 (by decide) (hts _ mwX12_read_2) (fun _ h9 => h9) rfl (by decide +kernel) rfl rfl (Nat.le_of_ble_eq_true rfl) dX12_read_166 (fun H locs hP hD hS => ?_)
        have hP : va_P D vwCl [(a_p0, .inr (12, [.ref a_p0_st, .ref a_p0_isKept, .int (Int32.ofInt i_p0_seats), .int (Int32.ofInt i_p0_stirs), .ref a_p0_brings, .ref a_p0_need, .ref a_p0_draft, .int (Int32.ofInt i_p0_dSeats), .int (Int32.ofInt i_p0_dStirs), .ref a_p0_dStir, .ref a_p0_dNeed, .int (Int32.ofInt i_p0_told), .int (Int32.ofInt i_p0_highest), .ref a_p0_tape, .int (Int32.ofInt i_p0_taped), .int (Int32.ofInt i_p0_pos), .int (Int32.ofInt i_p0_from), .int (Int32.ofInt i_p0_sort), .int (Int32.ofInt i_p0_value), .int (Int32.ofInt i_p0_fault), .int (Int32.ofInt i_p0_wrongAt), .ref a_p0_places, .ref a_p0_stirred, .ref a_p0_ways, .ref a_p0_waysThen, .ref a_p0_stays, .ref a_p0_fewest, .ref a_p0_bowls, .ref a_p0_has, .ref a_p0_goesOn, .ref a_p0_isThere, .ref a_p0_isThereThen, .ref a_p0_bestRow, .ref a_p0_lanes, .ref a_p0_sizes, .ref a_p0_cells, .int (Int32.ofInt z16)])), (a_p0_st, .inl (G 1, 152, .inl (zA w12))), (a_p0_brings, .inl (G 1, 35, .inl (zA v_p0_brings))), (a_p0_places, .inl (G 1, 7, .inl (zA w13))), (a_p0_stirred, .inl (G 1, 7, .inl (zA w14))), (a_p0_lanes, .inl (G 1, 4, .inl (zA v_p0_lanes))), (a_p0_sizes, .inl (G 1, 4, .inl (zA v_p0_sizes))), (a_p0_cells, .inl (G 1, 160, .inl (zA v_p0_cells)))] H := hP
        have hD : va_D A [(a_p0, .inr (12, [.ref a_p0_st, .ref a_p0_isKept, .int (Int32.ofInt i_p0_seats), .int (Int32.ofInt i_p0_stirs), .ref a_p0_brings, .ref a_p0_need, .ref a_p0_draft, .int (Int32.ofInt i_p0_dSeats), .int (Int32.ofInt i_p0_dStirs), .ref a_p0_dStir, .ref a_p0_dNeed, .int (Int32.ofInt i_p0_told), .int (Int32.ofInt i_p0_highest), .ref a_p0_tape, .int (Int32.ofInt i_p0_taped), .int (Int32.ofInt i_p0_pos), .int (Int32.ofInt i_p0_from), .int (Int32.ofInt i_p0_sort), .int (Int32.ofInt i_p0_value), .int (Int32.ofInt i_p0_fault), .int (Int32.ofInt i_p0_wrongAt), .ref a_p0_places, .ref a_p0_stirred, .ref a_p0_ways, .ref a_p0_waysThen, .ref a_p0_stays, .ref a_p0_fewest, .ref a_p0_bowls, .ref a_p0_has, .ref a_p0_goesOn, .ref a_p0_isThere, .ref a_p0_isThereThen, .ref a_p0_bestRow, .ref a_p0_lanes, .ref a_p0_sizes, .ref a_p0_cells, .int (Int32.ofInt z16)])), (a_p0_st, .inl (G 1, 152, .inl (zA w12))), (a_p0_brings, .inl (G 1, 35, .inl (zA v_p0_brings))), (a_p0_places, .inl (G 1, 7, .inl (zA w13))), (a_p0_stirred, .inl (G 1, 7, .inl (zA w14))), (a_p0_lanes, .inl (G 1, 4, .inl (zA v_p0_lanes))), (a_p0_sizes, .inl (G 1, 4, .inl (zA v_p0_sizes))), (a_p0_cells, .inl (G 1, 160, .inl (zA v_p0_cells)))] := hD
        refine lv_iload hx hb dX12_read_169 (lv_at hl 0 rfl) ?_
        obtain ⟨rfl, rfl, rfl, rfl, rfl⟩ := ou5 hf
        rw [hQ]
        exact W.iret hx hb hr (fun t ht hW => ⟨⟨_, (), rfl, rfl, by rw [ht]; exact hP, va_K.moved hW.alike hK, hD⟩, hS.F ht⟩) hS.2.2 dX12_read_171
      have hq := jn_i hf
      clear hf
      obtain ⟨J21, eJ21, hf⟩ := hq
      have hJ21 : ∀ (z17 : Int) (w18 : (Int → Int)) (w19 : (Int → Int)) (w20 : (Int → Int)) (ls : Array Slot) (H : Heap) (locs : List Loc), lv_has ls 10 [(7, .int (Int32.ofInt z17)), (0, .ref a_p0)] → va_P D vwCl [(a_p0, .inr (12, [.ref a_p0_st, .ref a_p0_isKept, .int (Int32.ofInt i_p0_seats), .int (Int32.ofInt i_p0_stirs), .ref a_p0_brings, .ref a_p0_need, .ref a_p0_draft, .int (Int32.ofInt i_p0_dSeats), .int (Int32.ofInt i_p0_dStirs), .ref a_p0_dStir, .ref a_p0_dNeed, .int (Int32.ofInt i_p0_told), .int (Int32.ofInt i_p0_highest), .ref a_p0_tape, .int (Int32.ofInt i_p0_taped), .int (Int32.ofInt i_p0_pos), .int (Int32.ofInt i_p0_from), .int (Int32.ofInt i_p0_sort), .int (Int32.ofInt i_p0_value), .int (Int32.ofInt i_p0_fault), .int (Int32.ofInt i_p0_wrongAt), .ref a_p0_places, .ref a_p0_stirred, .ref a_p0_ways, .ref a_p0_waysThen, .ref a_p0_stays, .ref a_p0_fewest, .ref a_p0_bowls, .ref a_p0_has, .ref a_p0_goesOn, .ref a_p0_isThere, .ref a_p0_isThereThen, .ref a_p0_bestRow, .ref a_p0_lanes, .ref a_p0_sizes, .ref a_p0_cells, .int (Int32.ofInt i_p0_torn)])), (a_p0_st, .inl (G 1, 152, .inl (zA w18))), (a_p0_brings, .inl (G 1, 35, .inl (zA v_p0_brings))), (a_p0_places, .inl (G 1, 7, .inl (zA w19))), (a_p0_stirred, .inl (G 1, 7, .inl (zA w20))), (a_p0_lanes, .inl (G 1, 4, .inl (zA v_p0_lanes))), (a_p0_sizes, .inl (G 1, 4, .inl (zA v_p0_sizes))), (a_p0_cells, .inl (G 1, 160, .inl (zA v_p0_cells)))] H → va_D A [(a_p0, .inr (12, [.ref a_p0_st, .ref a_p0_isKept, .int (Int32.ofInt i_p0_seats), .int (Int32.ofInt i_p0_stirs), .ref a_p0_brings, .ref a_p0_need, .ref a_p0_draft, .int (Int32.ofInt i_p0_dSeats), .int (Int32.ofInt i_p0_dStirs), .ref a_p0_dStir, .ref a_p0_dNeed, .int (Int32.ofInt i_p0_told), .int (Int32.ofInt i_p0_highest), .ref a_p0_tape, .int (Int32.ofInt i_p0_taped), .int (Int32.ofInt i_p0_pos), .int (Int32.ofInt i_p0_from), .int (Int32.ofInt i_p0_sort), .int (Int32.ofInt i_p0_value), .int (Int32.ofInt i_p0_fault), .int (Int32.ofInt i_p0_wrongAt), .ref a_p0_places, .ref a_p0_stirred, .ref a_p0_ways, .ref a_p0_waysThen, .ref a_p0_stays, .ref a_p0_fewest, .ref a_p0_bowls, .ref a_p0_has, .ref a_p0_goesOn, .ref a_p0_isThere, .ref a_p0_isThereThen, .ref a_p0_bestRow, .ref a_p0_lanes, .ref a_p0_sizes, .ref a_p0_cells, .int (Int32.ofInt i_p0_torn)])), (a_p0_st, .inl (G 1, 152, .inl (zA w18))), (a_p0_brings, .inl (G 1, 35, .inl (zA v_p0_brings))), (a_p0_places, .inl (G 1, 7, .inl (zA w19))), (a_p0_stirred, .inl (G 1, 7, .inl (zA w20))), (a_p0_lanes, .inl (G 1, 4, .inl (zA v_p0_lanes))), (a_p0_sizes, .inl (G 1, 4, .inl (zA v_p0_sizes))), (a_p0_cells, .inl (G 1, 160, .inl (zA v_p0_cells)))] → va_S A s.heap H locs → J21 z17 w18 w19 w20 = some (r, o_i_p0_torn, o_v_p0_st, o_v_p0_places, o_v_p0_stirred) → W p l e rm_X12_read s m ([.ref a_p0, .int (Int32.ofInt x1), .int (Int32.ofInt x2), .int (Int32.ofInt x3), .int (Int32.ofInt x4)] : List Value).toArray below meth c H locs 0 0 Q (F0 m 141 ls []) := by
        clear hf hl hP hD hS
        intro z17 w18 w19 w20 ls H locs hl hP hD hS hf
        replace hf := jn4_s eJ21 hf
        refine lv_aload_n hx hb dX12_read_141 rfl (lv_at hl 1 rfl) ?_
        refine lv_iconst (v := Int32.ofInt (0 : Int)) hx hb dX12_read_142 (by decide) ?_
        refine lv_bipush (v := Int32.ofInt (114 : Int)) hx hb dX12_read_143 (by decide) ?_
        have hq := bd1_s hf
        clear hf
        obtain ⟨w22, hcall, hf⟩ := hq
        refine gsV (ws' := [(a_p0, .inr (12, [.ref a_p0_st, .ref a_p0_isKept, .int (Int32.ofInt i_p0_seats), .int (Int32.ofInt i_p0_stirs), .ref a_p0_brings, .ref a_p0_need, .ref a_p0_draft, .int (Int32.ofInt i_p0_dSeats), .int (Int32.ofInt i_p0_dStirs), .ref a_p0_dStir, .ref a_p0_dNeed, .int (Int32.ofInt i_p0_told), .int (Int32.ofInt i_p0_highest), .ref a_p0_tape, .int (Int32.ofInt i_p0_taped), .int (Int32.ofInt i_p0_pos), .int (Int32.ofInt i_p0_from), .int (Int32.ofInt i_p0_sort), .int (Int32.ofInt i_p0_value), .int (Int32.ofInt i_p0_fault), .int (Int32.ofInt i_p0_wrongAt), .ref a_p0_places, .ref a_p0_stirred, .ref a_p0_ways, .ref a_p0_waysThen, .ref a_p0_stays, .ref a_p0_fewest, .ref a_p0_bowls, .ref a_p0_has, .ref a_p0_goesOn, .ref a_p0_isThere, .ref a_p0_isThereThen, .ref a_p0_bestRow, .ref a_p0_lanes, .ref a_p0_sizes, .ref a_p0_cells, .int (Int32.ofInt i_p0_torn)])), (a_p0_st, .inl (G 1, 152, .inl (zA w22))), (a_p0_brings, .inl (G 1, 35, .inl (zA v_p0_brings))), (a_p0_places, .inl (G 1, 7, .inl (zA w19))), (a_p0_stirred, .inl (G 1, 7, .inl (zA w20))), (a_p0_lanes, .inl (G 1, 4, .inl (zA v_p0_lanes))), (a_p0_sizes, .inl (G 1, 4, .inl (zA v_p0_sizes))), (a_p0_cells, .inl (G 1, 160, .inl (zA v_p0_cells)))]) (va_runV (As := [.int (Int32.ofInt (0 : Int)), .int (Int32.ofInt (114 : Int))]) (rest := []) ⟨hx, hb, hml, hown, hts⟩ (c_X12_copies (l := l) (D := D) (G := G) (sz := H.size) (a_p0 := a_p0) (a_p0_st := a_p0_st) (a_p0_isKept := a_p0_isKept) (a_p0_brings := a_p0_brings) (a_p0_need := a_p0_need) (a_p0_draft := a_p0_draft) (a_p0_dStir := a_p0_dStir) (a_p0_dNeed := a_p0_dNeed) (a_p0_tape := a_p0_tape) (a_p0_places := a_p0_places) (a_p0_stirred := a_p0_stirred) (a_p0_ways := a_p0_ways) (a_p0_waysThen := a_p0_waysThen) (a_p0_stays := a_p0_stays) (a_p0_fewest := a_p0_fewest) (a_p0_bowls := a_p0_bowls) (a_p0_has := a_p0_has) (a_p0_goesOn := a_p0_goesOn) (a_p0_isThere := a_p0_isThere) (a_p0_isThereThen := a_p0_isThereThen) (a_p0_bestRow := a_p0_bestRow) (a_p0_lanes := a_p0_lanes) (a_p0_sizes := a_p0_sizes) (a_p0_cells := a_p0_cells) (i_p0_seats := i_p0_seats) (i_p0_stirs := i_p0_stirs) (i_p0_dSeats := i_p0_dSeats) (i_p0_dStirs := i_p0_dStirs) (i_p0_told := i_p0_told) (i_p0_highest := i_p0_highest) (i_p0_taped := i_p0_taped) (i_p0_pos := i_p0_pos) (i_p0_from := i_p0_from) (i_p0_sort := i_p0_sort) (i_p0_value := i_p0_value) (i_p0_fault := i_p0_fault) (i_p0_wrongAt := i_p0_wrongAt) (i_p0_torn := i_p0_torn) (v_p0_st := w18) (x1 := (0 : Int)) (x2 := (114 : Int)) (o_v_p0_st := w22) (hf := hcall)) (cwV 2 hts gX12_read_X12_copies rfl rfl rfl hdV_yX12_copies_RX12 ⟨Nat.le_of_ble_eq_true rfl, Nat.le_of_ble_eq_true rfl⟩) (preG_V (ci := 12) (q := (RX12, TX12, 37)) (hP.sub [0, 1] rfl) (hD.sub [0, 1] rfl rfl) hK rfl rfl) rfl rfl hl.1 rfl (lv_room (Nat.le_of_ble_eq_true rfl)) dX12_read_145 ⟨Nat.le_of_ble_eq_true rfl, Nat.le_of_ble_eq_true rfl⟩) hP hD hS hA [0, 1] rfl rfl rfl (fun H locs hP hD hS => ?_)
        clear hcall
        refine lv_bipush (v := Int32.ofInt (-20 : Int)) hx hb dX12_read_148 (by decide) ?_
        refine lv_iload hx hb dX12_read_150 (lv_at hl 0 rfl) ?_
        refine lv_isub hx hb dX12_read_152 (z_ci (Int32.ofInt_sub (-20 : Int) z17) ?_)
        obtain ⟨rfl, rfl, rfl, rfl, rfl⟩ := ou5 hf
        rw [hQ]
        exact W.iret hx hb hr (fun t ht hW => ⟨⟨_, (), rfl, rfl, by rw [ht]; exact hP, va_K.moved hW.alike hK, hD⟩, hS.F ht⟩) hS.2.2 dX12_read_153
      have hq := lq6_i hf
      clear hf
      obtain ⟨B29, eB29, NB29, hf⟩ := hq
      have hB29 : ∀ (n : Nat) (z23 : Int) (z24 : Int) (z25 : Int) (w26 : (Int → Int)) (w27 : (Int → Int)) (w28 : (Int → Int)) (ls : Array Slot) (H : Heap) (locs : List Loc), lv_has ls 10 [(7, .int (Int32.ofInt z23)), (6, .int (Int32.ofInt z24)), (5, .int (Int32.ofInt z25)), (0, .ref a_p0), (1, .int (Int32.ofInt x1)), (2, .int (Int32.ofInt x2)), (3, .int (Int32.ofInt x3)), (4, .int (Int32.ofInt x4))] → va_P D vwCl [(a_p0, .inr (12, [.ref a_p0_st, .ref a_p0_isKept, .int (Int32.ofInt i_p0_seats), .int (Int32.ofInt i_p0_stirs), .ref a_p0_brings, .ref a_p0_need, .ref a_p0_draft, .int (Int32.ofInt i_p0_dSeats), .int (Int32.ofInt i_p0_dStirs), .ref a_p0_dStir, .ref a_p0_dNeed, .int (Int32.ofInt i_p0_told), .int (Int32.ofInt i_p0_highest), .ref a_p0_tape, .int (Int32.ofInt i_p0_taped), .int (Int32.ofInt i_p0_pos), .int (Int32.ofInt i_p0_from), .int (Int32.ofInt i_p0_sort), .int (Int32.ofInt i_p0_value), .int (Int32.ofInt i_p0_fault), .int (Int32.ofInt i_p0_wrongAt), .ref a_p0_places, .ref a_p0_stirred, .ref a_p0_ways, .ref a_p0_waysThen, .ref a_p0_stays, .ref a_p0_fewest, .ref a_p0_bowls, .ref a_p0_has, .ref a_p0_goesOn, .ref a_p0_isThere, .ref a_p0_isThereThen, .ref a_p0_bestRow, .ref a_p0_lanes, .ref a_p0_sizes, .ref a_p0_cells, .int (Int32.ofInt i_p0_torn)])), (a_p0_st, .inl (G 1, 152, .inl (zA w26))), (a_p0_brings, .inl (G 1, 35, .inl (zA v_p0_brings))), (a_p0_places, .inl (G 1, 7, .inl (zA w27))), (a_p0_stirred, .inl (G 1, 7, .inl (zA w28))), (a_p0_lanes, .inl (G 1, 4, .inl (zA v_p0_lanes))), (a_p0_sizes, .inl (G 1, 4, .inl (zA v_p0_sizes))), (a_p0_cells, .inl (G 1, 160, .inl (zA v_p0_cells)))] H → va_D A [(a_p0, .inr (12, [.ref a_p0_st, .ref a_p0_isKept, .int (Int32.ofInt i_p0_seats), .int (Int32.ofInt i_p0_stirs), .ref a_p0_brings, .ref a_p0_need, .ref a_p0_draft, .int (Int32.ofInt i_p0_dSeats), .int (Int32.ofInt i_p0_dStirs), .ref a_p0_dStir, .ref a_p0_dNeed, .int (Int32.ofInt i_p0_told), .int (Int32.ofInt i_p0_highest), .ref a_p0_tape, .int (Int32.ofInt i_p0_taped), .int (Int32.ofInt i_p0_pos), .int (Int32.ofInt i_p0_from), .int (Int32.ofInt i_p0_sort), .int (Int32.ofInt i_p0_value), .int (Int32.ofInt i_p0_fault), .int (Int32.ofInt i_p0_wrongAt), .ref a_p0_places, .ref a_p0_stirred, .ref a_p0_ways, .ref a_p0_waysThen, .ref a_p0_stays, .ref a_p0_fewest, .ref a_p0_bowls, .ref a_p0_has, .ref a_p0_goesOn, .ref a_p0_isThere, .ref a_p0_isThereThen, .ref a_p0_bestRow, .ref a_p0_lanes, .ref a_p0_sizes, .ref a_p0_cells, .int (Int32.ofInt i_p0_torn)])), (a_p0_st, .inl (G 1, 152, .inl (zA w26))), (a_p0_brings, .inl (G 1, 35, .inl (zA v_p0_brings))), (a_p0_places, .inl (G 1, 7, .inl (zA w27))), (a_p0_stirred, .inl (G 1, 7, .inl (zA w28))), (a_p0_lanes, .inl (G 1, 4, .inl (zA v_p0_lanes))), (a_p0_sizes, .inl (G 1, 4, .inl (zA v_p0_sizes))), (a_p0_cells, .inl (G 1, 160, .inl (zA v_p0_cells)))] → va_S A s.heap H locs → lq6 B29 n z23 z24 z25 w26 w27 w28 = some (r, o_i_p0_torn, o_v_p0_st, o_v_p0_places, o_v_p0_stirred) → W p l e rm_X12_read s m ([.ref a_p0, .int (Int32.ofInt x1), .int (Int32.ofInt x2), .int (Int32.ofInt x3), .int (Int32.ofInt x4)] : List Value).toArray below meth c H locs 0 0 Q (F0 m 39 ls []) := by
        clear hf hl hP hD hS
        intro n
        induction n with
        | zero =>
          intro z23 z24 z25 w26 w27 w28 ls H locs hl hP hD hS hf
          exact (lq6_0 hf).elim
        | succ n ih39 =>
          intro z23 z24 z25 w26 w27 w28 ls H locs hl hP hD hS hf
          replace hf := lq6_s eB29 hf
          unfold B_X12_read_39 at hf
          refine lv_iload hx hb dX12_read_39 (lv_at hl 0 rfl) ?_
          refine lv_iload hx hb dX12_read_41 (lv_at hl 7 rfl) ?_
          have hr29 := ck_c hf
          replace hf := ck_r hf
          refine lv_icmp_ge (tgt := 163) hx hb dX12_read_43 (by decide) (fun cc => ?_) (fun cc => ?_)
          ·
            replace hf := ite_t ((z_le hr2 hr29).mp cc) hf
            clear cc
            exact hJ15 _ _ _ _ _ _ _ _ (lv_sub hl [1, 2, 3] rfl) hP hD hS hf
          ·
            replace hf := ite_f (fun h9 => cc ((z_le hr2 hr29).mpr h9)) hf
            clear cc
            refine lv_iload hx hb dX12_read_46 (lv_at hl 2 rfl) ?_
            have hr30 := ck_c hf
            replace hf := ck_r hf
            refine lv_if_ne (tgt := 163) hx hb dX12_read_48 (by decide) (fun cc => ?_) (fun cc => ?_)
            ·
              replace hf := ite_f (fun h9 => cc ((z_eq0 hr30).mpr h9)) hf
              clear cc
              exact hJ15 _ _ _ _ _ _ _ _ (lv_sub hl [1, 2, 3] rfl) hP hD hS hf
            ·
              replace hf := ite_t ((z_eq0 hr30).mp cc) hf
              clear cc
              refine lv_iload_n hx hb dX12_read_51 rfl (lv_at hl 6 rfl) ?_
              have hr31 := ck_c hf
              replace hf := ck_r hf
              refine lv_i2l (v := Int64.ofInt x3) hx hb dX12_read_52 (z_i2l hr31) ?_
              refine lv_iload hx hb dX12_read_53 (lv_at hl 0 rfl) ?_
              refine lv_i2l (v := Int64.ofInt z23) hx hb dX12_read_55 (z_i2l hr29) ?_
              refine lv_ladd hx hb dX12_read_56 (z_cl (Int64.ofInt_add x3 z23) ?_)
              refine z_topl (fun z33 ez => ?_)
              replace hf := bnd_s hf ez
              clear ez
              refine lv_lstore (lv' := [(8, .long (Int64.ofInt z33)), (7, .int (Int32.ofInt z23)), (6, .int (Int32.ofInt z24)), (5, .int (Int32.ofInt z25)), (0, .ref a_p0), (1, .int (Int32.ofInt x1)), (2, .int (Int32.ofInt x2)), (3, .int (Int32.ofInt x3)), (4, .int (Int32.ofInt x4))]) hx hb dX12_read_57 hl (by decide) rfl (fun ls hl => ?_)
              refine lv_aload_n hx hb dX12_read_59 rfl (lv_at hl 4 rfl) ?_
              refine va_get (D := D) (ci := 12) (v := .ref a_p0_lanes) (C := RX12) (T := TX12) (N := 37) hx hb hts inX12_read_X12 hown hK hP 0 rfl rfl 33 (by decide) (hts _ mwX12_read_3) (fun _ h9 => h9) rfl dX12_read_60 ?_
              refine lv_iload_n hx hb dX12_read_63 rfl (lv_at hl 5 rfl) ?_
              have hc := ck_c hf
              replace hf := ck_r hf
              refine va_iald hx hb hK hP 5 1 rfl rfl (z_ix_in hc) dX12_read_64 (z_ci (z_ald v_p0_lanes hc) ?_)
              clear hc
              refine lv_bipush (v := Int32.ofInt (-4 : Int)) hx hb dX12_read_65 (by decide) ?_
              have hr33 := ck_c hf
              replace hf := ck_r hf
              have hq := jn_i hf
              clear hf
              obtain ⟨J36, eJ36, hf⟩ := hq
              have hJ36 : ∀ (z35 : Int) (ls : Array Slot) (H : Heap) (locs : List Loc), lv_has ls 10 [(7, .int (Int32.ofInt z23)), (6, .int (Int32.ofInt z24)), (0, .ref a_p0), (1, .int (Int32.ofInt x1)), (2, .int (Int32.ofInt x2)), (3, .int (Int32.ofInt x3)), (4, .int (Int32.ofInt x4))] → va_P D vwCl [(a_p0, .inr (12, [.ref a_p0_st, .ref a_p0_isKept, .int (Int32.ofInt i_p0_seats), .int (Int32.ofInt i_p0_stirs), .ref a_p0_brings, .ref a_p0_need, .ref a_p0_draft, .int (Int32.ofInt i_p0_dSeats), .int (Int32.ofInt i_p0_dStirs), .ref a_p0_dStir, .ref a_p0_dNeed, .int (Int32.ofInt i_p0_told), .int (Int32.ofInt i_p0_highest), .ref a_p0_tape, .int (Int32.ofInt i_p0_taped), .int (Int32.ofInt i_p0_pos), .int (Int32.ofInt i_p0_from), .int (Int32.ofInt i_p0_sort), .int (Int32.ofInt i_p0_value), .int (Int32.ofInt i_p0_fault), .int (Int32.ofInt i_p0_wrongAt), .ref a_p0_places, .ref a_p0_stirred, .ref a_p0_ways, .ref a_p0_waysThen, .ref a_p0_stays, .ref a_p0_fewest, .ref a_p0_bowls, .ref a_p0_has, .ref a_p0_goesOn, .ref a_p0_isThere, .ref a_p0_isThereThen, .ref a_p0_bestRow, .ref a_p0_lanes, .ref a_p0_sizes, .ref a_p0_cells, .int (Int32.ofInt i_p0_torn)])), (a_p0_st, .inl (G 1, 152, .inl (zA w26))), (a_p0_brings, .inl (G 1, 35, .inl (zA v_p0_brings))), (a_p0_places, .inl (G 1, 7, .inl (zA w27))), (a_p0_stirred, .inl (G 1, 7, .inl (zA w28))), (a_p0_lanes, .inl (G 1, 4, .inl (zA v_p0_lanes))), (a_p0_sizes, .inl (G 1, 4, .inl (zA v_p0_sizes))), (a_p0_cells, .inl (G 1, 160, .inl (zA v_p0_cells)))] H → va_D A [(a_p0, .inr (12, [.ref a_p0_st, .ref a_p0_isKept, .int (Int32.ofInt i_p0_seats), .int (Int32.ofInt i_p0_stirs), .ref a_p0_brings, .ref a_p0_need, .ref a_p0_draft, .int (Int32.ofInt i_p0_dSeats), .int (Int32.ofInt i_p0_dStirs), .ref a_p0_dStir, .ref a_p0_dNeed, .int (Int32.ofInt i_p0_told), .int (Int32.ofInt i_p0_highest), .ref a_p0_tape, .int (Int32.ofInt i_p0_taped), .int (Int32.ofInt i_p0_pos), .int (Int32.ofInt i_p0_from), .int (Int32.ofInt i_p0_sort), .int (Int32.ofInt i_p0_value), .int (Int32.ofInt i_p0_fault), .int (Int32.ofInt i_p0_wrongAt), .ref a_p0_places, .ref a_p0_stirred, .ref a_p0_ways, .ref a_p0_waysThen, .ref a_p0_stays, .ref a_p0_fewest, .ref a_p0_bowls, .ref a_p0_has, .ref a_p0_goesOn, .ref a_p0_isThere, .ref a_p0_isThereThen, .ref a_p0_bestRow, .ref a_p0_lanes, .ref a_p0_sizes, .ref a_p0_cells, .int (Int32.ofInt i_p0_torn)])), (a_p0_st, .inl (G 1, 152, .inl (zA w26))), (a_p0_brings, .inl (G 1, 35, .inl (zA v_p0_brings))), (a_p0_places, .inl (G 1, 7, .inl (zA w27))), (a_p0_stirred, .inl (G 1, 7, .inl (zA w28))), (a_p0_lanes, .inl (G 1, 4, .inl (zA v_p0_lanes))), (a_p0_sizes, .inl (G 1, 4, .inl (zA v_p0_sizes))), (a_p0_cells, .inl (G 1, 160, .inl (zA v_p0_cells)))] → va_S A s.heap H locs → J36 z35 = some (r, o_i_p0_torn, o_v_p0_st, o_v_p0_places, o_v_p0_stirred) → W p l e rm_X12_read s m ([.ref a_p0, .int (Int32.ofInt x1), .int (Int32.ofInt x2), .int (Int32.ofInt x3), .int (Int32.ofInt x4)] : List Value).toArray below meth c H locs 0 0 Q (F0 m 113 ls [.int (Int32.ofInt z35)]) := by
                clear hf hl hP hD hS
                intro z35 ls H locs hl hP hD hS hf
                replace hf := jn1_s eJ36 hf
                refine z_topi (fun z37 ez => ?_)
                replace hf := bnd_s hf ez
                clear ez
                refine lv_istore (lv' := [(5, .int (Int32.ofInt z37)), (7, .int (Int32.ofInt z23)), (6, .int (Int32.ofInt z24)), (0, .ref a_p0), (1, .int (Int32.ofInt x1)), (2, .int (Int32.ofInt x2)), (3, .int (Int32.ofInt x3)), (4, .int (Int32.ofInt x4))]) hx hb dX12_read_113 hl (by decide) rfl (fun ls hl => ?_)
                refine lv_iload hx hb dX12_read_115 (lv_at hl 0 rfl) ?_
                have hr37 := ck_c hf
                replace hf := ck_r hf
                refine lv_if_ne (tgt := 157) hx hb dX12_read_117 (by decide) (fun cc => ?_) (fun cc => ?_)
                ·
                  replace hf := ite_f (fun h9 => cc ((z_eq0 hr37).mpr h9)) hf
                  clear cc
                  obtain ⟨z39, ez⟩ : ∃ y : Int, y = (z23 + (1 : Int)) := ⟨_, rfl⟩
                  replace hf := bnd_s hf ez
                  refine lv_iinc (v := Int32.ofInt z39) (lv' := [(7, .int (Int32.ofInt z39)), (5, .int (Int32.ofInt z37)), (6, .int (Int32.ofInt z24)), (0, .ref a_p0), (1, .int (Int32.ofInt x1)), (2, .int (Int32.ofInt x2)), (3, .int (Int32.ofInt x3)), (4, .int (Int32.ofInt x4))]) hx hb dX12_read_157 hl (k := 1) rfl (by rw [ez]; exact (Int32.ofInt_add _ _).symm) (by decide) rfl (fun ls hl => ?_)
                  clear ez
                  refine lv_goto (tgt := 39) hx hb dX12_read_160 (by decide) ?_
                  exact ih39 _ _ _ _ _ _ _ _ _ (lv_sub hl [0, 2, 1, 3, 4, 5, 6, 7] rfl) hP hD hS hf
                ·
                  replace hf := ite_t ((z_eq0 hr37).mp cc) hf
                  clear cc
                  refine lv_aload_n hx hb dX12_read_120 rfl (lv_at hl 3 rfl) ?_
                  refine lv_aload_n hx hb dX12_read_121 rfl (lv_at hl 3 rfl) ?_
                  refine va_get (D := D) (ci := 12) (v := .ref a_p0_cells) (C := RX12) (T := TX12) (N := 37) hx hb hts inX12_read_X12 hown hK hP 0 rfl rfl 35 (by decide) (hts _ mwX12_read_4) (fun _ h9 => h9) rfl dX12_read_122 ?_
                  refine lv_bipush (v := Int32.ofInt (40 : Int)) hx hb dX12_read_125 (by decide) ?_
                  refine lv_iload_n hx hb dX12_read_127 rfl (lv_at hl 4 rfl) ?_
                  refine lv_imul hx hb dX12_read_128 (z_ci (Int32.ofInt_mul (40 : Int) x1) ?_)
                  refine lv_iload_n hx hb dX12_read_129 rfl (lv_at hl 6 rfl) ?_
                  refine lv_iadd hx hb dX12_read_130 (z_ci (Int32.ofInt_add ((40 : Int) * x1) x3) ?_)
                  refine lv_iload hx hb dX12_read_131 (lv_at hl 1 rfl) ?_
                  refine lv_iadd hx hb dX12_read_133 (z_ci (Int32.ofInt_add (((40 : Int) * x1) + x3) z23) ?_)
                  have hc := ck_c hf
                  replace hf := ck_r hf
                  refine va_iald hx hb hK hP 7 1 rfl rfl (z_ix_in hc) dX12_read_134 (z_ci (z_ald v_p0_cells hc) ?_)
                  clear hc
                  have hq := bd4_s hf
                  clear hf
                  obtain ⟨z40, w41, w42, w43, hcall, hf⟩ := hq
                  refine gsI (ws' := [(a_p0, .inr (12, [.ref a_p0_st, .ref a_p0_isKept, .int (Int32.ofInt i_p0_seats), .int (Int32.ofInt i_p0_stirs), .ref a_p0_brings, .ref a_p0_need, .ref a_p0_draft, .int (Int32.ofInt i_p0_dSeats), .int (Int32.ofInt i_p0_dStirs), .ref a_p0_dStir, .ref a_p0_dNeed, .int (Int32.ofInt i_p0_told), .int (Int32.ofInt i_p0_highest), .ref a_p0_tape, .int (Int32.ofInt i_p0_taped), .int (Int32.ofInt i_p0_pos), .int (Int32.ofInt i_p0_from), .int (Int32.ofInt i_p0_sort), .int (Int32.ofInt i_p0_value), .int (Int32.ofInt i_p0_fault), .int (Int32.ofInt i_p0_wrongAt), .ref a_p0_places, .ref a_p0_stirred, .ref a_p0_ways, .ref a_p0_waysThen, .ref a_p0_stays, .ref a_p0_fewest, .ref a_p0_bowls, .ref a_p0_has, .ref a_p0_goesOn, .ref a_p0_isThere, .ref a_p0_isThereThen, .ref a_p0_bestRow, .ref a_p0_lanes, .ref a_p0_sizes, .ref a_p0_cells, .int (Int32.ofInt i_p0_torn)])), (a_p0_st, .inl (G 1, 152, .inl (zA w41))), (a_p0_brings, .inl (G 1, 35, .inl (zA v_p0_brings))), (a_p0_places, .inl (G 1, 7, .inl (zA w42))), (a_p0_stirred, .inl (G 1, 7, .inl (zA w43))), (a_p0_lanes, .inl (G 1, 4, .inl (zA v_p0_lanes))), (a_p0_sizes, .inl (G 1, 4, .inl (zA v_p0_sizes))), (a_p0_cells, .inl (G 1, 160, .inl (zA v_p0_cells)))]) (va_runV (As := [.int (Int32.ofInt (v_p0_cells ((((40 : Int) * x1) + x3) + z23)))]) (rest := []) ⟨hx, hb, hml, hown, hts⟩ (c_X12_day (l := l) (D := D) (G := G) (sz := H.size) (a_p0 := a_p0) (a_p0_st := a_p0_st) (a_p0_isKept := a_p0_isKept) (a_p0_brings := a_p0_brings) (a_p0_need := a_p0_need) (a_p0_draft := a_p0_draft) (a_p0_dStir := a_p0_dStir) (a_p0_dNeed := a_p0_dNeed) (a_p0_tape := a_p0_tape) (a_p0_places := a_p0_places) (a_p0_stirred := a_p0_stirred) (a_p0_ways := a_p0_ways) (a_p0_waysThen := a_p0_waysThen) (a_p0_stays := a_p0_stays) (a_p0_fewest := a_p0_fewest) (a_p0_bowls := a_p0_bowls) (a_p0_has := a_p0_has) (a_p0_goesOn := a_p0_goesOn) (a_p0_isThere := a_p0_isThere) (a_p0_isThereThen := a_p0_isThereThen) (a_p0_bestRow := a_p0_bestRow) (a_p0_lanes := a_p0_lanes) (a_p0_sizes := a_p0_sizes) (a_p0_cells := a_p0_cells) (i_p0_seats := i_p0_seats) (i_p0_stirs := i_p0_stirs) (i_p0_dSeats := i_p0_dSeats) (i_p0_dStirs := i_p0_dStirs) (i_p0_told := i_p0_told) (i_p0_highest := i_p0_highest) (i_p0_taped := i_p0_taped) (i_p0_pos := i_p0_pos) (i_p0_from := i_p0_from) (i_p0_sort := i_p0_sort) (i_p0_value := i_p0_value) (i_p0_fault := i_p0_fault) (i_p0_wrongAt := i_p0_wrongAt) (i_p0_torn := i_p0_torn) (v_p0_st := w26) (v_p0_brings := v_p0_brings) (v_p0_places := w27) (v_p0_stirred := w28) (x1 := (v_p0_cells ((((40 : Int) * x1) + x3) + z23))) (r := z40) (o_v_p0_st := w41) (o_v_p0_places := w42) (o_v_p0_stirred := w43) (hf := hcall)) (cwV 1 hts gX12_read_X12_day rfl rfl rfl hdV_yX12_day_RX12 ⟨Nat.le_of_ble_eq_true rfl, Nat.le_of_ble_eq_true rfl⟩) (preG_V (ci := 12) (q := (RX12, TX12, 37)) (hP.sub [0, 1, 2, 3, 4] rfl) (hD.sub [0, 1, 2, 3, 4] rfl rfl) hK rfl rfl) rfl rfl hl.1 rfl (lv_room (Nat.le_of_ble_eq_true rfl)) dX12_read_135 ⟨Nat.le_of_ble_eq_true rfl, Nat.le_of_ble_eq_true rfl⟩) hP hD hS hA [0, 1, 2, 3, 4] rfl rfl rfl (fun H locs hP hD hS => ?_)
                  clear hcall
                  have hr43 := ck_c hf
                  replace hf := ck_r hf
                  refine lv_if_ge (tgt := 154) hx hb dX12_read_138 (by decide) (fun cc => ?_) (fun cc => ?_)
                  ·
                    replace hf := ite_t ((z_0le hr43).mp cc) hf
                    clear cc
                    obtain ⟨z45, ez⟩ : ∃ y : Int, y = (z24 + (1 : Int)) := ⟨_, rfl⟩
                    replace hf := bnd_s hf ez
                    refine lv_iinc (v := Int32.ofInt z45) (lv' := [(6, .int (Int32.ofInt z45)), (5, .int (Int32.ofInt z37)), (7, .int (Int32.ofInt z23)), (0, .ref a_p0), (1, .int (Int32.ofInt x1)), (2, .int (Int32.ofInt x2)), (3, .int (Int32.ofInt x3)), (4, .int (Int32.ofInt x4))]) hx hb dX12_read_154 hl (k := 2) rfl (by rw [ez]; exact (Int32.ofInt_add _ _).symm) (by decide) rfl (fun ls hl => ?_)
                    clear ez
                    obtain ⟨z46, ez⟩ : ∃ y : Int, y = (z23 + (1 : Int)) := ⟨_, rfl⟩
                    replace hf := bnd_s hf ez
                    refine lv_iinc (v := Int32.ofInt z46) (lv' := [(7, .int (Int32.ofInt z46)), (6, .int (Int32.ofInt z45)), (5, .int (Int32.ofInt z37)), (0, .ref a_p0), (1, .int (Int32.ofInt x1)), (2, .int (Int32.ofInt x2)), (3, .int (Int32.ofInt x3)), (4, .int (Int32.ofInt x4))]) hx hb dX12_read_157 hl (k := 2) rfl (by rw [ez]; exact (Int32.ofInt_add _ _).symm) (by decide) rfl (fun ls hl => ?_)
                    clear ez
                    refine lv_goto (tgt := 39) hx hb dX12_read_160 (by decide) ?_
                    exact ih39 _ _ _ _ _ _ _ _ _ (lv_sub hl [0, 1, 2, 3, 4, 5, 6, 7] rfl) hP hD hS hf
                  ·
                    replace hf := ite_f (fun h9 => cc ((z_0le hr43).mpr h9)) hf
                    clear cc
                    exact hJ21 _ _ _ _ _ _ _ (lv_sub hl [1, 3] rfl) hP hD hS hf
              refine lv_icmp_ne (tgt := 74) hx hb dX12_read_67 (by decide) (fun cc => ?_) (fun cc => ?_)
              ·
                replace hf := ite_f (fun h9 => cc ((z_eq hr33 (by decide)).mpr h9)) hf
                clear cc
                refine lv_aload_n hx hb dX12_read_74 rfl (lv_at hl 4 rfl) ?_
                refine va_get (D := D) (ci := 12) (v := .ref a_p0_lanes) (C := RX12) (T := TX12) (N := 37) hx hb hts inX12_read_X12 hown hK hP 0 rfl rfl 33 (by decide) (hts _ mwX12_read_3) (fun _ h9 => h9) rfl dX12_read_75 ?_
                refine lv_iload_n hx hb dX12_read_78 rfl (lv_at hl 5 rfl) ?_
                have hc := ck_c hf
                replace hf := ck_r hf
                refine va_iald hx hb hK hP 5 1 rfl rfl (z_ix_in hc) dX12_read_79 (z_ci (z_ald v_p0_lanes hc) ?_)
                clear hc
                refine lv_iload_n hx hb dX12_read_80 rfl (lv_at hl 6 rfl) ?_
                have hr46 := ck_c hf
                replace hf := ck_r hf
                refine lv_icmp_eq (tgt := 88) hx hb dX12_read_81 (by decide) (fun cc => ?_) (fun cc => ?_)
                ·
                  replace hf := ite_t ((z_eq hr33 hr46).mp cc) hf
                  clear cc
                  refine lv_lload hx hb dX12_read_88 (lv_at hl 0 rfl) ?_
                  refine lv_lconst (v := Int64.ofInt (0 : Int)) hx hb dX12_read_90 (by decide) ?_
                  have hr47 := ck_c hf
                  replace hf := ck_r hf
                  refine W.lcmp hx hb dX12_read_91 (z_ci (z_cmp_e hr47 (by decide)) ?_)
                  have hr48 := ck_c hf
                  replace hf := ck_r hf
                  refine lv_if_lt (tgt := 108) hx hb dX12_read_92 (by decide) (fun cc => ?_) (fun cc => ?_)
                  ·
                    replace hf := ite_t ((z_lt0 hr48).mp cc) hf
                    clear cc
                    refine lv_iconst (v := Int32.ofInt (2 : Int)) hx hb dX12_read_108 (by decide) ?_
                    refine lv_goto (tgt := 113) hx hb dX12_read_109 (by decide) ?_
                    exact hJ36 _ _ _ _ (lv_sub hl [1, 2, 4, 5, 6, 7, 8] rfl) hP hD hS hf
                  ·
                    replace hf := ite_f (fun h9 => cc ((z_lt0 hr48).mpr h9)) hf
                    clear cc
                    refine lv_lload hx hb dX12_read_95 (lv_at hl 0 rfl) ?_
                    refine lv_aload_n hx hb dX12_read_97 rfl (lv_at hl 4 rfl) ?_
                    refine va_get (D := D) (ci := 12) (v := .ref a_p0_sizes) (C := RX12) (T := TX12) (N := 37) hx hb hts inX12_read_X12 hown hK hP 0 rfl rfl 34 (by decide) (hts _ mwX12_read_6) (fun _ h9 => h9) rfl dX12_read_98 ?_
                    refine lv_iload_n hx hb dX12_read_101 rfl (lv_at hl 5 rfl) ?_
                    have hc := ck_c hf
                    replace hf := ck_r hf
                    refine va_iald hx hb hK hP 6 1 rfl rfl (z_ix_in hc) dX12_read_102 (z_ci (z_ald v_p0_sizes hc) ?_)
                    clear hc
                    have hr49 := ck_c hf
                    replace hf := ck_r hf
                    refine lv_i2l (v := Int64.ofInt (v_p0_sizes x1)) hx hb dX12_read_103 (z_i2l hr49) ?_
                    have hr50 := ck_c hf
                    replace hf := ck_r hf
                    refine W.lcmp hx hb dX12_read_104 (z_ci (z_cmp_e hr47 hr50) ?_)
                    have hr51 := ck_c hf
                    replace hf := ck_r hf
                    refine lv_if_lt (tgt := 112) hx hb dX12_read_105 (by decide) (fun cc => ?_) (fun cc => ?_)
                    ·
                      replace hf := ite_t ((z_lt0 hr51).mp cc) hf
                      clear cc
                      refine lv_iconst (v := Int32.ofInt (0 : Int)) hx hb dX12_read_112 (by decide) ?_
                      exact hJ36 _ _ _ _ (lv_sub hl [1, 2, 4, 5, 6, 7, 8] rfl) hP hD hS hf
                    ·
                      replace hf := ite_f (fun h9 => cc ((z_lt0 hr51).mpr h9)) hf
                      clear cc
                      refine lv_iconst (v := Int32.ofInt (2 : Int)) hx hb dX12_read_108 (by decide) ?_
                      refine lv_goto (tgt := 113) hx hb dX12_read_109 (by decide) ?_
                      exact hJ36 _ _ _ _ (lv_sub hl [1, 2, 4, 5, 6, 7, 8] rfl) hP hD hS hf
                ·
                  replace hf := ite_f (fun h9 => cc ((z_eq hr33 hr46).mpr h9)) hf
                  clear cc
                  refine lv_iconst (v := Int32.ofInt (3 : Int)) hx hb dX12_read_84 (by decide) ?_
                  refine lv_goto (tgt := 113) hx hb dX12_read_85 (by decide) ?_
                  exact hJ36 _ _ _ _ (lv_sub hl [1, 2, 4, 5, 6, 7, 8] rfl) hP hD hS hf
              ·
                replace hf := ite_t ((z_eq hr33 (by decide)).mp cc) hf
                clear cc
                refine lv_iconst (v := Int32.ofInt (1 : Int)) hx hb dX12_read_70 (by decide) ?_
                refine lv_goto (tgt := 113) hx hb dX12_read_71 (by decide) ?_
                exact hJ36 _ _ _ _ (lv_sub hl [1, 2, 4, 5, 6, 7, 8] rfl) hP hD hS hf
      exact hB29 _ _ _ _ _ _ _ _ _ _ (lv_sub hl [0, 1, 2, 3, 4, 5, 6, 7] rfl) hP hD hS hf
    ·
      replace hf := ite_t ((z_eq0 hr4).mp cc) hf
      clear cc
      refine lv_iconst (v := Int32.ofInt (-1 : Int)) hx hb dX12_read_21 (by decide) ?_
      obtain ⟨rfl, rfl, rfl, rfl, rfl⟩ := ou5 hf
      rw [hQ]
      exact W.iret hx hb hr (fun t ht hW => ⟨⟨_, (), rfl, rfl, by rw [ht]; exact hP, va_K.moved hW.alike hK, hD⟩, hS.F ht⟩) hS.2.2 dX12_read_22

noncomputable def f_X12_torn (i_p0_torn : Int) : Option (Int) := (some i_p0_torn)
abbrev rm_X12_torn : Room := { frames := 0, cells := 0, slots := 0, locals := 0 }
theorem inX12_torn_X12 : ∀ w ∈ wsX120, w ∈ wsX12_torn := by first | exact fun w h => List.mem_cons_of_mem _ (List.mem_append_right _ h) | decide +kernel
theorem mwX12_torn_1 : Cond.fieldLink RX12 319 "LadleKingsModel" "torn" "I" ∈ wsX12_torn := by first | exact List.mem_of_getElem? (i := 1) rfl | decide +kernel
set_option maxHeartbeats 8000000 in
set_option maxRecDepth 100000 in
theorem c_X12_torn (l : Launch) (D : va_G) (G : Nat → ClassId) (sz : Nat) (a_p0 : Nat) (a_p0_st : Nat) (a_p0_isKept : Nat) (a_p0_brings : Nat) (a_p0_need : Nat) (a_p0_draft : Nat) (a_p0_dStir : Nat) (a_p0_dNeed : Nat) (a_p0_tape : Nat) (a_p0_places : Nat) (a_p0_stirred : Nat) (a_p0_ways : Nat) (a_p0_waysThen : Nat) (a_p0_stays : Nat) (a_p0_fewest : Nat) (a_p0_bowls : Nat) (a_p0_has : Nat) (a_p0_goesOn : Nat) (a_p0_isThere : Nat) (a_p0_isThereThen : Nat) (a_p0_bestRow : Nat) (a_p0_lanes : Nat) (a_p0_sizes : Nat) (a_p0_cells : Nat) (i_p0_seats : Int) (i_p0_stirs : Int) (i_p0_dSeats : Int) (i_p0_dStirs : Int) (i_p0_told : Int) (i_p0_highest : Int) (i_p0_taped : Int) (i_p0_pos : Int) (i_p0_from : Int) (i_p0_sort : Int) (i_p0_value : Int) (i_p0_fault : Int) (i_p0_wrongAt : Int) (i_p0_torn : Int) (r : Int) (hf : f_X12_torn i_p0_torn = some r) : Met l yX12_torn wsX12_torn rm_X12_torn (pcG D G [.ref a_p0] sz [(a_p0, .inr (12, [.ref a_p0_st, .ref a_p0_isKept, .int (Int32.ofInt i_p0_seats), .int (Int32.ofInt i_p0_stirs), .ref a_p0_brings, .ref a_p0_need, .ref a_p0_draft, .int (Int32.ofInt i_p0_dSeats), .int (Int32.ofInt i_p0_dStirs), .ref a_p0_dStir, .ref a_p0_dNeed, .int (Int32.ofInt i_p0_told), .int (Int32.ofInt i_p0_highest), .ref a_p0_tape, .int (Int32.ofInt i_p0_taped), .int (Int32.ofInt i_p0_pos), .int (Int32.ofInt i_p0_from), .int (Int32.ofInt i_p0_sort), .int (Int32.ofInt i_p0_value), .int (Int32.ofInt i_p0_fault), .int (Int32.ofInt i_p0_wrongAt), .ref a_p0_places, .ref a_p0_stirred, .ref a_p0_ways, .ref a_p0_waysThen, .ref a_p0_stays, .ref a_p0_fewest, .ref a_p0_bowls, .ref a_p0_has, .ref a_p0_goesOn, .ref a_p0_isThere, .ref a_p0_isThereThen, .ref a_p0_bestRow, .ref a_p0_lanes, .ref a_p0_sizes, .ref a_p0_cells, .int (Int32.ofInt i_p0_torn)]))]) (qcI D G (Int32.ofInt r) [(a_p0, .inr (12, [.ref a_p0_st, .ref a_p0_isKept, .int (Int32.ofInt i_p0_seats), .int (Int32.ofInt i_p0_stirs), .ref a_p0_brings, .ref a_p0_need, .ref a_p0_draft, .int (Int32.ofInt i_p0_dSeats), .int (Int32.ofInt i_p0_dStirs), .ref a_p0_dStir, .ref a_p0_dNeed, .int (Int32.ofInt i_p0_told), .int (Int32.ofInt i_p0_highest), .ref a_p0_tape, .int (Int32.ofInt i_p0_taped), .int (Int32.ofInt i_p0_pos), .int (Int32.ofInt i_p0_from), .int (Int32.ofInt i_p0_sort), .int (Int32.ofInt i_p0_value), .int (Int32.ofInt i_p0_fault), .int (Int32.ofInt i_p0_wrongAt), .ref a_p0_places, .ref a_p0_stirred, .ref a_p0_ways, .ref a_p0_waysThen, .ref a_p0_stays, .ref a_p0_fewest, .ref a_p0_bowls, .ref a_p0_has, .ref a_p0_goesOn, .ref a_p0_isThere, .ref a_p0_isThereThen, .ref a_p0_bestRow, .ref a_p0_lanes, .ref a_p0_sizes, .ref a_p0_cells, .int (Int32.ofInt i_p0_torn)]))] (va_A [(a_p0, .inr (12, [.ref a_p0_st, .ref a_p0_isKept, .int (Int32.ofInt i_p0_seats), .int (Int32.ofInt i_p0_stirs), .ref a_p0_brings, .ref a_p0_need, .ref a_p0_draft, .int (Int32.ofInt i_p0_dSeats), .int (Int32.ofInt i_p0_dStirs), .ref a_p0_dStir, .ref a_p0_dNeed, .int (Int32.ofInt i_p0_told), .int (Int32.ofInt i_p0_highest), .ref a_p0_tape, .int (Int32.ofInt i_p0_taped), .int (Int32.ofInt i_p0_pos), .int (Int32.ofInt i_p0_from), .int (Int32.ofInt i_p0_sort), .int (Int32.ofInt i_p0_value), .int (Int32.ofInt i_p0_fault), .int (Int32.ofInt i_p0_wrongAt), .ref a_p0_places, .ref a_p0_stirred, .ref a_p0_ways, .ref a_p0_waysThen, .ref a_p0_stays, .ref a_p0_fewest, .ref a_p0_bowls, .ref a_p0_has, .ref a_p0_goesOn, .ref a_p0_isThere, .ref a_p0_isThereThen, .ref a_p0_bestRow, .ref a_p0_lanes, .ref a_p0_sizes, .ref a_p0_cells, .int (Int32.ofInt i_p0_torn)]))] sz)) 0 0 (va_A [(a_p0, .inr (12, [.ref a_p0_st, .ref a_p0_isKept, .int (Int32.ofInt i_p0_seats), .int (Int32.ofInt i_p0_stirs), .ref a_p0_brings, .ref a_p0_need, .ref a_p0_draft, .int (Int32.ofInt i_p0_dSeats), .int (Int32.ofInt i_p0_dStirs), .ref a_p0_dStir, .ref a_p0_dNeed, .int (Int32.ofInt i_p0_told), .int (Int32.ofInt i_p0_highest), .ref a_p0_tape, .int (Int32.ofInt i_p0_taped), .int (Int32.ofInt i_p0_pos), .int (Int32.ofInt i_p0_from), .int (Int32.ofInt i_p0_sort), .int (Int32.ofInt i_p0_value), .int (Int32.ofInt i_p0_fault), .int (Int32.ofInt i_p0_wrongAt), .ref a_p0_places, .ref a_p0_stirred, .ref a_p0_ways, .ref a_p0_waysThen, .ref a_p0_stays, .ref a_p0_fewest, .ref a_p0_bowls, .ref a_p0_has, .ref a_p0_goesOn, .ref a_p0_isThere, .ref a_p0_isThereThen, .ref a_p0_bestRow, .ref a_p0_lanes, .ref a_p0_sizes, .ref a_p0_cells, .int (Int32.ofInt i_p0_torn)]))] sz) := by
  refine Met.ofW (cc := cX12_torn) (maxL := 1) (ret := (some .int)) (by decide) rfl ?_
  intro p e s m args below meth c s₁ B hml hv
  obtain ⟨rfl, hsz, hP, hK, hD0⟩ := hv
  have hx := B.exec
  have hb := B.bytes
  have hr := B.returns
  have hts := atoms_spec (ws := wsX12_torn) B.pre
  have hown : s.vm.findClass RX12 = some m.cls := findClass_of_methodNamed B.named
  have hlocks := B.notSynchronized
  subst hsz
  have hD := hD0.self (sz := s.heap.size)
  generalize hAe : va_A [(a_p0, .inr (12, [.ref a_p0_st, .ref a_p0_isKept, .int (Int32.ofInt i_p0_seats), .int (Int32.ofInt i_p0_stirs), .ref a_p0_brings, .ref a_p0_need, .ref a_p0_draft, .int (Int32.ofInt i_p0_dSeats), .int (Int32.ofInt i_p0_dStirs), .ref a_p0_dStir, .ref a_p0_dNeed, .int (Int32.ofInt i_p0_told), .int (Int32.ofInt i_p0_highest), .ref a_p0_tape, .int (Int32.ofInt i_p0_taped), .int (Int32.ofInt i_p0_pos), .int (Int32.ofInt i_p0_from), .int (Int32.ofInt i_p0_sort), .int (Int32.ofInt i_p0_value), .int (Int32.ofInt i_p0_fault), .int (Int32.ofInt i_p0_wrongAt), .ref a_p0_places, .ref a_p0_stirred, .ref a_p0_ways, .ref a_p0_waysThen, .ref a_p0_stays, .ref a_p0_fewest, .ref a_p0_bowls, .ref a_p0_has, .ref a_p0_goesOn, .ref a_p0_isThere, .ref a_p0_isThereThen, .ref a_p0_bestRow, .ref a_p0_lanes, .ref a_p0_sizes, .ref a_p0_cells, .int (Int32.ofInt i_p0_torn)]))] s.heap.size = A at hD ⊢
  have hA : ∀ q : Nat, s.heap.size ≤ q → A q := fun q h => by rw [← hAe]; exact Or.inr h
  clear hAe hD0
  have hS : va_S A s.heap s.heap [] := va_S.rf
  have hl := lv_entry ([.ref a_p0]) (n := 1) (Nat.le_of_ble_eq_true rfl)
  rw [lg_entry_eq]
  generalize (lg_sl ([.ref a_p0]) ++ List.replicate (1 - (lg_sl ([.ref a_p0])).length) Slot.unset).toArray = ls at hl ⊢
  have hl : lv_has ls 1 [(0, .ref a_p0)] := hl
  refine W_nameQ (fun Q hQ => ?_)
  obtain ⟨H, hH⟩ : ∃ H, H = s.heap := ⟨_, rfl⟩
  replace hS : va_S A s.heap H [] := by rw [hH]; exact hS
  replace hP : va_P D vwCl [(a_p0, .inr (12, [.ref a_p0_st, .ref a_p0_isKept, .int (Int32.ofInt i_p0_seats), .int (Int32.ofInt i_p0_stirs), .ref a_p0_brings, .ref a_p0_need, .ref a_p0_draft, .int (Int32.ofInt i_p0_dSeats), .int (Int32.ofInt i_p0_dStirs), .ref a_p0_dStir, .ref a_p0_dNeed, .int (Int32.ofInt i_p0_told), .int (Int32.ofInt i_p0_highest), .ref a_p0_tape, .int (Int32.ofInt i_p0_taped), .int (Int32.ofInt i_p0_pos), .int (Int32.ofInt i_p0_from), .int (Int32.ofInt i_p0_sort), .int (Int32.ofInt i_p0_value), .int (Int32.ofInt i_p0_fault), .int (Int32.ofInt i_p0_wrongAt), .ref a_p0_places, .ref a_p0_stirred, .ref a_p0_ways, .ref a_p0_waysThen, .ref a_p0_stays, .ref a_p0_fewest, .ref a_p0_bowls, .ref a_p0_has, .ref a_p0_goesOn, .ref a_p0_isThere, .ref a_p0_isThereThen, .ref a_p0_bestRow, .ref a_p0_lanes, .ref a_p0_sizes, .ref a_p0_cells, .int (Int32.ofInt i_p0_torn)]))] H := by rw [hH]; exact hP
  rw [← hH]
  clear hH
  unfold f_X12_torn at hf
  refine lv_aload_n hx hb dX12_torn_0 rfl (lv_at hl 0 rfl) ?_
  refine va_get (D := D) (ci := 12) (v := .int (Int32.ofInt i_p0_torn)) (C := RX12) (T := TX12) (N := 37) hx hb hts inX12_torn_X12 hown hK hP 0 rfl rfl 36 (by decide) (hts _ mwX12_torn_1) (fun _ h9 => h9) rfl dX12_torn_1 ?_
  obtain rfl := ou1 hf
  rw [hQ]
  exact W.iret hx hb hr (fun t ht hW => ⟨⟨_, (), rfl, rfl, by rw [ht]; exact hP, va_K.moved hW.alike hK, hD⟩, hS.F ht⟩) hS.2.2 dX12_torn_4

noncomputable def B_X12_count_4 (i_p0_seats : Int) (J4 : Int → Option (Int)) (v_p0_st : (Int → Int)) (again4 : Int → Int → Option (Int)) (z14 : Int) (z15 : Int) : Option (Int) := (ck (z_r32 z14) (ck (z_r32 i_p0_seats) (if i_p0_seats ≤ z14 then (J4 z15) else (ck (z_ix z14 152) (bnd (z15 + (v_p0_st z14)) (fun (z19 : Int) => (bnd (z14 + (1 : Int)) (fun (z20 : Int) => (again4 z20 z19)))))))))
noncomputable def f_X12_count (i_p0_seats : Int) (i_p0_taped : Int) (v_p0_st : (Int → Int)) (v_p0_isKept : (Int → Int)) (v_p0_lanes : (Int → Int)) (v_p0_sizes : (Int → Int)) (x1 : Int) : Option (Int) := (bnd (0 : Int) (fun (z1 : Int) => (bnd (0 : Int) (fun (z2 : Int) => (jn (fun (z3 : Int) => (ck (z_r32 x1) (if x1 = (0 : Int) then (ck (z_ix (31 : Int) 152) (some (v_p0_st (31 : Int)))) else (if x1 = (1 : Int) then (ck (z_ix (0 : Int) 2) (bd1 (f_X12_flag (v_p0_isKept (0 : Int))) (fun (z8 : Int) => (ck (z_ix (1 : Int) 2) (bd1 (f_X12_flag (v_p0_isKept (1 : Int))) (fun (z9 : Int) => (some (z8 + z9)))))))) else (if x1 = (2 : Int) then (some i_p0_taped) else (if x1 = (3 : Int) then (ck (z_ix (0 : Int) 4) (ck (z_r32 (v_p0_lanes (0 : Int))) (if (v_p0_lanes (0 : Int)) = (-4 : Int) then (some (-4 : Int)) else (ck (z_ix (0 : Int) 4) (some (v_p0_sizes (0 : Int))))))) else (if x1 = (4 : Int) then (some z3) else (some (-1 : Int))))))))) (fun (J4 : Int → Option (Int)) => (lq2 (B_X12_count_4 i_p0_seats J4 v_p0_st) 1000 z2 z1)))))))
abbrev rm_X12_count : Room := { frames := 1, cells := 0, slots := 0, locals := 20 }
theorem inX12_count_X12 : ∀ w ∈ wsX120, w ∈ wsX12_count := by first | exact fun w h => List.mem_cons_of_mem _ (List.mem_append_right _ h) | decide +kernel
theorem mwX12_count_1 : Cond.fieldLink RX12 7 "LadleKingsModel" "st" "[I" ∈ wsX12_count := by first | exact List.mem_of_getElem? (i := 2) rfl | decide +kernel
theorem mwX12_count_2 : Cond.fieldLink RX12 13 "LadleKingsModel" "isKept" "[Z" ∈ wsX12_count := by first | exact List.mem_of_getElem? (i := 3) rfl | decide +kernel
theorem mwX12_count_3 : Cond.fieldLink RX12 110 "LadleKingsModel" "taped" "I" ∈ wsX12_count := by first | exact List.mem_of_getElem? (i := 4) rfl | decide +kernel
theorem mwX12_count_4 : Cond.fieldLink RX12 72 "LadleKingsModel" "lanes" "[I" ∈ wsX12_count := by first | exact List.mem_of_getElem? (i := 5) rfl | decide +kernel
theorem mwX12_count_5 : Cond.fieldLink RX12 75 "LadleKingsModel" "sizes" "[I" ∈ wsX12_count := by first | exact List.mem_of_getElem? (i := 6) rfl | decide +kernel
theorem mwX12_count_6 : Cond.fieldLink RX12 100 "LadleKingsModel" "seats" "I" ∈ wsX12_count := by first | exact List.mem_of_getElem? (i := 1) rfl | decide +kernel
set_option maxHeartbeats 8000000 in
set_option maxRecDepth 100000 in
theorem c_X12_count (l : Launch) (D : va_G) (G : Nat → ClassId) (sz : Nat) (a_p0 : Nat) (a_p0_st : Nat) (a_p0_isKept : Nat) (a_p0_brings : Nat) (a_p0_need : Nat) (a_p0_draft : Nat) (a_p0_dStir : Nat) (a_p0_dNeed : Nat) (a_p0_tape : Nat) (a_p0_places : Nat) (a_p0_stirred : Nat) (a_p0_ways : Nat) (a_p0_waysThen : Nat) (a_p0_stays : Nat) (a_p0_fewest : Nat) (a_p0_bowls : Nat) (a_p0_has : Nat) (a_p0_goesOn : Nat) (a_p0_isThere : Nat) (a_p0_isThereThen : Nat) (a_p0_bestRow : Nat) (a_p0_lanes : Nat) (a_p0_sizes : Nat) (a_p0_cells : Nat) (i_p0_seats : Int) (i_p0_stirs : Int) (i_p0_dSeats : Int) (i_p0_dStirs : Int) (i_p0_told : Int) (i_p0_highest : Int) (i_p0_taped : Int) (i_p0_pos : Int) (i_p0_from : Int) (i_p0_sort : Int) (i_p0_value : Int) (i_p0_fault : Int) (i_p0_wrongAt : Int) (i_p0_torn : Int) (v_p0_st : (Int → Int)) (v_p0_isKept : (Int → Int)) (v_p0_lanes : (Int → Int)) (v_p0_sizes : (Int → Int)) (x1 : Int) (r : Int) (hf : f_X12_count i_p0_seats i_p0_taped v_p0_st v_p0_isKept v_p0_lanes v_p0_sizes x1 = some r) : Met l yX12_count wsX12_count rm_X12_count (pcG D G [.ref a_p0, .int (Int32.ofInt x1)] sz [(a_p0, .inr (12, [.ref a_p0_st, .ref a_p0_isKept, .int (Int32.ofInt i_p0_seats), .int (Int32.ofInt i_p0_stirs), .ref a_p0_brings, .ref a_p0_need, .ref a_p0_draft, .int (Int32.ofInt i_p0_dSeats), .int (Int32.ofInt i_p0_dStirs), .ref a_p0_dStir, .ref a_p0_dNeed, .int (Int32.ofInt i_p0_told), .int (Int32.ofInt i_p0_highest), .ref a_p0_tape, .int (Int32.ofInt i_p0_taped), .int (Int32.ofInt i_p0_pos), .int (Int32.ofInt i_p0_from), .int (Int32.ofInt i_p0_sort), .int (Int32.ofInt i_p0_value), .int (Int32.ofInt i_p0_fault), .int (Int32.ofInt i_p0_wrongAt), .ref a_p0_places, .ref a_p0_stirred, .ref a_p0_ways, .ref a_p0_waysThen, .ref a_p0_stays, .ref a_p0_fewest, .ref a_p0_bowls, .ref a_p0_has, .ref a_p0_goesOn, .ref a_p0_isThere, .ref a_p0_isThereThen, .ref a_p0_bestRow, .ref a_p0_lanes, .ref a_p0_sizes, .ref a_p0_cells, .int (Int32.ofInt i_p0_torn)])), (a_p0_st, .inl (G 1, 152, .inl (zA v_p0_st))), (a_p0_isKept, .inl (G 3, 2, .inl (zA v_p0_isKept))), (a_p0_lanes, .inl (G 1, 4, .inl (zA v_p0_lanes))), (a_p0_sizes, .inl (G 1, 4, .inl (zA v_p0_sizes)))]) (qcI D G (Int32.ofInt r) [(a_p0, .inr (12, [.ref a_p0_st, .ref a_p0_isKept, .int (Int32.ofInt i_p0_seats), .int (Int32.ofInt i_p0_stirs), .ref a_p0_brings, .ref a_p0_need, .ref a_p0_draft, .int (Int32.ofInt i_p0_dSeats), .int (Int32.ofInt i_p0_dStirs), .ref a_p0_dStir, .ref a_p0_dNeed, .int (Int32.ofInt i_p0_told), .int (Int32.ofInt i_p0_highest), .ref a_p0_tape, .int (Int32.ofInt i_p0_taped), .int (Int32.ofInt i_p0_pos), .int (Int32.ofInt i_p0_from), .int (Int32.ofInt i_p0_sort), .int (Int32.ofInt i_p0_value), .int (Int32.ofInt i_p0_fault), .int (Int32.ofInt i_p0_wrongAt), .ref a_p0_places, .ref a_p0_stirred, .ref a_p0_ways, .ref a_p0_waysThen, .ref a_p0_stays, .ref a_p0_fewest, .ref a_p0_bowls, .ref a_p0_has, .ref a_p0_goesOn, .ref a_p0_isThere, .ref a_p0_isThereThen, .ref a_p0_bestRow, .ref a_p0_lanes, .ref a_p0_sizes, .ref a_p0_cells, .int (Int32.ofInt i_p0_torn)])), (a_p0_st, .inl (G 1, 152, .inl (zA v_p0_st))), (a_p0_isKept, .inl (G 3, 2, .inl (zA v_p0_isKept))), (a_p0_lanes, .inl (G 1, 4, .inl (zA v_p0_lanes))), (a_p0_sizes, .inl (G 1, 4, .inl (zA v_p0_sizes)))] (va_A [(a_p0, .inr (12, [.ref a_p0_st, .ref a_p0_isKept, .int (Int32.ofInt i_p0_seats), .int (Int32.ofInt i_p0_stirs), .ref a_p0_brings, .ref a_p0_need, .ref a_p0_draft, .int (Int32.ofInt i_p0_dSeats), .int (Int32.ofInt i_p0_dStirs), .ref a_p0_dStir, .ref a_p0_dNeed, .int (Int32.ofInt i_p0_told), .int (Int32.ofInt i_p0_highest), .ref a_p0_tape, .int (Int32.ofInt i_p0_taped), .int (Int32.ofInt i_p0_pos), .int (Int32.ofInt i_p0_from), .int (Int32.ofInt i_p0_sort), .int (Int32.ofInt i_p0_value), .int (Int32.ofInt i_p0_fault), .int (Int32.ofInt i_p0_wrongAt), .ref a_p0_places, .ref a_p0_stirred, .ref a_p0_ways, .ref a_p0_waysThen, .ref a_p0_stays, .ref a_p0_fewest, .ref a_p0_bowls, .ref a_p0_has, .ref a_p0_goesOn, .ref a_p0_isThere, .ref a_p0_isThereThen, .ref a_p0_bestRow, .ref a_p0_lanes, .ref a_p0_sizes, .ref a_p0_cells, .int (Int32.ofInt i_p0_torn)])), (a_p0_st, .inl (G 1, 152, .inl (zA v_p0_st))), (a_p0_isKept, .inl (G 3, 2, .inl (zA v_p0_isKept))), (a_p0_lanes, .inl (G 1, 4, .inl (zA v_p0_lanes))), (a_p0_sizes, .inl (G 1, 4, .inl (zA v_p0_sizes)))] sz)) 0 0 (va_A [(a_p0, .inr (12, [.ref a_p0_st, .ref a_p0_isKept, .int (Int32.ofInt i_p0_seats), .int (Int32.ofInt i_p0_stirs), .ref a_p0_brings, .ref a_p0_need, .ref a_p0_draft, .int (Int32.ofInt i_p0_dSeats), .int (Int32.ofInt i_p0_dStirs), .ref a_p0_dStir, .ref a_p0_dNeed, .int (Int32.ofInt i_p0_told), .int (Int32.ofInt i_p0_highest), .ref a_p0_tape, .int (Int32.ofInt i_p0_taped), .int (Int32.ofInt i_p0_pos), .int (Int32.ofInt i_p0_from), .int (Int32.ofInt i_p0_sort), .int (Int32.ofInt i_p0_value), .int (Int32.ofInt i_p0_fault), .int (Int32.ofInt i_p0_wrongAt), .ref a_p0_places, .ref a_p0_stirred, .ref a_p0_ways, .ref a_p0_waysThen, .ref a_p0_stays, .ref a_p0_fewest, .ref a_p0_bowls, .ref a_p0_has, .ref a_p0_goesOn, .ref a_p0_isThere, .ref a_p0_isThereThen, .ref a_p0_bestRow, .ref a_p0_lanes, .ref a_p0_sizes, .ref a_p0_cells, .int (Int32.ofInt i_p0_torn)])), (a_p0_st, .inl (G 1, 152, .inl (zA v_p0_st))), (a_p0_isKept, .inl (G 3, 2, .inl (zA v_p0_isKept))), (a_p0_lanes, .inl (G 1, 4, .inl (zA v_p0_lanes))), (a_p0_sizes, .inl (G 1, 4, .inl (zA v_p0_sizes)))] sz) := by
  refine Met.ofW (cc := cX12_count) (maxL := 4) (ret := (some .int)) (by decide) rfl ?_
  intro p e s m args below meth c s₁ B hml hv
  obtain ⟨rfl, hsz, hP, hK, hD0⟩ := hv
  have hx := B.exec
  have hb := B.bytes
  have hr := B.returns
  have hts := atoms_spec (ws := wsX12_count) B.pre
  have hown : s.vm.findClass RX12 = some m.cls := findClass_of_methodNamed B.named
  have hlocks := B.notSynchronized
  subst hsz
  have hD := hD0.self (sz := s.heap.size)
  generalize hAe : va_A [(a_p0, .inr (12, [.ref a_p0_st, .ref a_p0_isKept, .int (Int32.ofInt i_p0_seats), .int (Int32.ofInt i_p0_stirs), .ref a_p0_brings, .ref a_p0_need, .ref a_p0_draft, .int (Int32.ofInt i_p0_dSeats), .int (Int32.ofInt i_p0_dStirs), .ref a_p0_dStir, .ref a_p0_dNeed, .int (Int32.ofInt i_p0_told), .int (Int32.ofInt i_p0_highest), .ref a_p0_tape, .int (Int32.ofInt i_p0_taped), .int (Int32.ofInt i_p0_pos), .int (Int32.ofInt i_p0_from), .int (Int32.ofInt i_p0_sort), .int (Int32.ofInt i_p0_value), .int (Int32.ofInt i_p0_fault), .int (Int32.ofInt i_p0_wrongAt), .ref a_p0_places, .ref a_p0_stirred, .ref a_p0_ways, .ref a_p0_waysThen, .ref a_p0_stays, .ref a_p0_fewest, .ref a_p0_bowls, .ref a_p0_has, .ref a_p0_goesOn, .ref a_p0_isThere, .ref a_p0_isThereThen, .ref a_p0_bestRow, .ref a_p0_lanes, .ref a_p0_sizes, .ref a_p0_cells, .int (Int32.ofInt i_p0_torn)])), (a_p0_st, .inl (G 1, 152, .inl (zA v_p0_st))), (a_p0_isKept, .inl (G 3, 2, .inl (zA v_p0_isKept))), (a_p0_lanes, .inl (G 1, 4, .inl (zA v_p0_lanes))), (a_p0_sizes, .inl (G 1, 4, .inl (zA v_p0_sizes)))] s.heap.size = A at hD ⊢
  have hA : ∀ q : Nat, s.heap.size ≤ q → A q := fun q h => by rw [← hAe]; exact Or.inr h
  clear hAe hD0
  have hS : va_S A s.heap s.heap [] := va_S.rf
  have hl := lv_entry ([.ref a_p0, .int (Int32.ofInt x1)]) (n := 4) (Nat.le_of_ble_eq_true rfl)
  rw [lg_entry_eq]
  generalize (lg_sl ([.ref a_p0, .int (Int32.ofInt x1)]) ++ List.replicate (4 - (lg_sl ([.ref a_p0, .int (Int32.ofInt x1)])).length) Slot.unset).toArray = ls at hl ⊢
  have hl : lv_has ls 4 [(0, .ref a_p0), (1, .int (Int32.ofInt x1))] := hl
  refine W_nameQ (fun Q hQ => ?_)
  obtain ⟨H, hH⟩ : ∃ H, H = s.heap := ⟨_, rfl⟩
  replace hS : va_S A s.heap H [] := by rw [hH]; exact hS
  replace hP : va_P D vwCl [(a_p0, .inr (12, [.ref a_p0_st, .ref a_p0_isKept, .int (Int32.ofInt i_p0_seats), .int (Int32.ofInt i_p0_stirs), .ref a_p0_brings, .ref a_p0_need, .ref a_p0_draft, .int (Int32.ofInt i_p0_dSeats), .int (Int32.ofInt i_p0_dStirs), .ref a_p0_dStir, .ref a_p0_dNeed, .int (Int32.ofInt i_p0_told), .int (Int32.ofInt i_p0_highest), .ref a_p0_tape, .int (Int32.ofInt i_p0_taped), .int (Int32.ofInt i_p0_pos), .int (Int32.ofInt i_p0_from), .int (Int32.ofInt i_p0_sort), .int (Int32.ofInt i_p0_value), .int (Int32.ofInt i_p0_fault), .int (Int32.ofInt i_p0_wrongAt), .ref a_p0_places, .ref a_p0_stirred, .ref a_p0_ways, .ref a_p0_waysThen, .ref a_p0_stays, .ref a_p0_fewest, .ref a_p0_bowls, .ref a_p0_has, .ref a_p0_goesOn, .ref a_p0_isThere, .ref a_p0_isThereThen, .ref a_p0_bestRow, .ref a_p0_lanes, .ref a_p0_sizes, .ref a_p0_cells, .int (Int32.ofInt i_p0_torn)])), (a_p0_st, .inl (G 1, 152, .inl (zA v_p0_st))), (a_p0_isKept, .inl (G 3, 2, .inl (zA v_p0_isKept))), (a_p0_lanes, .inl (G 1, 4, .inl (zA v_p0_lanes))), (a_p0_sizes, .inl (G 1, 4, .inl (zA v_p0_sizes)))] H := by rw [hH]; exact hP
  rw [← hH]
  clear hH
  unfold f_X12_count at hf
  refine lv_iconst (v := Int32.ofInt (0 : Int)) hx hb dX12_count_0 (by decide) ?_
  refine z_topi (fun z1 ez => ?_)
  replace hf := bnd_s hf ez
  clear ez
  refine lv_istore_n (lv' := [(2, .int (Int32.ofInt z1)), (0, .ref a_p0), (1, .int (Int32.ofInt x1))]) hx hb dX12_count_1 rfl hl (by decide) rfl (fun ls hl => ?_)
  refine lv_iconst (v := Int32.ofInt (0 : Int)) hx hb dX12_count_2 (by decide) ?_
  refine z_topi (fun z2 ez => ?_)
  replace hf := bnd_s hf ez
  clear ez
  refine lv_istore_n (lv' := [(3, .int (Int32.ofInt z2)), (2, .int (Int32.ofInt z1)), (0, .ref a_p0), (1, .int (Int32.ofInt x1))]) hx hb dX12_count_3 rfl hl (by decide) rfl (fun ls hl => ?_)
  have hq := jn_i hf
  clear hf
  obtain ⟨J4, eJ4, hf⟩ := hq
  have hJ4 : ∀ (z3 : Int) (ls : Array Slot) (H : Heap) (locs : List Loc), lv_has ls 4 [(2, .int (Int32.ofInt z3)), (0, .ref a_p0), (1, .int (Int32.ofInt x1))] → va_P D vwCl [(a_p0, .inr (12, [.ref a_p0_st, .ref a_p0_isKept, .int (Int32.ofInt i_p0_seats), .int (Int32.ofInt i_p0_stirs), .ref a_p0_brings, .ref a_p0_need, .ref a_p0_draft, .int (Int32.ofInt i_p0_dSeats), .int (Int32.ofInt i_p0_dStirs), .ref a_p0_dStir, .ref a_p0_dNeed, .int (Int32.ofInt i_p0_told), .int (Int32.ofInt i_p0_highest), .ref a_p0_tape, .int (Int32.ofInt i_p0_taped), .int (Int32.ofInt i_p0_pos), .int (Int32.ofInt i_p0_from), .int (Int32.ofInt i_p0_sort), .int (Int32.ofInt i_p0_value), .int (Int32.ofInt i_p0_fault), .int (Int32.ofInt i_p0_wrongAt), .ref a_p0_places, .ref a_p0_stirred, .ref a_p0_ways, .ref a_p0_waysThen, .ref a_p0_stays, .ref a_p0_fewest, .ref a_p0_bowls, .ref a_p0_has, .ref a_p0_goesOn, .ref a_p0_isThere, .ref a_p0_isThereThen, .ref a_p0_bestRow, .ref a_p0_lanes, .ref a_p0_sizes, .ref a_p0_cells, .int (Int32.ofInt i_p0_torn)])), (a_p0_st, .inl (G 1, 152, .inl (zA v_p0_st))), (a_p0_isKept, .inl (G 3, 2, .inl (zA v_p0_isKept))), (a_p0_lanes, .inl (G 1, 4, .inl (zA v_p0_lanes))), (a_p0_sizes, .inl (G 1, 4, .inl (zA v_p0_sizes)))] H → va_D A [(a_p0, .inr (12, [.ref a_p0_st, .ref a_p0_isKept, .int (Int32.ofInt i_p0_seats), .int (Int32.ofInt i_p0_stirs), .ref a_p0_brings, .ref a_p0_need, .ref a_p0_draft, .int (Int32.ofInt i_p0_dSeats), .int (Int32.ofInt i_p0_dStirs), .ref a_p0_dStir, .ref a_p0_dNeed, .int (Int32.ofInt i_p0_told), .int (Int32.ofInt i_p0_highest), .ref a_p0_tape, .int (Int32.ofInt i_p0_taped), .int (Int32.ofInt i_p0_pos), .int (Int32.ofInt i_p0_from), .int (Int32.ofInt i_p0_sort), .int (Int32.ofInt i_p0_value), .int (Int32.ofInt i_p0_fault), .int (Int32.ofInt i_p0_wrongAt), .ref a_p0_places, .ref a_p0_stirred, .ref a_p0_ways, .ref a_p0_waysThen, .ref a_p0_stays, .ref a_p0_fewest, .ref a_p0_bowls, .ref a_p0_has, .ref a_p0_goesOn, .ref a_p0_isThere, .ref a_p0_isThereThen, .ref a_p0_bestRow, .ref a_p0_lanes, .ref a_p0_sizes, .ref a_p0_cells, .int (Int32.ofInt i_p0_torn)])), (a_p0_st, .inl (G 1, 152, .inl (zA v_p0_st))), (a_p0_isKept, .inl (G 3, 2, .inl (zA v_p0_isKept))), (a_p0_lanes, .inl (G 1, 4, .inl (zA v_p0_lanes))), (a_p0_sizes, .inl (G 1, 4, .inl (zA v_p0_sizes)))] → va_S A s.heap H locs → J4 z3 = some r → W p l e rm_X12_count s m ([.ref a_p0, .int (Int32.ofInt x1)] : List Value).toArray below meth c H locs 0 0 Q (F0 m 27 ls []) := by
    clear hf hl hP hD hS
    intro z3 ls H locs hl hP hD hS hf
    replace hf := jn1_s eJ4 hf
    refine lv_iload_n hx hb dX12_count_27 rfl (lv_at hl 2 rfl) ?_
    have hr4 := ck_c hf
    replace hf := ck_r hf
    rcases Decidable.em (x1 = (0 : Int)) with hk6 | hk6
    ·
      replace hf := ite_t hk6 hf
      refine lv_tableIn (tgt := 64) hx hb dX12_count_28 (by rw [hk6]; decide) (by rw [hk6]; decide) (by rw [hk6]; rfl) (by decide) ?_
      clear hk6
      refine lv_aload_n hx hb dX12_count_64 rfl (lv_at hl 1 rfl) ?_
      refine va_get (D := D) (ci := 12) (v := .ref a_p0_st) (C := RX12) (T := TX12) (N := 37) hx hb hts inX12_count_X12 hown hK hP 0 rfl rfl 0 (by decide) (hts _ mwX12_count_1) (fun _ h9 => h9) rfl dX12_count_65 ?_
      refine lv_bipush (v := Int32.ofInt (31 : Int)) hx hb dX12_count_68 (by decide) ?_
      have hc := ck_c hf
      replace hf := ck_r hf
      refine va_iald hx hb hK hP 1 1 rfl rfl (z_ix_in hc) dX12_count_70 (z_ci (z_ald v_p0_st hc) ?_)
      clear hc
      obtain rfl := ou1 hf
      rw [hQ]
      exact W.iret hx hb hr (fun t ht hW => ⟨⟨_, (), rfl, rfl, by rw [ht]; exact hP, va_K.moved hW.alike hK, hD⟩, hS.F ht⟩) hS.2.2 dX12_count_71
    replace hf := ite_f hk6 hf
    rcases Decidable.em (x1 = (1 : Int)) with hk7 | hk7
    ·
      replace hf := ite_t hk7 hf
      refine lv_tableIn (tgt := 72) hx hb dX12_count_28 (by rw [hk7]; decide) (by rw [hk7]; decide) (by rw [hk7]; rfl) (by decide) ?_
      clear hk7 hk6
      refine lv_aload_n hx hb dX12_count_72 rfl (lv_at hl 1 rfl) ?_
      refine va_get (D := D) (ci := 12) (v := .ref a_p0_isKept) (C := RX12) (T := TX12) (N := 37) hx hb hts inX12_count_X12 hown hK hP 0 rfl rfl 1 (by decide) (hts _ mwX12_count_2) (fun _ h9 => h9) rfl dX12_count_73 ?_
      refine lv_iconst (v := Int32.ofInt (0 : Int)) hx hb dX12_count_76 (by decide) ?_
      have hc := ck_c hf
      replace hf := ck_r hf
      refine va_zald hx hb hK hP 2 3 rfl rfl (z_ix_in hc) dX12_count_77 (z_ci (z_ald v_p0_isKept hc) ?_)
      clear hc
      have hq := bd1_s hf
      clear hf
      obtain ⟨z8, hcall, hf⟩ := hq
      refine gnI (va_runS (As := [.int (Int32.ofInt (v_p0_isKept (0 : Int)))]) (rest := []) ⟨hx, hb, hml, hown, hts⟩ (c_X12_flag (l := l) (D := D) (G := G) (sz := H.size) (x0 := (v_p0_isKept (0 : Int))) (r := z8) (hf := hcall)) (va_cwS 1 hts gX12_count_X12_flag rfl rfl rfl (by decide +kernel) ⟨Nat.le_of_ble_eq_true rfl, Nat.le_of_ble_eq_true rfl⟩) (preG_S (hP.sub [] rfl) (hD.sub [] rfl rfl) hK) rfl rfl hl.1 rfl (lv_room (Nat.le_of_ble_eq_true rfl)) dX12_count_78 ⟨Nat.le_of_ble_eq_true rfl, Nat.le_of_ble_eq_true rfl⟩) hP hD hS hA [] rfl (fun H locs hP hD hS => ?_)
      clear hcall
      refine lv_aload_n hx hb dX12_count_81 rfl (lv_at hl 1 rfl) ?_
      refine va_get (D := D) (ci := 12) (v := .ref a_p0_isKept) (C := RX12) (T := TX12) (N := 37) hx hb hts inX12_count_X12 hown hK hP 0 rfl rfl 1 (by decide) (hts _ mwX12_count_2) (fun _ h9 => h9) rfl dX12_count_82 ?_
      refine lv_iconst (v := Int32.ofInt (1 : Int)) hx hb dX12_count_85 (by decide) ?_
      have hc := ck_c hf
      replace hf := ck_r hf
      refine va_zald hx hb hK hP 2 3 rfl rfl (z_ix_in hc) dX12_count_86 (z_ci (z_ald v_p0_isKept hc) ?_)
      clear hc
      have hq := bd1_s hf
      clear hf
      obtain ⟨z9, hcall, hf⟩ := hq
      refine gnI (va_runS (As := [.int (Int32.ofInt (v_p0_isKept (1 : Int)))]) (rest := [.int (Int32.ofInt z8)]) ⟨hx, hb, hml, hown, hts⟩ (c_X12_flag (l := l) (D := D) (G := G) (sz := H.size) (x0 := (v_p0_isKept (1 : Int))) (r := z9) (hf := hcall)) (va_cwS 1 hts gX12_count_X12_flag rfl rfl rfl (by decide +kernel) ⟨Nat.le_of_ble_eq_true rfl, Nat.le_of_ble_eq_true rfl⟩) (preG_S (hP.sub [] rfl) (hD.sub [] rfl rfl) hK) rfl rfl hl.1 rfl (lv_room (Nat.le_of_ble_eq_true rfl)) dX12_count_87 ⟨Nat.le_of_ble_eq_true rfl, Nat.le_of_ble_eq_true rfl⟩) hP hD hS hA [] rfl (fun H locs hP hD hS => ?_)
      clear hcall
      refine lv_iadd hx hb dX12_count_90 (z_ci (Int32.ofInt_add z8 z9) ?_)
      obtain rfl := ou1 hf
      rw [hQ]
      exact W.iret hx hb hr (fun t ht hW => ⟨⟨_, (), rfl, rfl, by rw [ht]; exact hP, va_K.moved hW.alike hK, hD⟩, hS.F ht⟩) hS.2.2 dX12_count_91
    replace hf := ite_f hk7 hf
    rcases Decidable.em (x1 = (2 : Int)) with hk10 | hk10
    ·
      replace hf := ite_t hk10 hf
      refine lv_tableIn (tgt := 92) hx hb dX12_count_28 (by rw [hk10]; decide) (by rw [hk10]; decide) (by rw [hk10]; rfl) (by decide) ?_
      clear hk10 hk6 hk7
      refine lv_aload_n hx hb dX12_count_92 rfl (lv_at hl 1 rfl) ?_
      refine va_get (D := D) (ci := 12) (v := .int (Int32.ofInt i_p0_taped)) (C := RX12) (T := TX12) (N := 37) hx hb hts inX12_count_X12 hown hK hP 0 rfl rfl 14 (by decide) (hts _ mwX12_count_3) (fun _ h9 => h9) rfl dX12_count_93 ?_
      obtain rfl := ou1 hf
      rw [hQ]
      exact W.iret hx hb hr (fun t ht hW => ⟨⟨_, (), rfl, rfl, by rw [ht]; exact hP, va_K.moved hW.alike hK, hD⟩, hS.F ht⟩) hS.2.2 dX12_count_96
    replace hf := ite_f hk10 hf
    rcases Decidable.em (x1 = (3 : Int)) with hk11 | hk11
    ·
      replace hf := ite_t hk11 hf
      refine lv_tableIn (tgt := 97) hx hb dX12_count_28 (by rw [hk11]; decide) (by rw [hk11]; decide) (by rw [hk11]; rfl) (by decide) ?_
      clear hk11 hk6 hk7 hk10
      refine lv_aload_n hx hb dX12_count_97 rfl (lv_at hl 1 rfl) ?_
      refine va_get (D := D) (ci := 12) (v := .ref a_p0_lanes) (C := RX12) (T := TX12) (N := 37) hx hb hts inX12_count_X12 hown hK hP 0 rfl rfl 33 (by decide) (hts _ mwX12_count_4) (fun _ h9 => h9) rfl dX12_count_98 ?_
      refine lv_iconst (v := Int32.ofInt (0 : Int)) hx hb dX12_count_101 (by decide) ?_
      have hc := ck_c hf
      replace hf := ck_r hf
      refine va_iald hx hb hK hP 3 1 rfl rfl (z_ix_in hc) dX12_count_102 (z_ci (z_ald v_p0_lanes hc) ?_)
      clear hc
      refine lv_bipush (v := Int32.ofInt (-4 : Int)) hx hb dX12_count_103 (by decide) ?_
      have hr11 := ck_c hf
      replace hf := ck_r hf
      refine lv_icmp_ne (tgt := 113) hx hb dX12_count_105 (by decide) (fun cc => ?_) (fun cc => ?_)
      ·
        replace hf := ite_f (fun h9 => cc ((z_eq hr11 (by decide)).mpr h9)) hf
        clear cc
        refine lv_aload_n hx hb dX12_count_113 rfl (lv_at hl 1 rfl) ?_
        refine va_get (D := D) (ci := 12) (v := .ref a_p0_sizes) (C := RX12) (T := TX12) (N := 37) hx hb hts inX12_count_X12 hown hK hP 0 rfl rfl 34 (by decide) (hts _ mwX12_count_5) (fun _ h9 => h9) rfl dX12_count_114 ?_
        refine lv_iconst (v := Int32.ofInt (0 : Int)) hx hb dX12_count_117 (by decide) ?_
        have hc := ck_c hf
        replace hf := ck_r hf
        refine va_iald hx hb hK hP 4 1 rfl rfl (z_ix_in hc) dX12_count_118 (z_ci (z_ald v_p0_sizes hc) ?_)
        clear hc
        obtain rfl := ou1 hf
        rw [hQ]
        exact W.iret hx hb hr (fun t ht hW => ⟨⟨_, (), rfl, rfl, by rw [ht]; exact hP, va_K.moved hW.alike hK, hD⟩, hS.F ht⟩) hS.2.2 dX12_count_119
      ·
        replace hf := ite_t ((z_eq hr11 (by decide)).mp cc) hf
        clear cc
        refine lv_bipush (v := Int32.ofInt (-4 : Int)) hx hb dX12_count_108 (by decide) ?_
        refine lv_goto (tgt := 119) hx hb dX12_count_110 (by decide) ?_
        obtain rfl := ou1 hf
        rw [hQ]
        exact W.iret hx hb hr (fun t ht hW => ⟨⟨_, (), rfl, rfl, by rw [ht]; exact hP, va_K.moved hW.alike hK, hD⟩, hS.F ht⟩) hS.2.2 dX12_count_119
    replace hf := ite_f hk11 hf
    rcases Decidable.em (x1 = (4 : Int)) with hk13 | hk13
    ·
      replace hf := ite_t hk13 hf
      refine lv_tableIn (tgt := 120) hx hb dX12_count_28 (by rw [hk13]; decide) (by rw [hk13]; decide) (by rw [hk13]; rfl) (by decide) ?_
      clear hk13 hk6 hk7 hk10 hk11
      refine lv_iload_n hx hb dX12_count_120 rfl (lv_at hl 0 rfl) ?_
      obtain rfl := ou1 hf
      rw [hQ]
      exact W.iret hx hb hr (fun t ht hW => ⟨⟨_, (), rfl, rfl, by rw [ht]; exact hP, va_K.moved hW.alike hK, hD⟩, hS.F ht⟩) hS.2.2 dX12_count_121
    replace hf := ite_f hk13 hf
    refine lv_tableOut (tgt := 122) hx hb dX12_count_28 (by rw [z_ti hr4]; omega) (by decide) ?_
    clear hk6 hk7 hk10 hk11 hk13
    refine lv_iconst (v := Int32.ofInt (-1 : Int)) hx hb dX12_count_122 (by decide) ?_
    obtain rfl := ou1 hf
    rw [hQ]
    exact W.iret hx hb hr (fun t ht hW => ⟨⟨_, (), rfl, rfl, by rw [ht]; exact hP, va_K.moved hW.alike hK, hD⟩, hS.F ht⟩) hS.2.2 dX12_count_123
  have hq := lq2_i hf
  clear hf
  obtain ⟨B16, eB16, NB16, hf⟩ := hq
  have hB16 : ∀ (n : Nat) (z14 : Int) (z15 : Int) (ls : Array Slot) (H : Heap) (locs : List Loc), lv_has ls 4 [(3, .int (Int32.ofInt z14)), (2, .int (Int32.ofInt z15)), (0, .ref a_p0), (1, .int (Int32.ofInt x1))] → va_P D vwCl [(a_p0, .inr (12, [.ref a_p0_st, .ref a_p0_isKept, .int (Int32.ofInt i_p0_seats), .int (Int32.ofInt i_p0_stirs), .ref a_p0_brings, .ref a_p0_need, .ref a_p0_draft, .int (Int32.ofInt i_p0_dSeats), .int (Int32.ofInt i_p0_dStirs), .ref a_p0_dStir, .ref a_p0_dNeed, .int (Int32.ofInt i_p0_told), .int (Int32.ofInt i_p0_highest), .ref a_p0_tape, .int (Int32.ofInt i_p0_taped), .int (Int32.ofInt i_p0_pos), .int (Int32.ofInt i_p0_from), .int (Int32.ofInt i_p0_sort), .int (Int32.ofInt i_p0_value), .int (Int32.ofInt i_p0_fault), .int (Int32.ofInt i_p0_wrongAt), .ref a_p0_places, .ref a_p0_stirred, .ref a_p0_ways, .ref a_p0_waysThen, .ref a_p0_stays, .ref a_p0_fewest, .ref a_p0_bowls, .ref a_p0_has, .ref a_p0_goesOn, .ref a_p0_isThere, .ref a_p0_isThereThen, .ref a_p0_bestRow, .ref a_p0_lanes, .ref a_p0_sizes, .ref a_p0_cells, .int (Int32.ofInt i_p0_torn)])), (a_p0_st, .inl (G 1, 152, .inl (zA v_p0_st))), (a_p0_isKept, .inl (G 3, 2, .inl (zA v_p0_isKept))), (a_p0_lanes, .inl (G 1, 4, .inl (zA v_p0_lanes))), (a_p0_sizes, .inl (G 1, 4, .inl (zA v_p0_sizes)))] H → va_D A [(a_p0, .inr (12, [.ref a_p0_st, .ref a_p0_isKept, .int (Int32.ofInt i_p0_seats), .int (Int32.ofInt i_p0_stirs), .ref a_p0_brings, .ref a_p0_need, .ref a_p0_draft, .int (Int32.ofInt i_p0_dSeats), .int (Int32.ofInt i_p0_dStirs), .ref a_p0_dStir, .ref a_p0_dNeed, .int (Int32.ofInt i_p0_told), .int (Int32.ofInt i_p0_highest), .ref a_p0_tape, .int (Int32.ofInt i_p0_taped), .int (Int32.ofInt i_p0_pos), .int (Int32.ofInt i_p0_from), .int (Int32.ofInt i_p0_sort), .int (Int32.ofInt i_p0_value), .int (Int32.ofInt i_p0_fault), .int (Int32.ofInt i_p0_wrongAt), .ref a_p0_places, .ref a_p0_stirred, .ref a_p0_ways, .ref a_p0_waysThen, .ref a_p0_stays, .ref a_p0_fewest, .ref a_p0_bowls, .ref a_p0_has, .ref a_p0_goesOn, .ref a_p0_isThere, .ref a_p0_isThereThen, .ref a_p0_bestRow, .ref a_p0_lanes, .ref a_p0_sizes, .ref a_p0_cells, .int (Int32.ofInt i_p0_torn)])), (a_p0_st, .inl (G 1, 152, .inl (zA v_p0_st))), (a_p0_isKept, .inl (G 3, 2, .inl (zA v_p0_isKept))), (a_p0_lanes, .inl (G 1, 4, .inl (zA v_p0_lanes))), (a_p0_sizes, .inl (G 1, 4, .inl (zA v_p0_sizes)))] → va_S A s.heap H locs → lq2 B16 n z14 z15 = some r → W p l e rm_X12_count s m ([.ref a_p0, .int (Int32.ofInt x1)] : List Value).toArray below meth c H locs 0 0 Q (F0 m 4 ls []) := by
    clear hf hl hP hD hS
    intro n
    induction n with
    | zero =>
      intro z14 z15 ls H locs hl hP hD hS hf
      exact (lq2_0 hf).elim
    | succ n ih4 =>
      intro z14 z15 ls H locs hl hP hD hS hf
      replace hf := lq2_s eB16 hf
      unfold B_X12_count_4 at hf
      refine lv_iload_n hx hb dX12_count_4 rfl (lv_at hl 0 rfl) ?_
      refine lv_aload_n hx hb dX12_count_5 rfl (lv_at hl 2 rfl) ?_
      refine va_get (D := D) (ci := 12) (v := .int (Int32.ofInt i_p0_seats)) (C := RX12) (T := TX12) (N := 37) hx hb hts inX12_count_X12 hown hK hP 0 rfl rfl 2 (by decide) (hts _ mwX12_count_6) (fun _ h9 => h9) rfl dX12_count_6 ?_
      have hr16 := ck_c hf
      replace hf := ck_r hf
      have hr17 := ck_c hf
      replace hf := ck_r hf
      refine lv_icmp_ge (tgt := 27) hx hb dX12_count_9 (by decide) (fun cc => ?_) (fun cc => ?_)
      ·
        replace hf := ite_t ((z_le hr17 hr16).mp cc) hf
        clear cc
        exact hJ4 _ _ _ _ (lv_sub hl [1, 2, 3] rfl) hP hD hS hf
      ·
        replace hf := ite_f (fun h9 => cc ((z_le hr17 hr16).mpr h9)) hf
        clear cc
        refine lv_iload_n hx hb dX12_count_12 rfl (lv_at hl 1 rfl) ?_
        refine lv_aload_n hx hb dX12_count_13 rfl (lv_at hl 2 rfl) ?_
        refine va_get (D := D) (ci := 12) (v := .ref a_p0_st) (C := RX12) (T := TX12) (N := 37) hx hb hts inX12_count_X12 hown hK hP 0 rfl rfl 0 (by decide) (hts _ mwX12_count_1) (fun _ h9 => h9) rfl dX12_count_14 ?_
        refine lv_iload_n hx hb dX12_count_17 rfl (lv_at hl 0 rfl) ?_
        have hc := ck_c hf
        replace hf := ck_r hf
        refine va_iald hx hb hK hP 1 1 rfl rfl (z_ix_in hc) dX12_count_18 (z_ci (z_ald v_p0_st hc) ?_)
        clear hc
        refine lv_iadd hx hb dX12_count_19 (z_ci (Int32.ofInt_add z15 (v_p0_st z14)) ?_)
        refine z_topi (fun z19 ez => ?_)
        replace hf := bnd_s hf ez
        clear ez
        refine lv_istore_n (lv' := [(2, .int (Int32.ofInt z19)), (3, .int (Int32.ofInt z14)), (0, .ref a_p0), (1, .int (Int32.ofInt x1))]) hx hb dX12_count_20 rfl hl (by decide) rfl (fun ls hl => ?_)
        obtain ⟨z20, ez⟩ : ∃ y : Int, y = (z14 + (1 : Int)) := ⟨_, rfl⟩
        replace hf := bnd_s hf ez
        refine lv_iinc (v := Int32.ofInt z20) (lv' := [(3, .int (Int32.ofInt z20)), (2, .int (Int32.ofInt z19)), (0, .ref a_p0), (1, .int (Int32.ofInt x1))]) hx hb dX12_count_21 hl (k := 1) rfl (by rw [ez]; exact (Int32.ofInt_add _ _).symm) (by decide) rfl (fun ls hl => ?_)
        clear ez
        refine lv_goto (tgt := 4) hx hb dX12_count_24 (by decide) ?_
        exact ih4 _ _ _ _ _ (lv_sub hl [0, 1, 2, 3] rfl) hP hD hS hf
  exact hB16 _ _ _ _ _ _ (lv_sub hl [0, 1, 2, 3] rfl) hP hD hS hf
