noncomputable def B_X12_common_6 (again6 : Int64 → Int64 → Option (Int64)) (z3 : Int64) (z4 : Int64) : Option (Int64) := (if (lg_cmp z3 (0 : Int64)) = 0 then (some z4) else (ck (nzL z3) (bnd (z4 - z4 / z3 * z3) (fun (z6 : Int64) => (bnd z3 (fun (z7 : Int64) => (bnd z6 (fun (z8 : Int64) => (again6 z8 z7)))))))))
noncomputable def f_X12_common (x0 : Int64) (x2 : Int64) : Option (Int64) := (bnd x0 (fun (z1 : Int64) => (bnd x2 (fun (z2 : Int64) => (lq2 (B_X12_common_6) 1000 z2 z1)))))
abbrev rm_X12_common : Room := { frames := 0, cells := 0, slots := 0, locals := 0 }
set_option maxHeartbeats 8000000 in
set_option maxRecDepth 100000 in
theorem c_X12_common (l : Launch) (D : va_G) (G : Nat → ClassId) (sz : Nat) (x0 : Int64) (x2 : Int64) (r : Int64) (hf : f_X12_common x0 x2 = some r) : Met l yX12_common wsX12_common rm_X12_common (pcG D G [.long x0, .long x2] sz []) (qcL D G r [] (va_A [] sz)) 0 0 (va_A [] sz) := by
  refine Met.ofW (cc := cX12_common) (maxL := 10) (ret := (some .long)) (by decide) rfl ?_
  intro p e s m args below meth c s₁ B hml hv
  obtain ⟨rfl, hsz, hP, hK, hD0⟩ := hv
  have hx := B.exec
  have hb := B.bytes
  have hr := B.returns
  have hts := atoms_spec (ws := wsX12_common) B.pre
  have hown : s.vm.findClass RX12 = some m.cls := findClass_of_methodNamed B.named
  have hlocks := B.notSynchronized
  subst hsz
  have hD := hD0.self (sz := s.heap.size)
  generalize hAe : va_A [] s.heap.size = A at hD ⊢
  have hA : ∀ q : Nat, s.heap.size ≤ q → A q := fun q h => by rw [← hAe]; exact Or.inr h
  clear hAe hD0
  have hS : va_S A s.heap s.heap [] := va_S.rf
  have hl := lv_entry ([.long x0, .long x2]) (n := 10) (Nat.le_of_ble_eq_true rfl)
  rw [lg_entry_eq]
  generalize (lg_sl ([.long x0, .long x2]) ++ List.replicate (10 - (lg_sl ([.long x0, .long x2])).length) Slot.unset).toArray = ls at hl ⊢
  have hl : lv_has ls 10 [(0, .long x0), (2, .long x2)] := hl
  refine W_nameQ (fun Q hQ => ?_)
  obtain ⟨H, hH⟩ : ∃ H, H = s.heap := ⟨_, rfl⟩
  replace hS : va_S A s.heap H [] := by rw [hH]; exact hS
  replace hP : va_P D vwCl [] H := by rw [hH]; exact hP
  rw [← hH]
  clear hH
  unfold f_X12_common at hf
  refine lv_lload_n hx hb dX12_common_0 rfl (lv_at hl 0 rfl) ?_
  refine lv_topl (fun z1 ez => ?_)
  replace hf := bnd_s hf ez
  clear ez
  refine lv_lstore (lv' := [(4, .long z1), (0, .long x0), (2, .long x2)]) hx hb dX12_common_1 hl (by decide) rfl (fun ls hl => ?_)
  refine lv_lload_n hx hb dX12_common_3 rfl (lv_at hl 2 rfl) ?_
  refine lv_topl (fun z2 ez => ?_)
  replace hf := bnd_s hf ez
  clear ez
  refine lv_lstore (lv' := [(6, .long z2), (4, .long z1), (0, .long x0), (2, .long x2)]) hx hb dX12_common_4 hl (by decide) rfl (fun ls hl => ?_)
  have hq := lq2_i hf
  clear hf
  obtain ⟨B5, eB5, NB5, hf⟩ := hq
  have hB5 : ∀ (n : Nat) (z3 : Int64) (z4 : Int64) (ls : Array Slot) (H : Heap) (locs : List Loc), lv_has ls 10 [(6, .long z3), (4, .long z4)] → va_P D vwCl [] H → va_D A [] → va_S A s.heap H locs → lq2 B5 n z3 z4 = some r → W p l e rm_X12_common s m ([.long x0, .long x2] : List Value).toArray below meth c H locs 0 0 Q (F0 m 6 ls []) := by
    clear hf hl hP hD hS
    intro n
    induction n with
    | zero =>
      intro z3 z4 ls H locs hl hP hD hS hf
      exact (lq2_0 hf).elim
    | succ n ih6 =>
      intro z3 z4 ls H locs hl hP hD hS hf
      replace hf := lq2_s eB5 hf
      unfold B_X12_common_6 at hf
      refine lv_lload hx hb dX12_common_6 (lv_at hl 0 rfl) ?_
      refine lv_lconst (v := (0 : Int64)) hx hb dX12_common_8 (by decide) ?_
      refine W.lcmp hx hb dX12_common_9 ?_
      refine lv_if_eq (tgt := 31) hx hb dX12_common_10 (by decide) (fun cc => ?_) (fun cc => ?_)
      ·
        replace hf := ite_t cc hf
        clear cc
        refine lv_lload hx hb dX12_common_31 (lv_at hl 1 rfl) ?_
        obtain rfl := ou1 hf
        rw [hQ]
        exact W.lret hx hb hr (fun t ht hW => ⟨⟨_, (), rfl, rfl, by rw [ht]; exact hP, va_K.moved hW.alike hK, hD⟩, hS.F ht⟩) hS.2.2 dX12_common_33
      ·
        replace hf := ite_f cc hf
        clear cc
        refine lv_lload hx hb dX12_common_13 (lv_at hl 1 rfl) ?_
        refine lv_lload hx hb dX12_common_15 (lv_at hl 0 rfl) ?_
        have hc := ck_c hf
        replace hf := ck_r hf
        refine lv_lrem hx hb dX12_common_17 (nzL_ne hc) ?_
        clear hc
        refine lv_topl (fun z6 ez => ?_)
        replace hf := bnd_s hf ez
        clear ez
        refine lv_lstore (lv' := [(8, .long z6), (6, .long z3), (4, .long z4)]) hx hb dX12_common_18 hl (by decide) rfl (fun ls hl => ?_)
        refine lv_lload hx hb dX12_common_20 (lv_at hl 1 rfl) ?_
        refine lv_topl (fun z7 ez => ?_)
        replace hf := bnd_s hf ez
        clear ez
        refine lv_lstore (lv' := [(4, .long z7), (8, .long z6), (6, .long z3)]) hx hb dX12_common_22 hl (by decide) rfl (fun ls hl => ?_)
        refine lv_lload hx hb dX12_common_24 (lv_at hl 1 rfl) ?_
        refine lv_topl (fun z8 ez => ?_)
        replace hf := bnd_s hf ez
        clear ez
        refine lv_lstore (lv' := [(6, .long z8), (4, .long z7), (8, .long z6)]) hx hb dX12_common_26 hl (by decide) rfl (fun ls hl => ?_)
        refine lv_goto (tgt := 6) hx hb dX12_common_28 (by decide) ?_
        exact ih6 _ _ _ _ _ (lv_sub hl [0, 1] rfl) hP hD hS hf
  exact hB5 _ _ _ _ _ _ (lv_sub hl [0, 1] rfl) hP hD hS hf

noncomputable def f_X12_lowest (x0 : Int64) (x2 : Int64) (x4 : Int32) : Option (Int64) := (bd1 (f_X12_common x2 x0) (fun (z1 : Int64) => (bnd z1 (fun (z2 : Int64) => (if x4 = 0 then (ck (nzL z2) (some (x0 / z2))) else (ck (nzL z2) (some (x2 / z2))))))))
abbrev rm_X12_lowest : Room := { frames := 1, cells := 0, slots := 0, locals := 29 }
set_option maxHeartbeats 8000000 in
set_option maxRecDepth 100000 in
theorem c_X12_lowest (l : Launch) (D : va_G) (G : Nat → ClassId) (sz : Nat) (x0 : Int64) (x2 : Int64) (x4 : Int32) (r : Int64) (hf : f_X12_lowest x0 x2 x4 = some r) : Met l yX12_lowest wsX12_lowest rm_X12_lowest (pcG D G [.long x0, .long x2, .int x4] sz []) (qcL D G r [] (va_A [] sz)) 0 0 (va_A [] sz) := by
  refine Met.ofW (cc := cX12_lowest) (maxL := 7) (ret := (some .long)) (by decide) rfl ?_
  intro p e s m args below meth c s₁ B hml hv
  obtain ⟨rfl, hsz, hP, hK, hD0⟩ := hv
  have hx := B.exec
  have hb := B.bytes
  have hr := B.returns
  have hts := atoms_spec (ws := wsX12_lowest) B.pre
  have hown : s.vm.findClass RX12 = some m.cls := findClass_of_methodNamed B.named
  have hlocks := B.notSynchronized
  subst hsz
  have hD := hD0.self (sz := s.heap.size)
  generalize hAe : va_A [] s.heap.size = A at hD ⊢
  have hA : ∀ q : Nat, s.heap.size ≤ q → A q := fun q h => by rw [← hAe]; exact Or.inr h
  clear hAe hD0
  have hS : va_S A s.heap s.heap [] := va_S.rf
  have hl := lv_entry ([.long x0, .long x2, .int x4]) (n := 7) (Nat.le_of_ble_eq_true rfl)
  rw [lg_entry_eq]
  generalize (lg_sl ([.long x0, .long x2, .int x4]) ++ List.replicate (7 - (lg_sl ([.long x0, .long x2, .int x4])).length) Slot.unset).toArray = ls at hl ⊢
  have hl : lv_has ls 7 [(0, .long x0), (2, .long x2), (4, .int x4)] := hl
  refine W_nameQ (fun Q hQ => ?_)
  obtain ⟨H, hH⟩ : ∃ H, H = s.heap := ⟨_, rfl⟩
  replace hS : va_S A s.heap H [] := by rw [hH]; exact hS
  replace hP : va_P D vwCl [] H := by rw [hH]; exact hP
  rw [← hH]
  clear hH
  unfold f_X12_lowest at hf
  refine lv_lload_n hx hb dX12_lowest_0 rfl (lv_at hl 1 rfl) ?_
  refine lv_lload_n hx hb dX12_lowest_1 rfl (lv_at hl 0 rfl) ?_
  have hq := bd1_s hf
  clear hf
  obtain ⟨z1, hcall, hf⟩ := hq
  refine gcL (ws' := []) (va_runS (As := [.long x2, .long x0]) (rest := []) ⟨hx, hb, hml, hown, hts⟩ (c_X12_common (l := l) (D := D) (G := G) (sz := H.size) (x0 := x2) (x2 := x0) (r := z1) (hf := hcall)) (va_cwS 2 hts gX12_lowest_X12_common rfl rfl rfl (by decide +kernel) ⟨Nat.le_of_ble_eq_true rfl, Nat.le_of_ble_eq_true rfl⟩) (preG_S (hP.sub [] rfl) (hD.sub [] rfl rfl) hK) rfl rfl hl.1 rfl (lv_room (Nat.le_of_ble_eq_true rfl)) dX12_lowest_2 ⟨Nat.le_of_ble_eq_true rfl, Nat.le_of_ble_eq_true rfl⟩) hP hD hS hA [] [] [] rfl rfl rfl (by decide) rfl rfl rfl (fun H locs hP hD hS => ?_)
  clear hcall
  refine lv_topl (fun z2 ez => ?_)
  replace hf := bnd_s hf ez
  clear ez
  refine lv_lstore (lv' := [(5, .long z2), (0, .long x0), (2, .long x2), (4, .int x4)]) hx hb dX12_lowest_5 hl (by decide) rfl (fun ls hl => ?_)
  refine lv_iload hx hb dX12_lowest_7 (lv_at hl 3 rfl) ?_
  refine lv_if_ne (tgt := 19) hx hb dX12_lowest_9 (by decide) (fun cc => ?_) (fun cc => ?_)
  ·
    replace hf := ite_f cc hf
    clear cc
    refine lv_lload_n hx hb dX12_lowest_19 rfl (lv_at hl 2 rfl) ?_
    refine lv_lload hx hb dX12_lowest_20 (lv_at hl 0 rfl) ?_
    have hc := ck_c hf
    replace hf := ck_r hf
    refine lv_ldiv hx hb dX12_lowest_22 (nzL_ne hc) ?_
    clear hc
    obtain rfl := ou1 hf
    rw [hQ]
    exact W.lret hx hb hr (fun t ht hW => ⟨⟨_, (), rfl, rfl, by rw [ht]; exact hP, va_K.moved hW.alike hK, hD⟩, hS.F ht⟩) hS.2.2 dX12_lowest_23
  ·
    replace hf := ite_t cc hf
    clear cc
    refine lv_lload_n hx hb dX12_lowest_12 rfl (lv_at hl 1 rfl) ?_
    refine lv_lload hx hb dX12_lowest_13 (lv_at hl 0 rfl) ?_
    have hc := ck_c hf
    replace hf := ck_r hf
    refine lv_ldiv hx hb dX12_lowest_15 (nzL_ne hc) ?_
    clear hc
    refine lv_goto (tgt := 23) hx hb dX12_lowest_16 (by decide) ?_
    obtain rfl := ou1 hf
    rw [hQ]
    exact W.lret hx hb hr (fun t ht hW => ⟨⟨_, (), rfl, rfl, by rw [ht]; exact hP, va_K.moved hW.alike hK, hD⟩, hS.F ht⟩) hS.2.2 dX12_lowest_23

noncomputable def B_X12_power_6 (x3 : Int32) (x1 : Int64) (again6 : Int32 → Int64 → Option (Int64)) (z3 : Int32) (z4 : Int64) : Option (Int64) := (if x3 ≤ z3 then (some z4) else (bnd (z4 * x1) (fun (z6 : Int64) => (bnd (z3 + (1 : Int32)) (fun (z7 : Int32) => (again6 z7 z6))))))
noncomputable def f_X12_power (x1 : Int64) (x3 : Int32) : Option (Int64) := (bnd (1 : Int64) (fun (z1 : Int64) => (bnd (0 : Int32) (fun (z2 : Int32) => (lq2 (B_X12_power_6 x3 x1) 1000 z2 z1)))))
abbrev rm_X12_power : Room := { frames := 0, cells := 0, slots := 0, locals := 0 }
set_option maxHeartbeats 8000000 in
set_option maxRecDepth 100000 in
theorem c_X12_power (l : Launch) (D : va_G) (G : Nat → ClassId) (sz : Nat) (a_p0 : Nat) (a_p0_st : Nat) (a_p0_isKept : Nat) (a_p0_brings : Nat) (a_p0_need : Nat) (a_p0_draft : Nat) (a_p0_dStir : Nat) (a_p0_dNeed : Nat) (a_p0_tape : Nat) (a_p0_places : Nat) (a_p0_stirred : Nat) (a_p0_ways : Nat) (a_p0_waysThen : Nat) (a_p0_stays : Nat) (a_p0_fewest : Nat) (a_p0_bowls : Nat) (a_p0_has : Nat) (a_p0_goesOn : Nat) (a_p0_isThere : Nat) (a_p0_isThereThen : Nat) (a_p0_bestRow : Nat) (a_p0_lanes : Nat) (a_p0_sizes : Nat) (a_p0_cells : Nat) (i_p0_seats : Int32) (i_p0_stirs : Int32) (i_p0_dSeats : Int32) (i_p0_dStirs : Int32) (i_p0_told : Int32) (i_p0_highest : Int32) (i_p0_taped : Int32) (i_p0_pos : Int32) (i_p0_from : Int32) (i_p0_sort : Int32) (i_p0_value : Int32) (i_p0_fault : Int32) (i_p0_wrongAt : Int32) (i_p0_torn : Int32) (x1 : Int64) (x3 : Int32) (r : Int64) (hf : f_X12_power x1 x3 = some r) : Met l yX12_power wsX12_power rm_X12_power (pcG D G [.ref a_p0, .long x1, .int x3] sz [(a_p0, .inr (12, [.ref a_p0_st, .ref a_p0_isKept, .int i_p0_seats, .int i_p0_stirs, .ref a_p0_brings, .ref a_p0_need, .ref a_p0_draft, .int i_p0_dSeats, .int i_p0_dStirs, .ref a_p0_dStir, .ref a_p0_dNeed, .int i_p0_told, .int i_p0_highest, .ref a_p0_tape, .int i_p0_taped, .int i_p0_pos, .int i_p0_from, .int i_p0_sort, .int i_p0_value, .int i_p0_fault, .int i_p0_wrongAt, .ref a_p0_places, .ref a_p0_stirred, .ref a_p0_ways, .ref a_p0_waysThen, .ref a_p0_stays, .ref a_p0_fewest, .ref a_p0_bowls, .ref a_p0_has, .ref a_p0_goesOn, .ref a_p0_isThere, .ref a_p0_isThereThen, .ref a_p0_bestRow, .ref a_p0_lanes, .ref a_p0_sizes, .ref a_p0_cells, .int i_p0_torn]))]) (qcL D G r [(a_p0, .inr (12, [.ref a_p0_st, .ref a_p0_isKept, .int i_p0_seats, .int i_p0_stirs, .ref a_p0_brings, .ref a_p0_need, .ref a_p0_draft, .int i_p0_dSeats, .int i_p0_dStirs, .ref a_p0_dStir, .ref a_p0_dNeed, .int i_p0_told, .int i_p0_highest, .ref a_p0_tape, .int i_p0_taped, .int i_p0_pos, .int i_p0_from, .int i_p0_sort, .int i_p0_value, .int i_p0_fault, .int i_p0_wrongAt, .ref a_p0_places, .ref a_p0_stirred, .ref a_p0_ways, .ref a_p0_waysThen, .ref a_p0_stays, .ref a_p0_fewest, .ref a_p0_bowls, .ref a_p0_has, .ref a_p0_goesOn, .ref a_p0_isThere, .ref a_p0_isThereThen, .ref a_p0_bestRow, .ref a_p0_lanes, .ref a_p0_sizes, .ref a_p0_cells, .int i_p0_torn]))] (va_A [(a_p0, .inr (12, [.ref a_p0_st, .ref a_p0_isKept, .int i_p0_seats, .int i_p0_stirs, .ref a_p0_brings, .ref a_p0_need, .ref a_p0_draft, .int i_p0_dSeats, .int i_p0_dStirs, .ref a_p0_dStir, .ref a_p0_dNeed, .int i_p0_told, .int i_p0_highest, .ref a_p0_tape, .int i_p0_taped, .int i_p0_pos, .int i_p0_from, .int i_p0_sort, .int i_p0_value, .int i_p0_fault, .int i_p0_wrongAt, .ref a_p0_places, .ref a_p0_stirred, .ref a_p0_ways, .ref a_p0_waysThen, .ref a_p0_stays, .ref a_p0_fewest, .ref a_p0_bowls, .ref a_p0_has, .ref a_p0_goesOn, .ref a_p0_isThere, .ref a_p0_isThereThen, .ref a_p0_bestRow, .ref a_p0_lanes, .ref a_p0_sizes, .ref a_p0_cells, .int i_p0_torn]))] sz)) 0 0 (va_A [(a_p0, .inr (12, [.ref a_p0_st, .ref a_p0_isKept, .int i_p0_seats, .int i_p0_stirs, .ref a_p0_brings, .ref a_p0_need, .ref a_p0_draft, .int i_p0_dSeats, .int i_p0_dStirs, .ref a_p0_dStir, .ref a_p0_dNeed, .int i_p0_told, .int i_p0_highest, .ref a_p0_tape, .int i_p0_taped, .int i_p0_pos, .int i_p0_from, .int i_p0_sort, .int i_p0_value, .int i_p0_fault, .int i_p0_wrongAt, .ref a_p0_places, .ref a_p0_stirred, .ref a_p0_ways, .ref a_p0_waysThen, .ref a_p0_stays, .ref a_p0_fewest, .ref a_p0_bowls, .ref a_p0_has, .ref a_p0_goesOn, .ref a_p0_isThere, .ref a_p0_isThereThen, .ref a_p0_bestRow, .ref a_p0_lanes, .ref a_p0_sizes, .ref a_p0_cells, .int i_p0_torn]))] sz) := by
  refine Met.ofW (cc := cX12_power) (maxL := 7) (ret := (some .long)) (by decide) rfl ?_
  intro p e s m args below meth c s₁ B hml hv
  obtain ⟨rfl, hsz, hP, hK, hD0⟩ := hv
  have hx := B.exec
  have hb := B.bytes
  have hr := B.returns
  have hts := atoms_spec (ws := wsX12_power) B.pre
  have hown : s.vm.findClass RX12 = some m.cls := findClass_of_methodNamed B.named
  have hlocks := B.notSynchronized
  subst hsz
  have hD := hD0.self (sz := s.heap.size)
  generalize hAe : va_A [(a_p0, .inr (12, [.ref a_p0_st, .ref a_p0_isKept, .int i_p0_seats, .int i_p0_stirs, .ref a_p0_brings, .ref a_p0_need, .ref a_p0_draft, .int i_p0_dSeats, .int i_p0_dStirs, .ref a_p0_dStir, .ref a_p0_dNeed, .int i_p0_told, .int i_p0_highest, .ref a_p0_tape, .int i_p0_taped, .int i_p0_pos, .int i_p0_from, .int i_p0_sort, .int i_p0_value, .int i_p0_fault, .int i_p0_wrongAt, .ref a_p0_places, .ref a_p0_stirred, .ref a_p0_ways, .ref a_p0_waysThen, .ref a_p0_stays, .ref a_p0_fewest, .ref a_p0_bowls, .ref a_p0_has, .ref a_p0_goesOn, .ref a_p0_isThere, .ref a_p0_isThereThen, .ref a_p0_bestRow, .ref a_p0_lanes, .ref a_p0_sizes, .ref a_p0_cells, .int i_p0_torn]))] s.heap.size = A at hD ⊢
  have hA : ∀ q : Nat, s.heap.size ≤ q → A q := fun q h => by rw [← hAe]; exact Or.inr h
  clear hAe hD0
  have hS : va_S A s.heap s.heap [] := va_S.rf
  have hl := lv_entry ([.ref a_p0, .long x1, .int x3]) (n := 7) (Nat.le_of_ble_eq_true rfl)
  rw [lg_entry_eq]
  generalize (lg_sl ([.ref a_p0, .long x1, .int x3]) ++ List.replicate (7 - (lg_sl ([.ref a_p0, .long x1, .int x3])).length) Slot.unset).toArray = ls at hl ⊢
  have hl : lv_has ls 7 [(0, .ref a_p0), (1, .long x1), (3, .int x3)] := hl
  refine W_nameQ (fun Q hQ => ?_)
  obtain ⟨H, hH⟩ : ∃ H, H = s.heap := ⟨_, rfl⟩
  replace hS : va_S A s.heap H [] := by rw [hH]; exact hS
  replace hP : va_P D vwCl [(a_p0, .inr (12, [.ref a_p0_st, .ref a_p0_isKept, .int i_p0_seats, .int i_p0_stirs, .ref a_p0_brings, .ref a_p0_need, .ref a_p0_draft, .int i_p0_dSeats, .int i_p0_dStirs, .ref a_p0_dStir, .ref a_p0_dNeed, .int i_p0_told, .int i_p0_highest, .ref a_p0_tape, .int i_p0_taped, .int i_p0_pos, .int i_p0_from, .int i_p0_sort, .int i_p0_value, .int i_p0_fault, .int i_p0_wrongAt, .ref a_p0_places, .ref a_p0_stirred, .ref a_p0_ways, .ref a_p0_waysThen, .ref a_p0_stays, .ref a_p0_fewest, .ref a_p0_bowls, .ref a_p0_has, .ref a_p0_goesOn, .ref a_p0_isThere, .ref a_p0_isThereThen, .ref a_p0_bestRow, .ref a_p0_lanes, .ref a_p0_sizes, .ref a_p0_cells, .int i_p0_torn]))] H := by rw [hH]; exact hP
  rw [← hH]
  clear hH
  unfold f_X12_power at hf
  refine lv_lconst (v := (1 : Int64)) hx hb dX12_power_0 (by decide) ?_
  refine lv_topl (fun z1 ez => ?_)
  replace hf := bnd_s hf ez
  clear ez
  refine lv_lstore (lv' := [(4, .long z1), (0, .ref a_p0), (1, .long x1), (3, .int x3)]) hx hb dX12_power_1 hl (by decide) rfl (fun ls hl => ?_)
  refine lv_iconst (v := (0 : Int32)) hx hb dX12_power_3 (by decide) ?_
  refine lv_topi (fun z2 ez => ?_)
  replace hf := bnd_s hf ez
  clear ez
  refine lv_istore (lv' := [(6, .int z2), (4, .long z1), (0, .ref a_p0), (1, .long x1), (3, .int x3)]) hx hb dX12_power_4 hl (by decide) rfl (fun ls hl => ?_)
  have hq := lq2_i hf
  clear hf
  obtain ⟨B5, eB5, NB5, hf⟩ := hq
  have hB5 : ∀ (n : Nat) (z3 : Int32) (z4 : Int64) (ls : Array Slot) (H : Heap) (locs : List Loc), lv_has ls 7 [(6, .int z3), (4, .long z4), (1, .long x1), (3, .int x3)] → va_P D vwCl [(a_p0, .inr (12, [.ref a_p0_st, .ref a_p0_isKept, .int i_p0_seats, .int i_p0_stirs, .ref a_p0_brings, .ref a_p0_need, .ref a_p0_draft, .int i_p0_dSeats, .int i_p0_dStirs, .ref a_p0_dStir, .ref a_p0_dNeed, .int i_p0_told, .int i_p0_highest, .ref a_p0_tape, .int i_p0_taped, .int i_p0_pos, .int i_p0_from, .int i_p0_sort, .int i_p0_value, .int i_p0_fault, .int i_p0_wrongAt, .ref a_p0_places, .ref a_p0_stirred, .ref a_p0_ways, .ref a_p0_waysThen, .ref a_p0_stays, .ref a_p0_fewest, .ref a_p0_bowls, .ref a_p0_has, .ref a_p0_goesOn, .ref a_p0_isThere, .ref a_p0_isThereThen, .ref a_p0_bestRow, .ref a_p0_lanes, .ref a_p0_sizes, .ref a_p0_cells, .int i_p0_torn]))] H → va_D A [(a_p0, .inr (12, [.ref a_p0_st, .ref a_p0_isKept, .int i_p0_seats, .int i_p0_stirs, .ref a_p0_brings, .ref a_p0_need, .ref a_p0_draft, .int i_p0_dSeats, .int i_p0_dStirs, .ref a_p0_dStir, .ref a_p0_dNeed, .int i_p0_told, .int i_p0_highest, .ref a_p0_tape, .int i_p0_taped, .int i_p0_pos, .int i_p0_from, .int i_p0_sort, .int i_p0_value, .int i_p0_fault, .int i_p0_wrongAt, .ref a_p0_places, .ref a_p0_stirred, .ref a_p0_ways, .ref a_p0_waysThen, .ref a_p0_stays, .ref a_p0_fewest, .ref a_p0_bowls, .ref a_p0_has, .ref a_p0_goesOn, .ref a_p0_isThere, .ref a_p0_isThereThen, .ref a_p0_bestRow, .ref a_p0_lanes, .ref a_p0_sizes, .ref a_p0_cells, .int i_p0_torn]))] → va_S A s.heap H locs → lq2 B5 n z3 z4 = some r → W p l e rm_X12_power s m ([.ref a_p0, .long x1, .int x3] : List Value).toArray below meth c H locs 0 0 Q (F0 m 6 ls []) := by
    clear hf hl hP hD hS
    intro n
    induction n with
    | zero =>
      intro z3 z4 ls H locs hl hP hD hS hf
      exact (lq2_0 hf).elim
    | succ n ih6 =>
      intro z3 z4 ls H locs hl hP hD hS hf
      replace hf := lq2_s eB5 hf
      unfold B_X12_power_6 at hf
      refine lv_iload hx hb dX12_power_6 (lv_at hl 0 rfl) ?_
      refine lv_iload_n hx hb dX12_power_8 rfl (lv_at hl 3 rfl) ?_
      refine lv_icmp_ge (tgt := 24) hx hb dX12_power_9 (by decide) (fun cc => ?_) (fun cc => ?_)
      ·
        replace hf := ite_t cc hf
        clear cc
        refine lv_lload hx hb dX12_power_24 (lv_at hl 1 rfl) ?_
        obtain rfl := ou1 hf
        rw [hQ]
        exact W.lret hx hb hr (fun t ht hW => ⟨⟨_, (), rfl, rfl, by rw [ht]; exact hP, va_K.moved hW.alike hK, hD⟩, hS.F ht⟩) hS.2.2 dX12_power_26
      ·
        replace hf := ite_f cc hf
        clear cc
        refine lv_lload hx hb dX12_power_12 (lv_at hl 1 rfl) ?_
        refine lv_lload_n hx hb dX12_power_14 rfl (lv_at hl 2 rfl) ?_
        refine lv_lmul hx hb dX12_power_15 ?_
        refine lv_topl (fun z6 ez => ?_)
        replace hf := bnd_s hf ez
        clear ez
        refine lv_lstore (lv' := [(4, .long z6), (6, .int z3), (1, .long x1), (3, .int x3)]) hx hb dX12_power_16 hl (by decide) rfl (fun ls hl => ?_)
        obtain ⟨z7, ez⟩ : ∃ y : Int32, y = (z3 + (1 : Int32)) := ⟨_, rfl⟩
        replace hf := bnd_s hf ez
        refine lv_iinc (v := z7) (lv' := [(6, .int z7), (4, .long z6), (1, .long x1), (3, .int x3)]) hx hb dX12_power_18 hl (k := 1) rfl (by rw [ez]; rfl) (by decide) rfl (fun ls hl => ?_)
        clear ez
        refine lv_goto (tgt := 6) hx hb dX12_power_21 (by decide) ?_
        exact ih6 _ _ _ _ _ (lv_sub hl [0, 1, 2, 3] rfl) hP hD hS hf
  exact hB5 _ _ _ _ _ _ (lv_sub hl [0, 1, 3, 4] rfl) hP hD hS hf

noncomputable def f_X12_isTold (x0 : Int32) : Option (Int32) := (bd1 (f_X12_in (x0).toInt64 (0 : Int64) (1 : Int64)) (fun (z1 : Int32) => (ck (zB z1) (some z1))))
abbrev rm_X12_isTold : Room := { frames := 1, cells := 0, slots := 0, locals := 25 }
set_option maxHeartbeats 8000000 in
set_option maxRecDepth 100000 in
theorem c_X12_isTold (l : Launch) (D : va_G) (G : Nat → ClassId) (sz : Nat) (x0 : Int32) (r : Int32) (hf : f_X12_isTold x0 = some r) : Met l yX12_isTold wsX12_isTold rm_X12_isTold (pcG D G [.int x0] sz []) (qcI D G r [] (va_A [] sz)) 0 0 (va_A [] sz) := by
  refine Met.ofW (cc := cX12_isTold) (maxL := 1) (ret := (some .boolean)) (by decide) rfl ?_
  intro p e s m args below meth c s₁ B hml hv
  obtain ⟨rfl, hsz, hP, hK, hD0⟩ := hv
  have hx := B.exec
  have hb := B.bytes
  have hr := B.returns
  have hts := atoms_spec (ws := wsX12_isTold) B.pre
  have hown : s.vm.findClass RX12 = some m.cls := findClass_of_methodNamed B.named
  have hlocks := B.notSynchronized
  subst hsz
  have hD := hD0.self (sz := s.heap.size)
  generalize hAe : va_A [] s.heap.size = A at hD ⊢
  have hA : ∀ q : Nat, s.heap.size ≤ q → A q := fun q h => by rw [← hAe]; exact Or.inr h
  clear hAe hD0
  have hS : va_S A s.heap s.heap [] := va_S.rf
  have hl := lv_entry ([.int x0]) (n := 1) (Nat.le_of_ble_eq_true rfl)
  rw [lg_entry_eq]
  generalize (lg_sl ([.int x0]) ++ List.replicate (1 - (lg_sl ([.int x0])).length) Slot.unset).toArray = ls at hl ⊢
  have hl : lv_has ls 1 [(0, .int x0)] := hl
  refine W_nameQ (fun Q hQ => ?_)
  obtain ⟨H, hH⟩ : ∃ H, H = s.heap := ⟨_, rfl⟩
  replace hS : va_S A s.heap H [] := by rw [hH]; exact hS
  replace hP : va_P D vwCl [] H := by rw [hH]; exact hP
  rw [← hH]
  clear hH
  unfold f_X12_isTold at hf
  refine lv_iload_n hx hb dX12_isTold_0 rfl (lv_at hl 0 rfl) ?_
  refine lv_i2l hx hb dX12_isTold_1 rfl ?_
  refine lv_lconst (v := (0 : Int64)) hx hb dX12_isTold_2 (by decide) ?_
  refine lv_lconst (v := (1 : Int64)) hx hb dX12_isTold_3 (by decide) ?_
  have hq := bd1_s hf
  clear hf
  obtain ⟨z1, hcall, hf⟩ := hq
  refine gcI (ws' := []) (va_runS (As := [.long (x0).toInt64, .long (0 : Int64), .long (1 : Int64)]) (rest := []) ⟨hx, hb, hml, hown, hts⟩ (c_X12_in (l := l) (D := D) (G := G) (sz := H.size) (x0 := (x0).toInt64) (x2 := (0 : Int64)) (x4 := (1 : Int64)) (r := z1) (hf := hcall)) (va_cwS 3 hts gX12_isTold_X12_in rfl rfl rfl (by decide +kernel) ⟨Nat.le_of_ble_eq_true rfl, Nat.le_of_ble_eq_true rfl⟩) (preG_S (hP.sub [] rfl) (hD.sub [] rfl rfl) hK) rfl rfl hl.1 rfl (lv_room (Nat.le_of_ble_eq_true rfl)) dX12_isTold_4 ⟨Nat.le_of_ble_eq_true rfl, Nat.le_of_ble_eq_true rfl⟩) hP hD hS hA [] [] [] rfl rfl rfl (by decide) rfl rfl rfl (fun H locs hP hD hS => ?_)
  clear hcall
  have hz := ck_c hf
  replace hf := ck_r hf
  obtain rfl := ou1 hf
  rw [hQ]
  exact W.zret hx hb hr (zB_n hz) (fun t ht hW => ⟨⟨_, (), rfl, rfl, by rw [ht]; exact hP, va_K.moved hW.alike hK, hD⟩, hS.F ht⟩) hS.2.2 dX12_isTold_7

noncomputable def f_X12_chance (i_p0_seats : Int32) (i_p0_stirs : Int32) (x1 : Int32) (x2 : Int32) (x3 : Int32) : Option (Int64) := (bd1 (f_X12_isSeat i_p0_seats x1) (fun (z1 : Int32) => (if z1 = 0 then (some (-1 : Int64)) else (bd1 (f_X12_in (x2).toInt64 (0 : Int64) (10 : Int64)) (fun (z2 : Int32) => (if z2 = 0 then (some (-1 : Int64)) else (bd1 (f_X12_isTold x3) (fun (z3 : Int32) => (if z3 = 0 then (some (-1 : Int64)) else (if i_p0_stirs = 0 then (some (-2 : Int64)) else none))))))))))
abbrev rm_X12_chance : Room := { frames := 2, cells := 0, slots := 0, locals := 46 }
theorem mwX12_chance_0 : Cond.constantLong RX12 241 (-1) ∈ wsX12_chance := by decide +kernel
theorem mwX12_chance_1 : Cond.constantLong RX12 236 (10) ∈ wsX12_chance := by decide +kernel
theorem inX12_chance_X12 : ∀ w ∈ wsX120, w ∈ wsX12_chance := by decide +kernel
theorem mwX12_chance_3 : Cond.fieldLink RX12 103 "LadleKingsModel" "stirs" "I" ∈ wsX12_chance := by decide +kernel
theorem mwX12_chance_4 : Cond.constantLong RX12 243 (-2) ∈ wsX12_chance := by decide +kernel
set_option maxHeartbeats 8000000 in
set_option maxRecDepth 100000 in
theorem c_X12_chance (l : Launch) (D : va_G) (G : Nat → ClassId) (sz : Nat) (a_p0 : Nat) (a_p0_st : Nat) (a_p0_isKept : Nat) (a_p0_brings : Nat) (a_p0_need : Nat) (a_p0_draft : Nat) (a_p0_dStir : Nat) (a_p0_dNeed : Nat) (a_p0_tape : Nat) (a_p0_places : Nat) (a_p0_stirred : Nat) (a_p0_ways : Nat) (a_p0_waysThen : Nat) (a_p0_stays : Nat) (a_p0_fewest : Nat) (a_p0_bowls : Nat) (a_p0_has : Nat) (a_p0_goesOn : Nat) (a_p0_isThere : Nat) (a_p0_isThereThen : Nat) (a_p0_bestRow : Nat) (a_p0_lanes : Nat) (a_p0_sizes : Nat) (a_p0_cells : Nat) (i_p0_seats : Int32) (i_p0_stirs : Int32) (i_p0_dSeats : Int32) (i_p0_dStirs : Int32) (i_p0_told : Int32) (i_p0_highest : Int32) (i_p0_taped : Int32) (i_p0_pos : Int32) (i_p0_from : Int32) (i_p0_sort : Int32) (i_p0_value : Int32) (i_p0_fault : Int32) (i_p0_wrongAt : Int32) (i_p0_torn : Int32) (x1 : Int32) (x2 : Int32) (x3 : Int32) (r : Int64) (hf : f_X12_chance i_p0_seats i_p0_stirs x1 x2 x3 = some r) : Met l yX12_chance wsX12_chance rm_X12_chance (pcG D G [.ref a_p0, .int x1, .int x2, .int x3] sz [(a_p0, .inr (12, [.ref a_p0_st, .ref a_p0_isKept, .int i_p0_seats, .int i_p0_stirs, .ref a_p0_brings, .ref a_p0_need, .ref a_p0_draft, .int i_p0_dSeats, .int i_p0_dStirs, .ref a_p0_dStir, .ref a_p0_dNeed, .int i_p0_told, .int i_p0_highest, .ref a_p0_tape, .int i_p0_taped, .int i_p0_pos, .int i_p0_from, .int i_p0_sort, .int i_p0_value, .int i_p0_fault, .int i_p0_wrongAt, .ref a_p0_places, .ref a_p0_stirred, .ref a_p0_ways, .ref a_p0_waysThen, .ref a_p0_stays, .ref a_p0_fewest, .ref a_p0_bowls, .ref a_p0_has, .ref a_p0_goesOn, .ref a_p0_isThere, .ref a_p0_isThereThen, .ref a_p0_bestRow, .ref a_p0_lanes, .ref a_p0_sizes, .ref a_p0_cells, .int i_p0_torn]))]) (qcL D G r [(a_p0, .inr (12, [.ref a_p0_st, .ref a_p0_isKept, .int i_p0_seats, .int i_p0_stirs, .ref a_p0_brings, .ref a_p0_need, .ref a_p0_draft, .int i_p0_dSeats, .int i_p0_dStirs, .ref a_p0_dStir, .ref a_p0_dNeed, .int i_p0_told, .int i_p0_highest, .ref a_p0_tape, .int i_p0_taped, .int i_p0_pos, .int i_p0_from, .int i_p0_sort, .int i_p0_value, .int i_p0_fault, .int i_p0_wrongAt, .ref a_p0_places, .ref a_p0_stirred, .ref a_p0_ways, .ref a_p0_waysThen, .ref a_p0_stays, .ref a_p0_fewest, .ref a_p0_bowls, .ref a_p0_has, .ref a_p0_goesOn, .ref a_p0_isThere, .ref a_p0_isThereThen, .ref a_p0_bestRow, .ref a_p0_lanes, .ref a_p0_sizes, .ref a_p0_cells, .int i_p0_torn]))] (va_A [(a_p0, .inr (12, [.ref a_p0_st, .ref a_p0_isKept, .int i_p0_seats, .int i_p0_stirs, .ref a_p0_brings, .ref a_p0_need, .ref a_p0_draft, .int i_p0_dSeats, .int i_p0_dStirs, .ref a_p0_dStir, .ref a_p0_dNeed, .int i_p0_told, .int i_p0_highest, .ref a_p0_tape, .int i_p0_taped, .int i_p0_pos, .int i_p0_from, .int i_p0_sort, .int i_p0_value, .int i_p0_fault, .int i_p0_wrongAt, .ref a_p0_places, .ref a_p0_stirred, .ref a_p0_ways, .ref a_p0_waysThen, .ref a_p0_stays, .ref a_p0_fewest, .ref a_p0_bowls, .ref a_p0_has, .ref a_p0_goesOn, .ref a_p0_isThere, .ref a_p0_isThereThen, .ref a_p0_bestRow, .ref a_p0_lanes, .ref a_p0_sizes, .ref a_p0_cells, .int i_p0_torn]))] sz)) 0 0 (va_A [(a_p0, .inr (12, [.ref a_p0_st, .ref a_p0_isKept, .int i_p0_seats, .int i_p0_stirs, .ref a_p0_brings, .ref a_p0_need, .ref a_p0_draft, .int i_p0_dSeats, .int i_p0_dStirs, .ref a_p0_dStir, .ref a_p0_dNeed, .int i_p0_told, .int i_p0_highest, .ref a_p0_tape, .int i_p0_taped, .int i_p0_pos, .int i_p0_from, .int i_p0_sort, .int i_p0_value, .int i_p0_fault, .int i_p0_wrongAt, .ref a_p0_places, .ref a_p0_stirred, .ref a_p0_ways, .ref a_p0_waysThen, .ref a_p0_stays, .ref a_p0_fewest, .ref a_p0_bowls, .ref a_p0_has, .ref a_p0_goesOn, .ref a_p0_isThere, .ref a_p0_isThereThen, .ref a_p0_bestRow, .ref a_p0_lanes, .ref a_p0_sizes, .ref a_p0_cells, .int i_p0_torn]))] sz) := by
  refine Met.ofW (cc := cX12_chance) (maxL := 7) (ret := (some .long)) (by decide) rfl ?_
  intro p e s m args below meth c s₁ B hml hv
  obtain ⟨rfl, hsz, hP, hK, hD0⟩ := hv
  have hx := B.exec
  have hb := B.bytes
  have hr := B.returns
  have hts := atoms_spec (ws := wsX12_chance) B.pre
  have hown : s.vm.findClass RX12 = some m.cls := findClass_of_methodNamed B.named
  have hlocks := B.notSynchronized
  subst hsz
  have hD := hD0.self (sz := s.heap.size)
  generalize hAe : va_A [(a_p0, .inr (12, [.ref a_p0_st, .ref a_p0_isKept, .int i_p0_seats, .int i_p0_stirs, .ref a_p0_brings, .ref a_p0_need, .ref a_p0_draft, .int i_p0_dSeats, .int i_p0_dStirs, .ref a_p0_dStir, .ref a_p0_dNeed, .int i_p0_told, .int i_p0_highest, .ref a_p0_tape, .int i_p0_taped, .int i_p0_pos, .int i_p0_from, .int i_p0_sort, .int i_p0_value, .int i_p0_fault, .int i_p0_wrongAt, .ref a_p0_places, .ref a_p0_stirred, .ref a_p0_ways, .ref a_p0_waysThen, .ref a_p0_stays, .ref a_p0_fewest, .ref a_p0_bowls, .ref a_p0_has, .ref a_p0_goesOn, .ref a_p0_isThere, .ref a_p0_isThereThen, .ref a_p0_bestRow, .ref a_p0_lanes, .ref a_p0_sizes, .ref a_p0_cells, .int i_p0_torn]))] s.heap.size = A at hD ⊢
  have hA : ∀ q : Nat, s.heap.size ≤ q → A q := fun q h => by rw [← hAe]; exact Or.inr h
  clear hAe hD0
  have hS : va_S A s.heap s.heap [] := va_S.rf
  have hl := lv_entry ([.ref a_p0, .int x1, .int x2, .int x3]) (n := 7) (Nat.le_of_ble_eq_true rfl)
  rw [lg_entry_eq]
  generalize (lg_sl ([.ref a_p0, .int x1, .int x2, .int x3]) ++ List.replicate (7 - (lg_sl ([.ref a_p0, .int x1, .int x2, .int x3])).length) Slot.unset).toArray = ls at hl ⊢
  have hl : lv_has ls 7 [(0, .ref a_p0), (1, .int x1), (2, .int x2), (3, .int x3)] := hl
  refine W_nameQ (fun Q hQ => ?_)
  obtain ⟨H, hH⟩ : ∃ H, H = s.heap := ⟨_, rfl⟩
  replace hS : va_S A s.heap H [] := by rw [hH]; exact hS
  replace hP : va_P D vwCl [(a_p0, .inr (12, [.ref a_p0_st, .ref a_p0_isKept, .int i_p0_seats, .int i_p0_stirs, .ref a_p0_brings, .ref a_p0_need, .ref a_p0_draft, .int i_p0_dSeats, .int i_p0_dStirs, .ref a_p0_dStir, .ref a_p0_dNeed, .int i_p0_told, .int i_p0_highest, .ref a_p0_tape, .int i_p0_taped, .int i_p0_pos, .int i_p0_from, .int i_p0_sort, .int i_p0_value, .int i_p0_fault, .int i_p0_wrongAt, .ref a_p0_places, .ref a_p0_stirred, .ref a_p0_ways, .ref a_p0_waysThen, .ref a_p0_stays, .ref a_p0_fewest, .ref a_p0_bowls, .ref a_p0_has, .ref a_p0_goesOn, .ref a_p0_isThere, .ref a_p0_isThereThen, .ref a_p0_bestRow, .ref a_p0_lanes, .ref a_p0_sizes, .ref a_p0_cells, .int i_p0_torn]))] H := by rw [hH]; exact hP
  rw [← hH]
  clear hH
  unfold f_X12_chance at hf
  refine lv_aload_n hx hb dX12_chance_0 rfl (lv_at hl 0 rfl) ?_
  refine lv_iload_n hx hb dX12_chance_1 rfl (lv_at hl 1 rfl) ?_
  have hq := bd1_s hf
  clear hf
  obtain ⟨z1, hcall, hf⟩ := hq
  refine gcI (ws' := [(a_p0, .inr (12, [.ref a_p0_st, .ref a_p0_isKept, .int i_p0_seats, .int i_p0_stirs, .ref a_p0_brings, .ref a_p0_need, .ref a_p0_draft, .int i_p0_dSeats, .int i_p0_dStirs, .ref a_p0_dStir, .ref a_p0_dNeed, .int i_p0_told, .int i_p0_highest, .ref a_p0_tape, .int i_p0_taped, .int i_p0_pos, .int i_p0_from, .int i_p0_sort, .int i_p0_value, .int i_p0_fault, .int i_p0_wrongAt, .ref a_p0_places, .ref a_p0_stirred, .ref a_p0_ways, .ref a_p0_waysThen, .ref a_p0_stays, .ref a_p0_fewest, .ref a_p0_bowls, .ref a_p0_has, .ref a_p0_goesOn, .ref a_p0_isThere, .ref a_p0_isThereThen, .ref a_p0_bestRow, .ref a_p0_lanes, .ref a_p0_sizes, .ref a_p0_cells, .int i_p0_torn]))]) (va_runV (As := [.int x1]) (rest := []) ⟨hx, hb, hml, hown, hts⟩ (c_X12_isSeat (l := l) (D := D) (G := G) (sz := H.size) (a_p0 := a_p0) (a_p0_st := a_p0_st) (a_p0_isKept := a_p0_isKept) (a_p0_brings := a_p0_brings) (a_p0_need := a_p0_need) (a_p0_draft := a_p0_draft) (a_p0_dStir := a_p0_dStir) (a_p0_dNeed := a_p0_dNeed) (a_p0_tape := a_p0_tape) (a_p0_places := a_p0_places) (a_p0_stirred := a_p0_stirred) (a_p0_ways := a_p0_ways) (a_p0_waysThen := a_p0_waysThen) (a_p0_stays := a_p0_stays) (a_p0_fewest := a_p0_fewest) (a_p0_bowls := a_p0_bowls) (a_p0_has := a_p0_has) (a_p0_goesOn := a_p0_goesOn) (a_p0_isThere := a_p0_isThere) (a_p0_isThereThen := a_p0_isThereThen) (a_p0_bestRow := a_p0_bestRow) (a_p0_lanes := a_p0_lanes) (a_p0_sizes := a_p0_sizes) (a_p0_cells := a_p0_cells) (i_p0_seats := i_p0_seats) (i_p0_stirs := i_p0_stirs) (i_p0_dSeats := i_p0_dSeats) (i_p0_dStirs := i_p0_dStirs) (i_p0_told := i_p0_told) (i_p0_highest := i_p0_highest) (i_p0_taped := i_p0_taped) (i_p0_pos := i_p0_pos) (i_p0_from := i_p0_from) (i_p0_sort := i_p0_sort) (i_p0_value := i_p0_value) (i_p0_fault := i_p0_fault) (i_p0_wrongAt := i_p0_wrongAt) (i_p0_torn := i_p0_torn) (x1 := x1) (r := z1) (hf := hcall)) (cwV 1 hts gX12_chance_X12_isSeat rfl rfl rfl (by decide +kernel) ⟨Nat.le_of_ble_eq_true rfl, Nat.le_of_ble_eq_true rfl⟩) (preG_V (ci := 12) (hP.sub [0] rfl) (hD.sub [0] rfl rfl) hK rfl rfl) rfl rfl hl.1 rfl (lv_room (Nat.le_of_ble_eq_true rfl)) dX12_chance_2 ⟨Nat.le_of_ble_eq_true rfl, Nat.le_of_ble_eq_true rfl⟩) hP hD hS hA [0] [] [0] rfl rfl rfl (by decide) rfl rfl rfl (fun H locs hP hD hS => ?_)
  clear hcall
  refine lv_if_eq (tgt := 27) hx hb dX12_chance_5 (by decide) (fun cc => ?_) (fun cc => ?_)
  ·
    replace hf := ite_t cc hf
    clear cc
    refine lv_ldc2 (v := (-1 : Int64)) hx hb hown (hts _ mwX12_chance_0) dX12_chance_27 ?_
    obtain rfl := ou1 hf
    rw [hQ]
    exact W.lret hx hb hr (fun t ht hW => ⟨⟨_, (), rfl, rfl, by rw [ht]; exact hP, va_K.moved hW.alike hK, hD⟩, hS.F ht⟩) hS.2.2 dX12_chance_30
  ·
    replace hf := ite_f cc hf
    clear cc
    refine lv_iload_n hx hb dX12_chance_8 rfl (lv_at hl 2 rfl) ?_
    refine lv_i2l hx hb dX12_chance_9 rfl ?_
    refine lv_lconst (v := (0 : Int64)) hx hb dX12_chance_10 (by decide) ?_
    refine lv_ldc2 (v := (10 : Int64)) hx hb hown (hts _ mwX12_chance_1) dX12_chance_11 ?_
    have hq := bd1_s hf
    clear hf
    obtain ⟨z2, hcall, hf⟩ := hq
    refine gcI (ws' := [(a_p0, .inr (12, [.ref a_p0_st, .ref a_p0_isKept, .int i_p0_seats, .int i_p0_stirs, .ref a_p0_brings, .ref a_p0_need, .ref a_p0_draft, .int i_p0_dSeats, .int i_p0_dStirs, .ref a_p0_dStir, .ref a_p0_dNeed, .int i_p0_told, .int i_p0_highest, .ref a_p0_tape, .int i_p0_taped, .int i_p0_pos, .int i_p0_from, .int i_p0_sort, .int i_p0_value, .int i_p0_fault, .int i_p0_wrongAt, .ref a_p0_places, .ref a_p0_stirred, .ref a_p0_ways, .ref a_p0_waysThen, .ref a_p0_stays, .ref a_p0_fewest, .ref a_p0_bowls, .ref a_p0_has, .ref a_p0_goesOn, .ref a_p0_isThere, .ref a_p0_isThereThen, .ref a_p0_bestRow, .ref a_p0_lanes, .ref a_p0_sizes, .ref a_p0_cells, .int i_p0_torn]))]) (va_runS (As := [.long (x2).toInt64, .long (0 : Int64), .long (10 : Int64)]) (rest := []) ⟨hx, hb, hml, hown, hts⟩ (c_X12_in (l := l) (D := D) (G := G) (sz := H.size) (x0 := (x2).toInt64) (x2 := (0 : Int64)) (x4 := (10 : Int64)) (r := z2) (hf := hcall)) (va_cwS 3 hts gX12_chance_X12_in rfl rfl rfl (by decide +kernel) ⟨Nat.le_of_ble_eq_true rfl, Nat.le_of_ble_eq_true rfl⟩) (preG_S (hP.sub [] rfl) (hD.sub [] rfl rfl) hK) rfl rfl hl.1 rfl (lv_room (Nat.le_of_ble_eq_true rfl)) dX12_chance_14 ⟨Nat.le_of_ble_eq_true rfl, Nat.le_of_ble_eq_true rfl⟩) hP hD hS hA [] [0] [0] rfl rfl rfl (by decide) rfl rfl rfl (fun H locs hP hD hS => ?_)
    clear hcall
    refine lv_if_eq (tgt := 27) hx hb dX12_chance_17 (by decide) (fun cc => ?_) (fun cc => ?_)
    ·
      replace hf := ite_t cc hf
      clear cc
      refine lv_ldc2 (v := (-1 : Int64)) hx hb hown (hts _ mwX12_chance_0) dX12_chance_27 ?_
      obtain rfl := ou1 hf
      rw [hQ]
      exact W.lret hx hb hr (fun t ht hW => ⟨⟨_, (), rfl, rfl, by rw [ht]; exact hP, va_K.moved hW.alike hK, hD⟩, hS.F ht⟩) hS.2.2 dX12_chance_30
    ·
      replace hf := ite_f cc hf
      clear cc
      refine lv_iload_n hx hb dX12_chance_20 rfl (lv_at hl 3 rfl) ?_
      have hq := bd1_s hf
      clear hf
      obtain ⟨z3, hcall, hf⟩ := hq
      refine gcI (ws' := [(a_p0, .inr (12, [.ref a_p0_st, .ref a_p0_isKept, .int i_p0_seats, .int i_p0_stirs, .ref a_p0_brings, .ref a_p0_need, .ref a_p0_draft, .int i_p0_dSeats, .int i_p0_dStirs, .ref a_p0_dStir, .ref a_p0_dNeed, .int i_p0_told, .int i_p0_highest, .ref a_p0_tape, .int i_p0_taped, .int i_p0_pos, .int i_p0_from, .int i_p0_sort, .int i_p0_value, .int i_p0_fault, .int i_p0_wrongAt, .ref a_p0_places, .ref a_p0_stirred, .ref a_p0_ways, .ref a_p0_waysThen, .ref a_p0_stays, .ref a_p0_fewest, .ref a_p0_bowls, .ref a_p0_has, .ref a_p0_goesOn, .ref a_p0_isThere, .ref a_p0_isThereThen, .ref a_p0_bestRow, .ref a_p0_lanes, .ref a_p0_sizes, .ref a_p0_cells, .int i_p0_torn]))]) (va_runS (As := [.int x3]) (rest := []) ⟨hx, hb, hml, hown, hts⟩ (c_X12_isTold (l := l) (D := D) (G := G) (sz := H.size) (x0 := x3) (r := z3) (hf := hcall)) (va_cwS 1 hts gX12_chance_X12_isTold rfl rfl rfl (by decide +kernel) ⟨Nat.le_of_ble_eq_true rfl, Nat.le_of_ble_eq_true rfl⟩) (preG_S (hP.sub [] rfl) (hD.sub [] rfl rfl) hK) rfl rfl hl.1 rfl (lv_room (Nat.le_of_ble_eq_true rfl)) dX12_chance_21 ⟨Nat.le_of_ble_eq_true rfl, Nat.le_of_ble_eq_true rfl⟩) hP hD hS hA [] [0] [0] rfl rfl rfl (by decide) rfl rfl rfl (fun H locs hP hD hS => ?_)
      clear hcall
      refine lv_if_ne (tgt := 31) hx hb dX12_chance_24 (by decide) (fun cc => ?_) (fun cc => ?_)
      ·
        replace hf := ite_f cc hf
        clear cc
        refine lv_aload_n hx hb dX12_chance_31 rfl (lv_at hl 0 rfl) ?_
        refine va_get (D := D) (ci := 12) (v := .int i_p0_stirs) (C := RX12) (T := TX12) (N := 37) hx hb hts inX12_chance_X12 hown hK hP 0 rfl rfl 3 (by decide) (hts _ mwX12_chance_3) (fun _ h9 => h9) rfl dX12_chance_32 ?_
        refine lv_if_ne (tgt := 42) hx hb dX12_chance_35 (by decide) (fun cc => ?_) (fun cc => ?_)
        ·
          replace hf := ite_f cc hf
          clear cc
          refine lv_aload_n hx hb dX12_chance_42 rfl (lv_at hl 0 rfl) ?_
          cases hf
        ·
          replace hf := ite_t cc hf
          clear cc
          refine lv_ldc2 (v := (-2 : Int64)) hx hb hown (hts _ mwX12_chance_4) dX12_chance_38 ?_
          obtain rfl := ou1 hf
          rw [hQ]
          exact W.lret hx hb hr (fun t ht hW => ⟨⟨_, (), rfl, rfl, by rw [ht]; exact hP, va_K.moved hW.alike hK, hD⟩, hS.F ht⟩) hS.2.2 dX12_chance_41
      ·
        replace hf := ite_t cc hf
        clear cc
        refine lv_ldc2 (v := (-1 : Int64)) hx hb hown (hts _ mwX12_chance_0) dX12_chance_27 ?_
        obtain rfl := ou1 hf
        rw [hQ]
        exact W.lret hx hb hr (fun t ht hW => ⟨⟨_, (), rfl, rfl, by rw [ht]; exact hP, va_K.moved hW.alike hK, hD⟩, hS.F ht⟩) hS.2.2 dX12_chance_30

noncomputable def f_X12_lasts (i_p0_stirs : Int32) (x1 : Int32) (x2 : Int32) : Option (Int64) := (bd1 (f_X12_in (x1).toInt64 (0 : Int64) (10 : Int64)) (fun (z1 : Int32) => (if z1 = 0 then (some (-1 : Int64)) else (bd1 (f_X12_isTold x2) (fun (z2 : Int32) => (if z2 = 0 then (some (-1 : Int64)) else (if i_p0_stirs = 0 then (some (-2 : Int64)) else none)))))))
abbrev rm_X12_lasts : Room := { frames := 2, cells := 0, slots := 0, locals := 45 }
theorem mwX12_lasts_0 : Cond.constantLong RX12 236 (10) ∈ wsX12_lasts := by decide +kernel
theorem mwX12_lasts_1 : Cond.constantLong RX12 241 (-1) ∈ wsX12_lasts := by decide +kernel
theorem inX12_lasts_X12 : ∀ w ∈ wsX120, w ∈ wsX12_lasts := by decide +kernel
theorem mwX12_lasts_3 : Cond.fieldLink RX12 103 "LadleKingsModel" "stirs" "I" ∈ wsX12_lasts := by decide +kernel
theorem mwX12_lasts_4 : Cond.constantLong RX12 243 (-2) ∈ wsX12_lasts := by decide +kernel
set_option maxHeartbeats 8000000 in
set_option maxRecDepth 100000 in
theorem c_X12_lasts (l : Launch) (D : va_G) (G : Nat → ClassId) (sz : Nat) (a_p0 : Nat) (a_p0_st : Nat) (a_p0_isKept : Nat) (a_p0_brings : Nat) (a_p0_need : Nat) (a_p0_draft : Nat) (a_p0_dStir : Nat) (a_p0_dNeed : Nat) (a_p0_tape : Nat) (a_p0_places : Nat) (a_p0_stirred : Nat) (a_p0_ways : Nat) (a_p0_waysThen : Nat) (a_p0_stays : Nat) (a_p0_fewest : Nat) (a_p0_bowls : Nat) (a_p0_has : Nat) (a_p0_goesOn : Nat) (a_p0_isThere : Nat) (a_p0_isThereThen : Nat) (a_p0_bestRow : Nat) (a_p0_lanes : Nat) (a_p0_sizes : Nat) (a_p0_cells : Nat) (i_p0_seats : Int32) (i_p0_stirs : Int32) (i_p0_dSeats : Int32) (i_p0_dStirs : Int32) (i_p0_told : Int32) (i_p0_highest : Int32) (i_p0_taped : Int32) (i_p0_pos : Int32) (i_p0_from : Int32) (i_p0_sort : Int32) (i_p0_value : Int32) (i_p0_fault : Int32) (i_p0_wrongAt : Int32) (i_p0_torn : Int32) (x1 : Int32) (x2 : Int32) (r : Int64) (hf : f_X12_lasts i_p0_stirs x1 x2 = some r) : Met l yX12_lasts wsX12_lasts rm_X12_lasts (pcG D G [.ref a_p0, .int x1, .int x2] sz [(a_p0, .inr (12, [.ref a_p0_st, .ref a_p0_isKept, .int i_p0_seats, .int i_p0_stirs, .ref a_p0_brings, .ref a_p0_need, .ref a_p0_draft, .int i_p0_dSeats, .int i_p0_dStirs, .ref a_p0_dStir, .ref a_p0_dNeed, .int i_p0_told, .int i_p0_highest, .ref a_p0_tape, .int i_p0_taped, .int i_p0_pos, .int i_p0_from, .int i_p0_sort, .int i_p0_value, .int i_p0_fault, .int i_p0_wrongAt, .ref a_p0_places, .ref a_p0_stirred, .ref a_p0_ways, .ref a_p0_waysThen, .ref a_p0_stays, .ref a_p0_fewest, .ref a_p0_bowls, .ref a_p0_has, .ref a_p0_goesOn, .ref a_p0_isThere, .ref a_p0_isThereThen, .ref a_p0_bestRow, .ref a_p0_lanes, .ref a_p0_sizes, .ref a_p0_cells, .int i_p0_torn]))]) (qcL D G r [(a_p0, .inr (12, [.ref a_p0_st, .ref a_p0_isKept, .int i_p0_seats, .int i_p0_stirs, .ref a_p0_brings, .ref a_p0_need, .ref a_p0_draft, .int i_p0_dSeats, .int i_p0_dStirs, .ref a_p0_dStir, .ref a_p0_dNeed, .int i_p0_told, .int i_p0_highest, .ref a_p0_tape, .int i_p0_taped, .int i_p0_pos, .int i_p0_from, .int i_p0_sort, .int i_p0_value, .int i_p0_fault, .int i_p0_wrongAt, .ref a_p0_places, .ref a_p0_stirred, .ref a_p0_ways, .ref a_p0_waysThen, .ref a_p0_stays, .ref a_p0_fewest, .ref a_p0_bowls, .ref a_p0_has, .ref a_p0_goesOn, .ref a_p0_isThere, .ref a_p0_isThereThen, .ref a_p0_bestRow, .ref a_p0_lanes, .ref a_p0_sizes, .ref a_p0_cells, .int i_p0_torn]))] (va_A [(a_p0, .inr (12, [.ref a_p0_st, .ref a_p0_isKept, .int i_p0_seats, .int i_p0_stirs, .ref a_p0_brings, .ref a_p0_need, .ref a_p0_draft, .int i_p0_dSeats, .int i_p0_dStirs, .ref a_p0_dStir, .ref a_p0_dNeed, .int i_p0_told, .int i_p0_highest, .ref a_p0_tape, .int i_p0_taped, .int i_p0_pos, .int i_p0_from, .int i_p0_sort, .int i_p0_value, .int i_p0_fault, .int i_p0_wrongAt, .ref a_p0_places, .ref a_p0_stirred, .ref a_p0_ways, .ref a_p0_waysThen, .ref a_p0_stays, .ref a_p0_fewest, .ref a_p0_bowls, .ref a_p0_has, .ref a_p0_goesOn, .ref a_p0_isThere, .ref a_p0_isThereThen, .ref a_p0_bestRow, .ref a_p0_lanes, .ref a_p0_sizes, .ref a_p0_cells, .int i_p0_torn]))] sz)) 0 0 (va_A [(a_p0, .inr (12, [.ref a_p0_st, .ref a_p0_isKept, .int i_p0_seats, .int i_p0_stirs, .ref a_p0_brings, .ref a_p0_need, .ref a_p0_draft, .int i_p0_dSeats, .int i_p0_dStirs, .ref a_p0_dStir, .ref a_p0_dNeed, .int i_p0_told, .int i_p0_highest, .ref a_p0_tape, .int i_p0_taped, .int i_p0_pos, .int i_p0_from, .int i_p0_sort, .int i_p0_value, .int i_p0_fault, .int i_p0_wrongAt, .ref a_p0_places, .ref a_p0_stirred, .ref a_p0_ways, .ref a_p0_waysThen, .ref a_p0_stays, .ref a_p0_fewest, .ref a_p0_bowls, .ref a_p0_has, .ref a_p0_goesOn, .ref a_p0_isThere, .ref a_p0_isThereThen, .ref a_p0_bestRow, .ref a_p0_lanes, .ref a_p0_sizes, .ref a_p0_cells, .int i_p0_torn]))] sz) := by
  refine Met.ofW (cc := cX12_lasts) (maxL := 6) (ret := (some .long)) (by decide) rfl ?_
  intro p e s m args below meth c s₁ B hml hv
  obtain ⟨rfl, hsz, hP, hK, hD0⟩ := hv
  have hx := B.exec
  have hb := B.bytes
  have hr := B.returns
  have hts := atoms_spec (ws := wsX12_lasts) B.pre
  have hown : s.vm.findClass RX12 = some m.cls := findClass_of_methodNamed B.named
  have hlocks := B.notSynchronized
  subst hsz
  have hD := hD0.self (sz := s.heap.size)
  generalize hAe : va_A [(a_p0, .inr (12, [.ref a_p0_st, .ref a_p0_isKept, .int i_p0_seats, .int i_p0_stirs, .ref a_p0_brings, .ref a_p0_need, .ref a_p0_draft, .int i_p0_dSeats, .int i_p0_dStirs, .ref a_p0_dStir, .ref a_p0_dNeed, .int i_p0_told, .int i_p0_highest, .ref a_p0_tape, .int i_p0_taped, .int i_p0_pos, .int i_p0_from, .int i_p0_sort, .int i_p0_value, .int i_p0_fault, .int i_p0_wrongAt, .ref a_p0_places, .ref a_p0_stirred, .ref a_p0_ways, .ref a_p0_waysThen, .ref a_p0_stays, .ref a_p0_fewest, .ref a_p0_bowls, .ref a_p0_has, .ref a_p0_goesOn, .ref a_p0_isThere, .ref a_p0_isThereThen, .ref a_p0_bestRow, .ref a_p0_lanes, .ref a_p0_sizes, .ref a_p0_cells, .int i_p0_torn]))] s.heap.size = A at hD ⊢
  have hA : ∀ q : Nat, s.heap.size ≤ q → A q := fun q h => by rw [← hAe]; exact Or.inr h
  clear hAe hD0
  have hS : va_S A s.heap s.heap [] := va_S.rf
  have hl := lv_entry ([.ref a_p0, .int x1, .int x2]) (n := 6) (Nat.le_of_ble_eq_true rfl)
  rw [lg_entry_eq]
  generalize (lg_sl ([.ref a_p0, .int x1, .int x2]) ++ List.replicate (6 - (lg_sl ([.ref a_p0, .int x1, .int x2])).length) Slot.unset).toArray = ls at hl ⊢
  have hl : lv_has ls 6 [(0, .ref a_p0), (1, .int x1), (2, .int x2)] := hl
  refine W_nameQ (fun Q hQ => ?_)
  obtain ⟨H, hH⟩ : ∃ H, H = s.heap := ⟨_, rfl⟩
  replace hS : va_S A s.heap H [] := by rw [hH]; exact hS
  replace hP : va_P D vwCl [(a_p0, .inr (12, [.ref a_p0_st, .ref a_p0_isKept, .int i_p0_seats, .int i_p0_stirs, .ref a_p0_brings, .ref a_p0_need, .ref a_p0_draft, .int i_p0_dSeats, .int i_p0_dStirs, .ref a_p0_dStir, .ref a_p0_dNeed, .int i_p0_told, .int i_p0_highest, .ref a_p0_tape, .int i_p0_taped, .int i_p0_pos, .int i_p0_from, .int i_p0_sort, .int i_p0_value, .int i_p0_fault, .int i_p0_wrongAt, .ref a_p0_places, .ref a_p0_stirred, .ref a_p0_ways, .ref a_p0_waysThen, .ref a_p0_stays, .ref a_p0_fewest, .ref a_p0_bowls, .ref a_p0_has, .ref a_p0_goesOn, .ref a_p0_isThere, .ref a_p0_isThereThen, .ref a_p0_bestRow, .ref a_p0_lanes, .ref a_p0_sizes, .ref a_p0_cells, .int i_p0_torn]))] H := by rw [hH]; exact hP
  rw [← hH]
  clear hH
  unfold f_X12_lasts at hf
  refine lv_iload_n hx hb dX12_lasts_0 rfl (lv_at hl 1 rfl) ?_
  refine lv_i2l hx hb dX12_lasts_1 rfl ?_
  refine lv_lconst (v := (0 : Int64)) hx hb dX12_lasts_2 (by decide) ?_
  refine lv_ldc2 (v := (10 : Int64)) hx hb hown (hts _ mwX12_lasts_0) dX12_lasts_3 ?_
  have hq := bd1_s hf
  clear hf
  obtain ⟨z1, hcall, hf⟩ := hq
  refine gcI (ws' := [(a_p0, .inr (12, [.ref a_p0_st, .ref a_p0_isKept, .int i_p0_seats, .int i_p0_stirs, .ref a_p0_brings, .ref a_p0_need, .ref a_p0_draft, .int i_p0_dSeats, .int i_p0_dStirs, .ref a_p0_dStir, .ref a_p0_dNeed, .int i_p0_told, .int i_p0_highest, .ref a_p0_tape, .int i_p0_taped, .int i_p0_pos, .int i_p0_from, .int i_p0_sort, .int i_p0_value, .int i_p0_fault, .int i_p0_wrongAt, .ref a_p0_places, .ref a_p0_stirred, .ref a_p0_ways, .ref a_p0_waysThen, .ref a_p0_stays, .ref a_p0_fewest, .ref a_p0_bowls, .ref a_p0_has, .ref a_p0_goesOn, .ref a_p0_isThere, .ref a_p0_isThereThen, .ref a_p0_bestRow, .ref a_p0_lanes, .ref a_p0_sizes, .ref a_p0_cells, .int i_p0_torn]))]) (va_runS (As := [.long (x1).toInt64, .long (0 : Int64), .long (10 : Int64)]) (rest := []) ⟨hx, hb, hml, hown, hts⟩ (c_X12_in (l := l) (D := D) (G := G) (sz := H.size) (x0 := (x1).toInt64) (x2 := (0 : Int64)) (x4 := (10 : Int64)) (r := z1) (hf := hcall)) (va_cwS 3 hts gX12_lasts_X12_in rfl rfl rfl (by decide +kernel) ⟨Nat.le_of_ble_eq_true rfl, Nat.le_of_ble_eq_true rfl⟩) (preG_S (hP.sub [] rfl) (hD.sub [] rfl rfl) hK) rfl rfl hl.1 rfl (lv_room (Nat.le_of_ble_eq_true rfl)) dX12_lasts_6 ⟨Nat.le_of_ble_eq_true rfl, Nat.le_of_ble_eq_true rfl⟩) hP hD hS hA [] [0] [0] rfl rfl rfl (by decide) rfl rfl rfl (fun H locs hP hD hS => ?_)
  clear hcall
  refine lv_if_eq (tgt := 19) hx hb dX12_lasts_9 (by decide) (fun cc => ?_) (fun cc => ?_)
  ·
    replace hf := ite_t cc hf
    clear cc
    refine lv_ldc2 (v := (-1 : Int64)) hx hb hown (hts _ mwX12_lasts_1) dX12_lasts_19 ?_
    obtain rfl := ou1 hf
    rw [hQ]
    exact W.lret hx hb hr (fun t ht hW => ⟨⟨_, (), rfl, rfl, by rw [ht]; exact hP, va_K.moved hW.alike hK, hD⟩, hS.F ht⟩) hS.2.2 dX12_lasts_22
  ·
    replace hf := ite_f cc hf
    clear cc
    refine lv_iload_n hx hb dX12_lasts_12 rfl (lv_at hl 2 rfl) ?_
    have hq := bd1_s hf
    clear hf
    obtain ⟨z2, hcall, hf⟩ := hq
    refine gcI (ws' := [(a_p0, .inr (12, [.ref a_p0_st, .ref a_p0_isKept, .int i_p0_seats, .int i_p0_stirs, .ref a_p0_brings, .ref a_p0_need, .ref a_p0_draft, .int i_p0_dSeats, .int i_p0_dStirs, .ref a_p0_dStir, .ref a_p0_dNeed, .int i_p0_told, .int i_p0_highest, .ref a_p0_tape, .int i_p0_taped, .int i_p0_pos, .int i_p0_from, .int i_p0_sort, .int i_p0_value, .int i_p0_fault, .int i_p0_wrongAt, .ref a_p0_places, .ref a_p0_stirred, .ref a_p0_ways, .ref a_p0_waysThen, .ref a_p0_stays, .ref a_p0_fewest, .ref a_p0_bowls, .ref a_p0_has, .ref a_p0_goesOn, .ref a_p0_isThere, .ref a_p0_isThereThen, .ref a_p0_bestRow, .ref a_p0_lanes, .ref a_p0_sizes, .ref a_p0_cells, .int i_p0_torn]))]) (va_runS (As := [.int x2]) (rest := []) ⟨hx, hb, hml, hown, hts⟩ (c_X12_isTold (l := l) (D := D) (G := G) (sz := H.size) (x0 := x2) (r := z2) (hf := hcall)) (va_cwS 1 hts gX12_lasts_X12_isTold rfl rfl rfl (by decide +kernel) ⟨Nat.le_of_ble_eq_true rfl, Nat.le_of_ble_eq_true rfl⟩) (preG_S (hP.sub [] rfl) (hD.sub [] rfl rfl) hK) rfl rfl hl.1 rfl (lv_room (Nat.le_of_ble_eq_true rfl)) dX12_lasts_13 ⟨Nat.le_of_ble_eq_true rfl, Nat.le_of_ble_eq_true rfl⟩) hP hD hS hA [] [0] [0] rfl rfl rfl (by decide) rfl rfl rfl (fun H locs hP hD hS => ?_)
    clear hcall
    refine lv_if_ne (tgt := 23) hx hb dX12_lasts_16 (by decide) (fun cc => ?_) (fun cc => ?_)
    ·
      replace hf := ite_f cc hf
      clear cc
      refine lv_aload_n hx hb dX12_lasts_23 rfl (lv_at hl 0 rfl) ?_
      refine va_get (D := D) (ci := 12) (v := .int i_p0_stirs) (C := RX12) (T := TX12) (N := 37) hx hb hts inX12_lasts_X12 hown hK hP 0 rfl rfl 3 (by decide) (hts _ mwX12_lasts_3) (fun _ h9 => h9) rfl dX12_lasts_24 ?_
      refine lv_if_ne (tgt := 34) hx hb dX12_lasts_27 (by decide) (fun cc => ?_) (fun cc => ?_)
      ·
        replace hf := ite_f cc hf
        clear cc
        refine lv_aload_n hx hb dX12_lasts_34 rfl (lv_at hl 0 rfl) ?_
        cases hf
      ·
        replace hf := ite_t cc hf
        clear cc
        refine lv_ldc2 (v := (-2 : Int64)) hx hb hown (hts _ mwX12_lasts_4) dX12_lasts_30 ?_
        obtain rfl := ou1 hf
        rw [hQ]
        exact W.lret hx hb hr (fun t ht hW => ⟨⟨_, (), rfl, rfl, by rw [ht]; exact hP, va_K.moved hW.alike hK, hD⟩, hS.F ht⟩) hS.2.2 dX12_lasts_33
    ·
      replace hf := ite_t cc hf
      clear cc
      refine lv_ldc2 (v := (-1 : Int64)) hx hb hown (hts _ mwX12_lasts_1) dX12_lasts_19 ?_
      obtain rfl := ou1 hf
      rw [hQ]
      exact W.lret hx hb hr (fun t ht hW => ⟨⟨_, (), rfl, rfl, by rw [ht]; exact hP, va_K.moved hW.alike hK, hD⟩, hS.F ht⟩) hS.2.2 dX12_lasts_22

noncomputable def f_X12_stateNow (v_p0_st : (Nat → Int32)) : Option (Int32) := (ck (ixB (7 : Int32) 152) (ck (ixB (8 : Int32) 152) (some (((7 : Int32) * (v_p0_st ((7 : Int32)).toNatClampNeg)) + (v_p0_st ((8 : Int32)).toNatClampNeg)))))
abbrev rm_X12_stateNow : Room := { frames := 0, cells := 0, slots := 0, locals := 0 }
theorem inX12_stateNow_X12 : ∀ w ∈ wsX120, w ∈ wsX12_stateNow := by decide +kernel
theorem mwX12_stateNow_1 : Cond.fieldLink RX12 7 "LadleKingsModel" "st" "[I" ∈ wsX12_stateNow := by decide +kernel
set_option maxHeartbeats 8000000 in
set_option maxRecDepth 100000 in
theorem c_X12_stateNow (l : Launch) (D : va_G) (G : Nat → ClassId) (sz : Nat) (a_p0 : Nat) (a_p0_st : Nat) (a_p0_isKept : Nat) (a_p0_brings : Nat) (a_p0_need : Nat) (a_p0_draft : Nat) (a_p0_dStir : Nat) (a_p0_dNeed : Nat) (a_p0_tape : Nat) (a_p0_places : Nat) (a_p0_stirred : Nat) (a_p0_ways : Nat) (a_p0_waysThen : Nat) (a_p0_stays : Nat) (a_p0_fewest : Nat) (a_p0_bowls : Nat) (a_p0_has : Nat) (a_p0_goesOn : Nat) (a_p0_isThere : Nat) (a_p0_isThereThen : Nat) (a_p0_bestRow : Nat) (a_p0_lanes : Nat) (a_p0_sizes : Nat) (a_p0_cells : Nat) (i_p0_seats : Int32) (i_p0_stirs : Int32) (i_p0_dSeats : Int32) (i_p0_dStirs : Int32) (i_p0_told : Int32) (i_p0_highest : Int32) (i_p0_taped : Int32) (i_p0_pos : Int32) (i_p0_from : Int32) (i_p0_sort : Int32) (i_p0_value : Int32) (i_p0_fault : Int32) (i_p0_wrongAt : Int32) (i_p0_torn : Int32) (v_p0_st : (Nat → Int32)) (r : Int32) (hf : f_X12_stateNow v_p0_st = some r) : Met l yX12_stateNow wsX12_stateNow rm_X12_stateNow (pcG D G [.ref a_p0] sz [(a_p0, .inr (12, [.ref a_p0_st, .ref a_p0_isKept, .int i_p0_seats, .int i_p0_stirs, .ref a_p0_brings, .ref a_p0_need, .ref a_p0_draft, .int i_p0_dSeats, .int i_p0_dStirs, .ref a_p0_dStir, .ref a_p0_dNeed, .int i_p0_told, .int i_p0_highest, .ref a_p0_tape, .int i_p0_taped, .int i_p0_pos, .int i_p0_from, .int i_p0_sort, .int i_p0_value, .int i_p0_fault, .int i_p0_wrongAt, .ref a_p0_places, .ref a_p0_stirred, .ref a_p0_ways, .ref a_p0_waysThen, .ref a_p0_stays, .ref a_p0_fewest, .ref a_p0_bowls, .ref a_p0_has, .ref a_p0_goesOn, .ref a_p0_isThere, .ref a_p0_isThereThen, .ref a_p0_bestRow, .ref a_p0_lanes, .ref a_p0_sizes, .ref a_p0_cells, .int i_p0_torn])), (a_p0_st, .inl (G 1, 152, .inl v_p0_st))]) (qcI D G r [(a_p0, .inr (12, [.ref a_p0_st, .ref a_p0_isKept, .int i_p0_seats, .int i_p0_stirs, .ref a_p0_brings, .ref a_p0_need, .ref a_p0_draft, .int i_p0_dSeats, .int i_p0_dStirs, .ref a_p0_dStir, .ref a_p0_dNeed, .int i_p0_told, .int i_p0_highest, .ref a_p0_tape, .int i_p0_taped, .int i_p0_pos, .int i_p0_from, .int i_p0_sort, .int i_p0_value, .int i_p0_fault, .int i_p0_wrongAt, .ref a_p0_places, .ref a_p0_stirred, .ref a_p0_ways, .ref a_p0_waysThen, .ref a_p0_stays, .ref a_p0_fewest, .ref a_p0_bowls, .ref a_p0_has, .ref a_p0_goesOn, .ref a_p0_isThere, .ref a_p0_isThereThen, .ref a_p0_bestRow, .ref a_p0_lanes, .ref a_p0_sizes, .ref a_p0_cells, .int i_p0_torn])), (a_p0_st, .inl (G 1, 152, .inl v_p0_st))] (va_A [(a_p0, .inr (12, [.ref a_p0_st, .ref a_p0_isKept, .int i_p0_seats, .int i_p0_stirs, .ref a_p0_brings, .ref a_p0_need, .ref a_p0_draft, .int i_p0_dSeats, .int i_p0_dStirs, .ref a_p0_dStir, .ref a_p0_dNeed, .int i_p0_told, .int i_p0_highest, .ref a_p0_tape, .int i_p0_taped, .int i_p0_pos, .int i_p0_from, .int i_p0_sort, .int i_p0_value, .int i_p0_fault, .int i_p0_wrongAt, .ref a_p0_places, .ref a_p0_stirred, .ref a_p0_ways, .ref a_p0_waysThen, .ref a_p0_stays, .ref a_p0_fewest, .ref a_p0_bowls, .ref a_p0_has, .ref a_p0_goesOn, .ref a_p0_isThere, .ref a_p0_isThereThen, .ref a_p0_bestRow, .ref a_p0_lanes, .ref a_p0_sizes, .ref a_p0_cells, .int i_p0_torn])), (a_p0_st, .inl (G 1, 152, .inl v_p0_st))] sz)) 0 0 (va_A [(a_p0, .inr (12, [.ref a_p0_st, .ref a_p0_isKept, .int i_p0_seats, .int i_p0_stirs, .ref a_p0_brings, .ref a_p0_need, .ref a_p0_draft, .int i_p0_dSeats, .int i_p0_dStirs, .ref a_p0_dStir, .ref a_p0_dNeed, .int i_p0_told, .int i_p0_highest, .ref a_p0_tape, .int i_p0_taped, .int i_p0_pos, .int i_p0_from, .int i_p0_sort, .int i_p0_value, .int i_p0_fault, .int i_p0_wrongAt, .ref a_p0_places, .ref a_p0_stirred, .ref a_p0_ways, .ref a_p0_waysThen, .ref a_p0_stays, .ref a_p0_fewest, .ref a_p0_bowls, .ref a_p0_has, .ref a_p0_goesOn, .ref a_p0_isThere, .ref a_p0_isThereThen, .ref a_p0_bestRow, .ref a_p0_lanes, .ref a_p0_sizes, .ref a_p0_cells, .int i_p0_torn])), (a_p0_st, .inl (G 1, 152, .inl v_p0_st))] sz) := by
  refine Met.ofW (cc := cX12_stateNow) (maxL := 1) (ret := (some .int)) (by decide) rfl ?_
  intro p e s m args below meth c s₁ B hml hv
  obtain ⟨rfl, hsz, hP, hK, hD0⟩ := hv
  have hx := B.exec
  have hb := B.bytes
  have hr := B.returns
  have hts := atoms_spec (ws := wsX12_stateNow) B.pre
  have hown : s.vm.findClass RX12 = some m.cls := findClass_of_methodNamed B.named
  have hlocks := B.notSynchronized
  subst hsz
  have hD := hD0.self (sz := s.heap.size)
  generalize hAe : va_A [(a_p0, .inr (12, [.ref a_p0_st, .ref a_p0_isKept, .int i_p0_seats, .int i_p0_stirs, .ref a_p0_brings, .ref a_p0_need, .ref a_p0_draft, .int i_p0_dSeats, .int i_p0_dStirs, .ref a_p0_dStir, .ref a_p0_dNeed, .int i_p0_told, .int i_p0_highest, .ref a_p0_tape, .int i_p0_taped, .int i_p0_pos, .int i_p0_from, .int i_p0_sort, .int i_p0_value, .int i_p0_fault, .int i_p0_wrongAt, .ref a_p0_places, .ref a_p0_stirred, .ref a_p0_ways, .ref a_p0_waysThen, .ref a_p0_stays, .ref a_p0_fewest, .ref a_p0_bowls, .ref a_p0_has, .ref a_p0_goesOn, .ref a_p0_isThere, .ref a_p0_isThereThen, .ref a_p0_bestRow, .ref a_p0_lanes, .ref a_p0_sizes, .ref a_p0_cells, .int i_p0_torn])), (a_p0_st, .inl (G 1, 152, .inl v_p0_st))] s.heap.size = A at hD ⊢
  have hA : ∀ q : Nat, s.heap.size ≤ q → A q := fun q h => by rw [← hAe]; exact Or.inr h
  clear hAe hD0
  have hS : va_S A s.heap s.heap [] := va_S.rf
  have hl := lv_entry ([.ref a_p0]) (n := 1) (Nat.le_of_ble_eq_true rfl)
  rw [lg_entry_eq]
  generalize (lg_sl ([.ref a_p0]) ++ List.replicate (1 - (lg_sl ([.ref a_p0])).length) Slot.unset).toArray = ls at hl ⊢
  have hl : lv_has ls 1 [(0, .ref a_p0)] := hl
  refine W_nameQ (fun Q hQ => ?_)
  obtain ⟨H, hH⟩ : ∃ H, H = s.heap := ⟨_, rfl⟩
  replace hS : va_S A s.heap H [] := by rw [hH]; exact hS
  replace hP : va_P D vwCl [(a_p0, .inr (12, [.ref a_p0_st, .ref a_p0_isKept, .int i_p0_seats, .int i_p0_stirs, .ref a_p0_brings, .ref a_p0_need, .ref a_p0_draft, .int i_p0_dSeats, .int i_p0_dStirs, .ref a_p0_dStir, .ref a_p0_dNeed, .int i_p0_told, .int i_p0_highest, .ref a_p0_tape, .int i_p0_taped, .int i_p0_pos, .int i_p0_from, .int i_p0_sort, .int i_p0_value, .int i_p0_fault, .int i_p0_wrongAt, .ref a_p0_places, .ref a_p0_stirred, .ref a_p0_ways, .ref a_p0_waysThen, .ref a_p0_stays, .ref a_p0_fewest, .ref a_p0_bowls, .ref a_p0_has, .ref a_p0_goesOn, .ref a_p0_isThere, .ref a_p0_isThereThen, .ref a_p0_bestRow, .ref a_p0_lanes, .ref a_p0_sizes, .ref a_p0_cells, .int i_p0_torn])), (a_p0_st, .inl (G 1, 152, .inl v_p0_st))] H := by rw [hH]; exact hP
  rw [← hH]
  clear hH
  unfold f_X12_stateNow at hf
  refine lv_bipush (v := (7 : Int32)) hx hb dX12_stateNow_0 (by decide) ?_
  refine lv_aload_n hx hb dX12_stateNow_2 rfl (lv_at hl 0 rfl) ?_
  refine va_get (D := D) (ci := 12) (v := .ref a_p0_st) (C := RX12) (T := TX12) (N := 37) hx hb hts inX12_stateNow_X12 hown hK hP 0 rfl rfl 0 (by decide) (hts _ mwX12_stateNow_1) (fun _ h9 => h9) rfl dX12_stateNow_3 ?_
  refine lv_bipush (v := (7 : Int32)) hx hb dX12_stateNow_6 (by decide) ?_
  have hc := ck_c hf
  replace hf := ck_r hf
  refine va_iald hx hb hK hP 1 1 rfl rfl (ixB_in hc) dX12_stateNow_8 ?_
  clear hc
  refine lv_imul hx hb dX12_stateNow_9 ?_
  refine lv_aload_n hx hb dX12_stateNow_10 rfl (lv_at hl 0 rfl) ?_
  refine va_get (D := D) (ci := 12) (v := .ref a_p0_st) (C := RX12) (T := TX12) (N := 37) hx hb hts inX12_stateNow_X12 hown hK hP 0 rfl rfl 0 (by decide) (hts _ mwX12_stateNow_1) (fun _ h9 => h9) rfl dX12_stateNow_11 ?_
  refine lv_bipush (v := (8 : Int32)) hx hb dX12_stateNow_14 (by decide) ?_
  have hc := ck_c hf
  replace hf := ck_r hf
  refine va_iald hx hb hK hP 1 1 rfl rfl (ixB_in hc) dX12_stateNow_16 ?_
  clear hc
  refine lv_iadd hx hb dX12_stateNow_17 ?_
  obtain rfl := ou1 hf
  rw [hQ]
  exact W.iret hx hb hr (fun t ht hW => ⟨⟨_, (), rfl, rfl, by rw [ht]; exact hP, va_K.moved hW.alike hK, hD⟩, hS.F ht⟩) hS.2.2 dX12_stateNow_18

noncomputable def f_X12_reign (i_p0_stirs : Int32) (x1 : Int32) (x2 : Int32) : Option (Int32) := (bd1 (f_X12_in (x1).toInt64 (1 : Int64) (10 : Int64)) (fun (z1 : Int32) => (if z1 = 0 then (some (-1 : Int32)) else (jn (if i_p0_stirs = 0 then (some (-2 : Int32)) else none) (fun (J2 : Option (Int32)) => (if x2 = 0 then (J2) else (bd1 (f_X12_in (x2).toInt64 (10 : Int64) (19 : Int64)) (fun (z3 : Int32) => (if z3 = 0 then (some (-1 : Int32)) else (J2))))))))))
abbrev rm_X12_reign : Room := { frames := 1, cells := 0, slots := 0, locals := 25 }
theorem mwX12_reign_0 : Cond.constantLong RX12 236 (10) ∈ wsX12_reign := by decide +kernel
theorem inX12_reign_X12 : ∀ w ∈ wsX120, w ∈ wsX12_reign := by decide +kernel
theorem mwX12_reign_2 : Cond.fieldLink RX12 103 "LadleKingsModel" "stirs" "I" ∈ wsX12_reign := by decide +kernel
theorem mwX12_reign_3 : Cond.constantLong RX12 263 (19) ∈ wsX12_reign := by decide +kernel
set_option maxHeartbeats 8000000 in
set_option maxRecDepth 100000 in
theorem c_X12_reign (l : Launch) (D : va_G) (G : Nat → ClassId) (sz : Nat) (a_p0 : Nat) (a_p0_st : Nat) (a_p0_isKept : Nat) (a_p0_brings : Nat) (a_p0_need : Nat) (a_p0_draft : Nat) (a_p0_dStir : Nat) (a_p0_dNeed : Nat) (a_p0_tape : Nat) (a_p0_places : Nat) (a_p0_stirred : Nat) (a_p0_ways : Nat) (a_p0_waysThen : Nat) (a_p0_stays : Nat) (a_p0_fewest : Nat) (a_p0_bowls : Nat) (a_p0_has : Nat) (a_p0_goesOn : Nat) (a_p0_isThere : Nat) (a_p0_isThereThen : Nat) (a_p0_bestRow : Nat) (a_p0_lanes : Nat) (a_p0_sizes : Nat) (a_p0_cells : Nat) (i_p0_seats : Int32) (i_p0_stirs : Int32) (i_p0_dSeats : Int32) (i_p0_dStirs : Int32) (i_p0_told : Int32) (i_p0_highest : Int32) (i_p0_taped : Int32) (i_p0_pos : Int32) (i_p0_from : Int32) (i_p0_sort : Int32) (i_p0_value : Int32) (i_p0_fault : Int32) (i_p0_wrongAt : Int32) (i_p0_torn : Int32) (x1 : Int32) (x2 : Int32) (r : Int32) (hf : f_X12_reign i_p0_stirs x1 x2 = some r) : Met l yX12_reign wsX12_reign rm_X12_reign (pcG D G [.ref a_p0, .int x1, .int x2] sz [(a_p0, .inr (12, [.ref a_p0_st, .ref a_p0_isKept, .int i_p0_seats, .int i_p0_stirs, .ref a_p0_brings, .ref a_p0_need, .ref a_p0_draft, .int i_p0_dSeats, .int i_p0_dStirs, .ref a_p0_dStir, .ref a_p0_dNeed, .int i_p0_told, .int i_p0_highest, .ref a_p0_tape, .int i_p0_taped, .int i_p0_pos, .int i_p0_from, .int i_p0_sort, .int i_p0_value, .int i_p0_fault, .int i_p0_wrongAt, .ref a_p0_places, .ref a_p0_stirred, .ref a_p0_ways, .ref a_p0_waysThen, .ref a_p0_stays, .ref a_p0_fewest, .ref a_p0_bowls, .ref a_p0_has, .ref a_p0_goesOn, .ref a_p0_isThere, .ref a_p0_isThereThen, .ref a_p0_bestRow, .ref a_p0_lanes, .ref a_p0_sizes, .ref a_p0_cells, .int i_p0_torn]))]) (qcI D G r [(a_p0, .inr (12, [.ref a_p0_st, .ref a_p0_isKept, .int i_p0_seats, .int i_p0_stirs, .ref a_p0_brings, .ref a_p0_need, .ref a_p0_draft, .int i_p0_dSeats, .int i_p0_dStirs, .ref a_p0_dStir, .ref a_p0_dNeed, .int i_p0_told, .int i_p0_highest, .ref a_p0_tape, .int i_p0_taped, .int i_p0_pos, .int i_p0_from, .int i_p0_sort, .int i_p0_value, .int i_p0_fault, .int i_p0_wrongAt, .ref a_p0_places, .ref a_p0_stirred, .ref a_p0_ways, .ref a_p0_waysThen, .ref a_p0_stays, .ref a_p0_fewest, .ref a_p0_bowls, .ref a_p0_has, .ref a_p0_goesOn, .ref a_p0_isThere, .ref a_p0_isThereThen, .ref a_p0_bestRow, .ref a_p0_lanes, .ref a_p0_sizes, .ref a_p0_cells, .int i_p0_torn]))] (va_A [(a_p0, .inr (12, [.ref a_p0_st, .ref a_p0_isKept, .int i_p0_seats, .int i_p0_stirs, .ref a_p0_brings, .ref a_p0_need, .ref a_p0_draft, .int i_p0_dSeats, .int i_p0_dStirs, .ref a_p0_dStir, .ref a_p0_dNeed, .int i_p0_told, .int i_p0_highest, .ref a_p0_tape, .int i_p0_taped, .int i_p0_pos, .int i_p0_from, .int i_p0_sort, .int i_p0_value, .int i_p0_fault, .int i_p0_wrongAt, .ref a_p0_places, .ref a_p0_stirred, .ref a_p0_ways, .ref a_p0_waysThen, .ref a_p0_stays, .ref a_p0_fewest, .ref a_p0_bowls, .ref a_p0_has, .ref a_p0_goesOn, .ref a_p0_isThere, .ref a_p0_isThereThen, .ref a_p0_bestRow, .ref a_p0_lanes, .ref a_p0_sizes, .ref a_p0_cells, .int i_p0_torn]))] sz)) 0 0 (va_A [(a_p0, .inr (12, [.ref a_p0_st, .ref a_p0_isKept, .int i_p0_seats, .int i_p0_stirs, .ref a_p0_brings, .ref a_p0_need, .ref a_p0_draft, .int i_p0_dSeats, .int i_p0_dStirs, .ref a_p0_dStir, .ref a_p0_dNeed, .int i_p0_told, .int i_p0_highest, .ref a_p0_tape, .int i_p0_taped, .int i_p0_pos, .int i_p0_from, .int i_p0_sort, .int i_p0_value, .int i_p0_fault, .int i_p0_wrongAt, .ref a_p0_places, .ref a_p0_stirred, .ref a_p0_ways, .ref a_p0_waysThen, .ref a_p0_stays, .ref a_p0_fewest, .ref a_p0_bowls, .ref a_p0_has, .ref a_p0_goesOn, .ref a_p0_isThere, .ref a_p0_isThereThen, .ref a_p0_bestRow, .ref a_p0_lanes, .ref a_p0_sizes, .ref a_p0_cells, .int i_p0_torn]))] sz) := by
  refine Met.ofW (cc := cX12_reign) (maxL := 10) (ret := (some .int)) (by decide) rfl ?_
  intro p e s m args below meth c s₁ B hml hv
  obtain ⟨rfl, hsz, hP, hK, hD0⟩ := hv
  have hx := B.exec
  have hb := B.bytes
  have hr := B.returns
  have hts := atoms_spec (ws := wsX12_reign) B.pre
  have hown : s.vm.findClass RX12 = some m.cls := findClass_of_methodNamed B.named
  have hlocks := B.notSynchronized
  subst hsz
  have hD := hD0.self (sz := s.heap.size)
  generalize hAe : va_A [(a_p0, .inr (12, [.ref a_p0_st, .ref a_p0_isKept, .int i_p0_seats, .int i_p0_stirs, .ref a_p0_brings, .ref a_p0_need, .ref a_p0_draft, .int i_p0_dSeats, .int i_p0_dStirs, .ref a_p0_dStir, .ref a_p0_dNeed, .int i_p0_told, .int i_p0_highest, .ref a_p0_tape, .int i_p0_taped, .int i_p0_pos, .int i_p0_from, .int i_p0_sort, .int i_p0_value, .int i_p0_fault, .int i_p0_wrongAt, .ref a_p0_places, .ref a_p0_stirred, .ref a_p0_ways, .ref a_p0_waysThen, .ref a_p0_stays, .ref a_p0_fewest, .ref a_p0_bowls, .ref a_p0_has, .ref a_p0_goesOn, .ref a_p0_isThere, .ref a_p0_isThereThen, .ref a_p0_bestRow, .ref a_p0_lanes, .ref a_p0_sizes, .ref a_p0_cells, .int i_p0_torn]))] s.heap.size = A at hD ⊢
  have hA : ∀ q : Nat, s.heap.size ≤ q → A q := fun q h => by rw [← hAe]; exact Or.inr h
  clear hAe hD0
  have hS : va_S A s.heap s.heap [] := va_S.rf
  have hl := lv_entry ([.ref a_p0, .int x1, .int x2]) (n := 10) (Nat.le_of_ble_eq_true rfl)
  rw [lg_entry_eq]
  generalize (lg_sl ([.ref a_p0, .int x1, .int x2]) ++ List.replicate (10 - (lg_sl ([.ref a_p0, .int x1, .int x2])).length) Slot.unset).toArray = ls at hl ⊢
  have hl : lv_has ls 10 [(0, .ref a_p0), (1, .int x1), (2, .int x2)] := hl
  refine W_nameQ (fun Q hQ => ?_)
  obtain ⟨H, hH⟩ : ∃ H, H = s.heap := ⟨_, rfl⟩
  replace hS : va_S A s.heap H [] := by rw [hH]; exact hS
  replace hP : va_P D vwCl [(a_p0, .inr (12, [.ref a_p0_st, .ref a_p0_isKept, .int i_p0_seats, .int i_p0_stirs, .ref a_p0_brings, .ref a_p0_need, .ref a_p0_draft, .int i_p0_dSeats, .int i_p0_dStirs, .ref a_p0_dStir, .ref a_p0_dNeed, .int i_p0_told, .int i_p0_highest, .ref a_p0_tape, .int i_p0_taped, .int i_p0_pos, .int i_p0_from, .int i_p0_sort, .int i_p0_value, .int i_p0_fault, .int i_p0_wrongAt, .ref a_p0_places, .ref a_p0_stirred, .ref a_p0_ways, .ref a_p0_waysThen, .ref a_p0_stays, .ref a_p0_fewest, .ref a_p0_bowls, .ref a_p0_has, .ref a_p0_goesOn, .ref a_p0_isThere, .ref a_p0_isThereThen, .ref a_p0_bestRow, .ref a_p0_lanes, .ref a_p0_sizes, .ref a_p0_cells, .int i_p0_torn]))] H := by rw [hH]; exact hP
  rw [← hH]
  clear hH
  unfold f_X12_reign at hf
  refine lv_iload_n hx hb dX12_reign_0 rfl (lv_at hl 1 rfl) ?_
  refine lv_i2l hx hb dX12_reign_1 rfl ?_
  refine lv_lconst (v := (1 : Int64)) hx hb dX12_reign_2 (by decide) ?_
  refine lv_ldc2 (v := (10 : Int64)) hx hb hown (hts _ mwX12_reign_0) dX12_reign_3 ?_
  have hq := bd1_s hf
  clear hf
  obtain ⟨z1, hcall, hf⟩ := hq
  refine gcI (ws' := [(a_p0, .inr (12, [.ref a_p0_st, .ref a_p0_isKept, .int i_p0_seats, .int i_p0_stirs, .ref a_p0_brings, .ref a_p0_need, .ref a_p0_draft, .int i_p0_dSeats, .int i_p0_dStirs, .ref a_p0_dStir, .ref a_p0_dNeed, .int i_p0_told, .int i_p0_highest, .ref a_p0_tape, .int i_p0_taped, .int i_p0_pos, .int i_p0_from, .int i_p0_sort, .int i_p0_value, .int i_p0_fault, .int i_p0_wrongAt, .ref a_p0_places, .ref a_p0_stirred, .ref a_p0_ways, .ref a_p0_waysThen, .ref a_p0_stays, .ref a_p0_fewest, .ref a_p0_bowls, .ref a_p0_has, .ref a_p0_goesOn, .ref a_p0_isThere, .ref a_p0_isThereThen, .ref a_p0_bestRow, .ref a_p0_lanes, .ref a_p0_sizes, .ref a_p0_cells, .int i_p0_torn]))]) (va_runS (As := [.long (x1).toInt64, .long (1 : Int64), .long (10 : Int64)]) (rest := []) ⟨hx, hb, hml, hown, hts⟩ (c_X12_in (l := l) (D := D) (G := G) (sz := H.size) (x0 := (x1).toInt64) (x2 := (1 : Int64)) (x4 := (10 : Int64)) (r := z1) (hf := hcall)) (va_cwS 3 hts gX12_reign_X12_in rfl rfl rfl (by decide +kernel) ⟨Nat.le_of_ble_eq_true rfl, Nat.le_of_ble_eq_true rfl⟩) (preG_S (hP.sub [] rfl) (hD.sub [] rfl rfl) hK) rfl rfl hl.1 rfl (lv_room (Nat.le_of_ble_eq_true rfl)) dX12_reign_6 ⟨Nat.le_of_ble_eq_true rfl, Nat.le_of_ble_eq_true rfl⟩) hP hD hS hA [] [0] [0] rfl rfl rfl (by decide) rfl rfl rfl (fun H locs hP hD hS => ?_)
  clear hcall
  refine lv_if_eq (tgt := 30) hx hb dX12_reign_9 (by decide) (fun cc => ?_) (fun cc => ?_)
  ·
    replace hf := ite_t cc hf
    clear cc
    refine lv_iconst (v := (-1 : Int32)) hx hb dX12_reign_30 (by decide) ?_
    obtain rfl := ou1 hf
    rw [hQ]
    exact W.iret hx hb hr (fun t ht hW => ⟨⟨_, (), rfl, rfl, by rw [ht]; exact hP, va_K.moved hW.alike hK, hD⟩, hS.F ht⟩) hS.2.2 dX12_reign_31
  ·
    replace hf := ite_f cc hf
    clear cc
    refine lv_iload_n hx hb dX12_reign_12 rfl (lv_at hl 2 rfl) ?_
    have hq := jn_i hf
    clear hf
    obtain ⟨J2, eJ2, hf⟩ := hq
    have hJ2 : ∀  (ls : Array Slot) (H : Heap) (locs : List Loc), lv_has ls 10 [(0, .ref a_p0), (1, .int x1), (2, .int x2)] → va_P D vwCl [(a_p0, .inr (12, [.ref a_p0_st, .ref a_p0_isKept, .int i_p0_seats, .int i_p0_stirs, .ref a_p0_brings, .ref a_p0_need, .ref a_p0_draft, .int i_p0_dSeats, .int i_p0_dStirs, .ref a_p0_dStir, .ref a_p0_dNeed, .int i_p0_told, .int i_p0_highest, .ref a_p0_tape, .int i_p0_taped, .int i_p0_pos, .int i_p0_from, .int i_p0_sort, .int i_p0_value, .int i_p0_fault, .int i_p0_wrongAt, .ref a_p0_places, .ref a_p0_stirred, .ref a_p0_ways, .ref a_p0_waysThen, .ref a_p0_stays, .ref a_p0_fewest, .ref a_p0_bowls, .ref a_p0_has, .ref a_p0_goesOn, .ref a_p0_isThere, .ref a_p0_isThereThen, .ref a_p0_bestRow, .ref a_p0_lanes, .ref a_p0_sizes, .ref a_p0_cells, .int i_p0_torn]))] H → va_D A [(a_p0, .inr (12, [.ref a_p0_st, .ref a_p0_isKept, .int i_p0_seats, .int i_p0_stirs, .ref a_p0_brings, .ref a_p0_need, .ref a_p0_draft, .int i_p0_dSeats, .int i_p0_dStirs, .ref a_p0_dStir, .ref a_p0_dNeed, .int i_p0_told, .int i_p0_highest, .ref a_p0_tape, .int i_p0_taped, .int i_p0_pos, .int i_p0_from, .int i_p0_sort, .int i_p0_value, .int i_p0_fault, .int i_p0_wrongAt, .ref a_p0_places, .ref a_p0_stirred, .ref a_p0_ways, .ref a_p0_waysThen, .ref a_p0_stays, .ref a_p0_fewest, .ref a_p0_bowls, .ref a_p0_has, .ref a_p0_goesOn, .ref a_p0_isThere, .ref a_p0_isThereThen, .ref a_p0_bestRow, .ref a_p0_lanes, .ref a_p0_sizes, .ref a_p0_cells, .int i_p0_torn]))] → va_S A s.heap H locs → J2  = some r → W p l e rm_X12_reign s m ([.ref a_p0, .int x1, .int x2] : List Value).toArray below meth c H locs 0 0 Q (F0 m 32 ls []) := by
      clear hf hl hP hD hS
      intro  ls H locs hl hP hD hS hf
      replace hf := jn0_s eJ2 hf
      refine lv_aload_n hx hb dX12_reign_32 rfl (lv_at hl 0 rfl) ?_
      refine va_get (D := D) (ci := 12) (v := .int i_p0_stirs) (C := RX12) (T := TX12) (N := 37) hx hb hts inX12_reign_X12 hown hK hP 0 rfl rfl 3 (by decide) (hts _ mwX12_reign_2) (fun _ h9 => h9) rfl dX12_reign_33 ?_
      refine lv_if_ne (tgt := 42) hx hb dX12_reign_36 (by decide) (fun cc => ?_) (fun cc => ?_)
      ·
        replace hf := ite_f cc hf
        clear cc
        refine lv_aload_n hx hb dX12_reign_42 rfl (lv_at hl 0 rfl) ?_
        refine lv_iload_n hx hb dX12_reign_43 rfl (lv_at hl 1 rfl) ?_
        cases hf
      ·
        replace hf := ite_t cc hf
        clear cc
        refine lv_bipush (v := (-2 : Int32)) hx hb dX12_reign_39 (by decide) ?_
        obtain rfl := ou1 hf
        rw [hQ]
        exact W.iret hx hb hr (fun t ht hW => ⟨⟨_, (), rfl, rfl, by rw [ht]; exact hP, va_K.moved hW.alike hK, hD⟩, hS.F ht⟩) hS.2.2 dX12_reign_41
    refine lv_if_eq (tgt := 32) hx hb dX12_reign_13 (by decide) (fun cc => ?_) (fun cc => ?_)
    ·
      replace hf := ite_t cc hf
      clear cc
      exact hJ2  _ _ _ (lv_sub hl [0, 1, 2] rfl) hP hD hS hf
    ·
      replace hf := ite_f cc hf
      clear cc
      refine lv_iload_n hx hb dX12_reign_16 rfl (lv_at hl 2 rfl) ?_
      refine lv_i2l hx hb dX12_reign_17 rfl ?_
      refine lv_ldc2 (v := (10 : Int64)) hx hb hown (hts _ mwX12_reign_0) dX12_reign_18 ?_
      refine lv_ldc2 (v := (19 : Int64)) hx hb hown (hts _ mwX12_reign_3) dX12_reign_21 ?_
      have hq := bd1_s hf
      clear hf
      obtain ⟨z3, hcall, hf⟩ := hq
      refine gcI (ws' := [(a_p0, .inr (12, [.ref a_p0_st, .ref a_p0_isKept, .int i_p0_seats, .int i_p0_stirs, .ref a_p0_brings, .ref a_p0_need, .ref a_p0_draft, .int i_p0_dSeats, .int i_p0_dStirs, .ref a_p0_dStir, .ref a_p0_dNeed, .int i_p0_told, .int i_p0_highest, .ref a_p0_tape, .int i_p0_taped, .int i_p0_pos, .int i_p0_from, .int i_p0_sort, .int i_p0_value, .int i_p0_fault, .int i_p0_wrongAt, .ref a_p0_places, .ref a_p0_stirred, .ref a_p0_ways, .ref a_p0_waysThen, .ref a_p0_stays, .ref a_p0_fewest, .ref a_p0_bowls, .ref a_p0_has, .ref a_p0_goesOn, .ref a_p0_isThere, .ref a_p0_isThereThen, .ref a_p0_bestRow, .ref a_p0_lanes, .ref a_p0_sizes, .ref a_p0_cells, .int i_p0_torn]))]) (va_runS (As := [.long (x2).toInt64, .long (10 : Int64), .long (19 : Int64)]) (rest := []) ⟨hx, hb, hml, hown, hts⟩ (c_X12_in (l := l) (D := D) (G := G) (sz := H.size) (x0 := (x2).toInt64) (x2 := (10 : Int64)) (x4 := (19 : Int64)) (r := z3) (hf := hcall)) (va_cwS 3 hts gX12_reign_X12_in rfl rfl rfl (by decide +kernel) ⟨Nat.le_of_ble_eq_true rfl, Nat.le_of_ble_eq_true rfl⟩) (preG_S (hP.sub [] rfl) (hD.sub [] rfl rfl) hK) rfl rfl hl.1 rfl (lv_room (Nat.le_of_ble_eq_true rfl)) dX12_reign_24 ⟨Nat.le_of_ble_eq_true rfl, Nat.le_of_ble_eq_true rfl⟩) hP hD hS hA [] [0] [0] rfl rfl rfl (by decide) rfl rfl rfl (fun H locs hP hD hS => ?_)
      clear hcall
      refine lv_if_ne (tgt := 32) hx hb dX12_reign_27 (by decide) (fun cc => ?_) (fun cc => ?_)
      ·
        replace hf := ite_f cc hf
        clear cc
        exact hJ2  _ _ _ (lv_sub hl [0, 1, 2] rfl) hP hD hS hf
      ·
        replace hf := ite_t cc hf
        clear cc
        refine lv_iconst (v := (-1 : Int32)) hx hb dX12_reign_30 (by decide) ?_
        obtain rfl := ou1 hf
        rw [hQ]
        exact W.iret hx hb hr (fun t ht hW => ⟨⟨_, (), rfl, rfl, by rw [ht]; exact hP, va_K.moved hW.alike hK, hD⟩, hS.F ht⟩) hS.2.2 dX12_reign_31

noncomputable def f_X12_raise (i_p0_seats : Int32) (i_p0_stirs : Int32) (x1 : Int32) (x2 : Int32) : Option (Int32) := (bd1 (f_X12_isSeat i_p0_seats x1) (fun (z1 : Int32) => (if z1 = 0 then (some (-1 : Int32)) else (jn (if i_p0_stirs = 0 then (some (-2 : Int32)) else none) (fun (J2 : Option (Int32)) => (if x2 = 0 then (J2) else (bd1 (f_X12_in (x2).toInt64 (10 : Int64) (19 : Int64)) (fun (z3 : Int32) => (if z3 = 0 then (some (-1 : Int32)) else (J2))))))))))
abbrev rm_X12_raise : Room := { frames := 2, cells := 0, slots := 0, locals := 46 }
theorem inX12_raise_X12 : ∀ w ∈ wsX120, w ∈ wsX12_raise := by decide +kernel
theorem mwX12_raise_1 : Cond.fieldLink RX12 103 "LadleKingsModel" "stirs" "I" ∈ wsX12_raise := by decide +kernel
theorem mwX12_raise_2 : Cond.constantLong RX12 236 (10) ∈ wsX12_raise := by decide +kernel
theorem mwX12_raise_3 : Cond.constantLong RX12 263 (19) ∈ wsX12_raise := by decide +kernel
set_option maxHeartbeats 8000000 in
set_option maxRecDepth 100000 in
theorem c_X12_raise (l : Launch) (D : va_G) (G : Nat → ClassId) (sz : Nat) (a_p0 : Nat) (a_p0_st : Nat) (a_p0_isKept : Nat) (a_p0_brings : Nat) (a_p0_need : Nat) (a_p0_draft : Nat) (a_p0_dStir : Nat) (a_p0_dNeed : Nat) (a_p0_tape : Nat) (a_p0_places : Nat) (a_p0_stirred : Nat) (a_p0_ways : Nat) (a_p0_waysThen : Nat) (a_p0_stays : Nat) (a_p0_fewest : Nat) (a_p0_bowls : Nat) (a_p0_has : Nat) (a_p0_goesOn : Nat) (a_p0_isThere : Nat) (a_p0_isThereThen : Nat) (a_p0_bestRow : Nat) (a_p0_lanes : Nat) (a_p0_sizes : Nat) (a_p0_cells : Nat) (i_p0_seats : Int32) (i_p0_stirs : Int32) (i_p0_dSeats : Int32) (i_p0_dStirs : Int32) (i_p0_told : Int32) (i_p0_highest : Int32) (i_p0_taped : Int32) (i_p0_pos : Int32) (i_p0_from : Int32) (i_p0_sort : Int32) (i_p0_value : Int32) (i_p0_fault : Int32) (i_p0_wrongAt : Int32) (i_p0_torn : Int32) (x1 : Int32) (x2 : Int32) (r : Int32) (hf : f_X12_raise i_p0_seats i_p0_stirs x1 x2 = some r) : Met l yX12_raise wsX12_raise rm_X12_raise (pcG D G [.ref a_p0, .int x1, .int x2] sz [(a_p0, .inr (12, [.ref a_p0_st, .ref a_p0_isKept, .int i_p0_seats, .int i_p0_stirs, .ref a_p0_brings, .ref a_p0_need, .ref a_p0_draft, .int i_p0_dSeats, .int i_p0_dStirs, .ref a_p0_dStir, .ref a_p0_dNeed, .int i_p0_told, .int i_p0_highest, .ref a_p0_tape, .int i_p0_taped, .int i_p0_pos, .int i_p0_from, .int i_p0_sort, .int i_p0_value, .int i_p0_fault, .int i_p0_wrongAt, .ref a_p0_places, .ref a_p0_stirred, .ref a_p0_ways, .ref a_p0_waysThen, .ref a_p0_stays, .ref a_p0_fewest, .ref a_p0_bowls, .ref a_p0_has, .ref a_p0_goesOn, .ref a_p0_isThere, .ref a_p0_isThereThen, .ref a_p0_bestRow, .ref a_p0_lanes, .ref a_p0_sizes, .ref a_p0_cells, .int i_p0_torn]))]) (qcI D G r [(a_p0, .inr (12, [.ref a_p0_st, .ref a_p0_isKept, .int i_p0_seats, .int i_p0_stirs, .ref a_p0_brings, .ref a_p0_need, .ref a_p0_draft, .int i_p0_dSeats, .int i_p0_dStirs, .ref a_p0_dStir, .ref a_p0_dNeed, .int i_p0_told, .int i_p0_highest, .ref a_p0_tape, .int i_p0_taped, .int i_p0_pos, .int i_p0_from, .int i_p0_sort, .int i_p0_value, .int i_p0_fault, .int i_p0_wrongAt, .ref a_p0_places, .ref a_p0_stirred, .ref a_p0_ways, .ref a_p0_waysThen, .ref a_p0_stays, .ref a_p0_fewest, .ref a_p0_bowls, .ref a_p0_has, .ref a_p0_goesOn, .ref a_p0_isThere, .ref a_p0_isThereThen, .ref a_p0_bestRow, .ref a_p0_lanes, .ref a_p0_sizes, .ref a_p0_cells, .int i_p0_torn]))] (va_A [(a_p0, .inr (12, [.ref a_p0_st, .ref a_p0_isKept, .int i_p0_seats, .int i_p0_stirs, .ref a_p0_brings, .ref a_p0_need, .ref a_p0_draft, .int i_p0_dSeats, .int i_p0_dStirs, .ref a_p0_dStir, .ref a_p0_dNeed, .int i_p0_told, .int i_p0_highest, .ref a_p0_tape, .int i_p0_taped, .int i_p0_pos, .int i_p0_from, .int i_p0_sort, .int i_p0_value, .int i_p0_fault, .int i_p0_wrongAt, .ref a_p0_places, .ref a_p0_stirred, .ref a_p0_ways, .ref a_p0_waysThen, .ref a_p0_stays, .ref a_p0_fewest, .ref a_p0_bowls, .ref a_p0_has, .ref a_p0_goesOn, .ref a_p0_isThere, .ref a_p0_isThereThen, .ref a_p0_bestRow, .ref a_p0_lanes, .ref a_p0_sizes, .ref a_p0_cells, .int i_p0_torn]))] sz)) 0 0 (va_A [(a_p0, .inr (12, [.ref a_p0_st, .ref a_p0_isKept, .int i_p0_seats, .int i_p0_stirs, .ref a_p0_brings, .ref a_p0_need, .ref a_p0_draft, .int i_p0_dSeats, .int i_p0_dStirs, .ref a_p0_dStir, .ref a_p0_dNeed, .int i_p0_told, .int i_p0_highest, .ref a_p0_tape, .int i_p0_taped, .int i_p0_pos, .int i_p0_from, .int i_p0_sort, .int i_p0_value, .int i_p0_fault, .int i_p0_wrongAt, .ref a_p0_places, .ref a_p0_stirred, .ref a_p0_ways, .ref a_p0_waysThen, .ref a_p0_stays, .ref a_p0_fewest, .ref a_p0_bowls, .ref a_p0_has, .ref a_p0_goesOn, .ref a_p0_isThere, .ref a_p0_isThereThen, .ref a_p0_bestRow, .ref a_p0_lanes, .ref a_p0_sizes, .ref a_p0_cells, .int i_p0_torn]))] sz) := by
  refine Met.ofW (cc := cX12_raise) (maxL := 8) (ret := (some .int)) (by decide) rfl ?_
  intro p e s m args below meth c s₁ B hml hv
  obtain ⟨rfl, hsz, hP, hK, hD0⟩ := hv
  have hx := B.exec
  have hb := B.bytes
  have hr := B.returns
  have hts := atoms_spec (ws := wsX12_raise) B.pre
  have hown : s.vm.findClass RX12 = some m.cls := findClass_of_methodNamed B.named
  have hlocks := B.notSynchronized
  subst hsz
  have hD := hD0.self (sz := s.heap.size)
  generalize hAe : va_A [(a_p0, .inr (12, [.ref a_p0_st, .ref a_p0_isKept, .int i_p0_seats, .int i_p0_stirs, .ref a_p0_brings, .ref a_p0_need, .ref a_p0_draft, .int i_p0_dSeats, .int i_p0_dStirs, .ref a_p0_dStir, .ref a_p0_dNeed, .int i_p0_told, .int i_p0_highest, .ref a_p0_tape, .int i_p0_taped, .int i_p0_pos, .int i_p0_from, .int i_p0_sort, .int i_p0_value, .int i_p0_fault, .int i_p0_wrongAt, .ref a_p0_places, .ref a_p0_stirred, .ref a_p0_ways, .ref a_p0_waysThen, .ref a_p0_stays, .ref a_p0_fewest, .ref a_p0_bowls, .ref a_p0_has, .ref a_p0_goesOn, .ref a_p0_isThere, .ref a_p0_isThereThen, .ref a_p0_bestRow, .ref a_p0_lanes, .ref a_p0_sizes, .ref a_p0_cells, .int i_p0_torn]))] s.heap.size = A at hD ⊢
  have hA : ∀ q : Nat, s.heap.size ≤ q → A q := fun q h => by rw [← hAe]; exact Or.inr h
  clear hAe hD0
  have hS : va_S A s.heap s.heap [] := va_S.rf
  have hl := lv_entry ([.ref a_p0, .int x1, .int x2]) (n := 8) (Nat.le_of_ble_eq_true rfl)
  rw [lg_entry_eq]
  generalize (lg_sl ([.ref a_p0, .int x1, .int x2]) ++ List.replicate (8 - (lg_sl ([.ref a_p0, .int x1, .int x2])).length) Slot.unset).toArray = ls at hl ⊢
  have hl : lv_has ls 8 [(0, .ref a_p0), (1, .int x1), (2, .int x2)] := hl
  refine W_nameQ (fun Q hQ => ?_)
  obtain ⟨H, hH⟩ : ∃ H, H = s.heap := ⟨_, rfl⟩
  replace hS : va_S A s.heap H [] := by rw [hH]; exact hS
  replace hP : va_P D vwCl [(a_p0, .inr (12, [.ref a_p0_st, .ref a_p0_isKept, .int i_p0_seats, .int i_p0_stirs, .ref a_p0_brings, .ref a_p0_need, .ref a_p0_draft, .int i_p0_dSeats, .int i_p0_dStirs, .ref a_p0_dStir, .ref a_p0_dNeed, .int i_p0_told, .int i_p0_highest, .ref a_p0_tape, .int i_p0_taped, .int i_p0_pos, .int i_p0_from, .int i_p0_sort, .int i_p0_value, .int i_p0_fault, .int i_p0_wrongAt, .ref a_p0_places, .ref a_p0_stirred, .ref a_p0_ways, .ref a_p0_waysThen, .ref a_p0_stays, .ref a_p0_fewest, .ref a_p0_bowls, .ref a_p0_has, .ref a_p0_goesOn, .ref a_p0_isThere, .ref a_p0_isThereThen, .ref a_p0_bestRow, .ref a_p0_lanes, .ref a_p0_sizes, .ref a_p0_cells, .int i_p0_torn]))] H := by rw [hH]; exact hP
  rw [← hH]
  clear hH
  unfold f_X12_raise at hf
  refine lv_aload_n hx hb dX12_raise_0 rfl (lv_at hl 0 rfl) ?_
  refine lv_iload_n hx hb dX12_raise_1 rfl (lv_at hl 1 rfl) ?_
  have hq := bd1_s hf
  clear hf
  obtain ⟨z1, hcall, hf⟩ := hq
  refine gcI (ws' := [(a_p0, .inr (12, [.ref a_p0_st, .ref a_p0_isKept, .int i_p0_seats, .int i_p0_stirs, .ref a_p0_brings, .ref a_p0_need, .ref a_p0_draft, .int i_p0_dSeats, .int i_p0_dStirs, .ref a_p0_dStir, .ref a_p0_dNeed, .int i_p0_told, .int i_p0_highest, .ref a_p0_tape, .int i_p0_taped, .int i_p0_pos, .int i_p0_from, .int i_p0_sort, .int i_p0_value, .int i_p0_fault, .int i_p0_wrongAt, .ref a_p0_places, .ref a_p0_stirred, .ref a_p0_ways, .ref a_p0_waysThen, .ref a_p0_stays, .ref a_p0_fewest, .ref a_p0_bowls, .ref a_p0_has, .ref a_p0_goesOn, .ref a_p0_isThere, .ref a_p0_isThereThen, .ref a_p0_bestRow, .ref a_p0_lanes, .ref a_p0_sizes, .ref a_p0_cells, .int i_p0_torn]))]) (va_runV (As := [.int x1]) (rest := []) ⟨hx, hb, hml, hown, hts⟩ (c_X12_isSeat (l := l) (D := D) (G := G) (sz := H.size) (a_p0 := a_p0) (a_p0_st := a_p0_st) (a_p0_isKept := a_p0_isKept) (a_p0_brings := a_p0_brings) (a_p0_need := a_p0_need) (a_p0_draft := a_p0_draft) (a_p0_dStir := a_p0_dStir) (a_p0_dNeed := a_p0_dNeed) (a_p0_tape := a_p0_tape) (a_p0_places := a_p0_places) (a_p0_stirred := a_p0_stirred) (a_p0_ways := a_p0_ways) (a_p0_waysThen := a_p0_waysThen) (a_p0_stays := a_p0_stays) (a_p0_fewest := a_p0_fewest) (a_p0_bowls := a_p0_bowls) (a_p0_has := a_p0_has) (a_p0_goesOn := a_p0_goesOn) (a_p0_isThere := a_p0_isThere) (a_p0_isThereThen := a_p0_isThereThen) (a_p0_bestRow := a_p0_bestRow) (a_p0_lanes := a_p0_lanes) (a_p0_sizes := a_p0_sizes) (a_p0_cells := a_p0_cells) (i_p0_seats := i_p0_seats) (i_p0_stirs := i_p0_stirs) (i_p0_dSeats := i_p0_dSeats) (i_p0_dStirs := i_p0_dStirs) (i_p0_told := i_p0_told) (i_p0_highest := i_p0_highest) (i_p0_taped := i_p0_taped) (i_p0_pos := i_p0_pos) (i_p0_from := i_p0_from) (i_p0_sort := i_p0_sort) (i_p0_value := i_p0_value) (i_p0_fault := i_p0_fault) (i_p0_wrongAt := i_p0_wrongAt) (i_p0_torn := i_p0_torn) (x1 := x1) (r := z1) (hf := hcall)) (cwV 1 hts gX12_raise_X12_isSeat rfl rfl rfl (by decide +kernel) ⟨Nat.le_of_ble_eq_true rfl, Nat.le_of_ble_eq_true rfl⟩) (preG_V (ci := 12) (hP.sub [0] rfl) (hD.sub [0] rfl rfl) hK rfl rfl) rfl rfl hl.1 rfl (lv_room (Nat.le_of_ble_eq_true rfl)) dX12_raise_2 ⟨Nat.le_of_ble_eq_true rfl, Nat.le_of_ble_eq_true rfl⟩) hP hD hS hA [0] [] [0] rfl rfl rfl (by decide) rfl rfl rfl (fun H locs hP hD hS => ?_)
  clear hcall
  refine lv_if_eq (tgt := 26) hx hb dX12_raise_5 (by decide) (fun cc => ?_) (fun cc => ?_)
  ·
    replace hf := ite_t cc hf
    clear cc
    refine lv_iconst (v := (-1 : Int32)) hx hb dX12_raise_26 (by decide) ?_
    obtain rfl := ou1 hf
    rw [hQ]
    exact W.iret hx hb hr (fun t ht hW => ⟨⟨_, (), rfl, rfl, by rw [ht]; exact hP, va_K.moved hW.alike hK, hD⟩, hS.F ht⟩) hS.2.2 dX12_raise_27
  ·
    replace hf := ite_f cc hf
    clear cc
    refine lv_iload_n hx hb dX12_raise_8 rfl (lv_at hl 2 rfl) ?_
    have hq := jn_i hf
    clear hf
    obtain ⟨J2, eJ2, hf⟩ := hq
    have hJ2 : ∀  (ls : Array Slot) (H : Heap) (locs : List Loc), lv_has ls 8 [(0, .ref a_p0), (1, .int x1), (2, .int x2)] → va_P D vwCl [(a_p0, .inr (12, [.ref a_p0_st, .ref a_p0_isKept, .int i_p0_seats, .int i_p0_stirs, .ref a_p0_brings, .ref a_p0_need, .ref a_p0_draft, .int i_p0_dSeats, .int i_p0_dStirs, .ref a_p0_dStir, .ref a_p0_dNeed, .int i_p0_told, .int i_p0_highest, .ref a_p0_tape, .int i_p0_taped, .int i_p0_pos, .int i_p0_from, .int i_p0_sort, .int i_p0_value, .int i_p0_fault, .int i_p0_wrongAt, .ref a_p0_places, .ref a_p0_stirred, .ref a_p0_ways, .ref a_p0_waysThen, .ref a_p0_stays, .ref a_p0_fewest, .ref a_p0_bowls, .ref a_p0_has, .ref a_p0_goesOn, .ref a_p0_isThere, .ref a_p0_isThereThen, .ref a_p0_bestRow, .ref a_p0_lanes, .ref a_p0_sizes, .ref a_p0_cells, .int i_p0_torn]))] H → va_D A [(a_p0, .inr (12, [.ref a_p0_st, .ref a_p0_isKept, .int i_p0_seats, .int i_p0_stirs, .ref a_p0_brings, .ref a_p0_need, .ref a_p0_draft, .int i_p0_dSeats, .int i_p0_dStirs, .ref a_p0_dStir, .ref a_p0_dNeed, .int i_p0_told, .int i_p0_highest, .ref a_p0_tape, .int i_p0_taped, .int i_p0_pos, .int i_p0_from, .int i_p0_sort, .int i_p0_value, .int i_p0_fault, .int i_p0_wrongAt, .ref a_p0_places, .ref a_p0_stirred, .ref a_p0_ways, .ref a_p0_waysThen, .ref a_p0_stays, .ref a_p0_fewest, .ref a_p0_bowls, .ref a_p0_has, .ref a_p0_goesOn, .ref a_p0_isThere, .ref a_p0_isThereThen, .ref a_p0_bestRow, .ref a_p0_lanes, .ref a_p0_sizes, .ref a_p0_cells, .int i_p0_torn]))] → va_S A s.heap H locs → J2  = some r → W p l e rm_X12_raise s m ([.ref a_p0, .int x1, .int x2] : List Value).toArray below meth c H locs 0 0 Q (F0 m 28 ls []) := by
      clear hf hl hP hD hS
      intro  ls H locs hl hP hD hS hf
      replace hf := jn0_s eJ2 hf
      refine lv_aload_n hx hb dX12_raise_28 rfl (lv_at hl 0 rfl) ?_
      refine va_get (D := D) (ci := 12) (v := .int i_p0_stirs) (C := RX12) (T := TX12) (N := 37) hx hb hts inX12_raise_X12 hown hK hP 0 rfl rfl 3 (by decide) (hts _ mwX12_raise_1) (fun _ h9 => h9) rfl dX12_raise_29 ?_
      refine lv_if_ne (tgt := 38) hx hb dX12_raise_32 (by decide) (fun cc => ?_) (fun cc => ?_)
      ·
        replace hf := ite_f cc hf
        clear cc
        refine lv_aload_n hx hb dX12_raise_38 rfl (lv_at hl 0 rfl) ?_
        refine lv_iload_n hx hb dX12_raise_39 rfl (lv_at hl 1 rfl) ?_
        cases hf
      ·
        replace hf := ite_t cc hf
        clear cc
        refine lv_bipush (v := (-2 : Int32)) hx hb dX12_raise_35 (by decide) ?_
        obtain rfl := ou1 hf
        rw [hQ]
        exact W.iret hx hb hr (fun t ht hW => ⟨⟨_, (), rfl, rfl, by rw [ht]; exact hP, va_K.moved hW.alike hK, hD⟩, hS.F ht⟩) hS.2.2 dX12_raise_37
    refine lv_if_eq (tgt := 28) hx hb dX12_raise_9 (by decide) (fun cc => ?_) (fun cc => ?_)
    ·
      replace hf := ite_t cc hf
      clear cc
      exact hJ2  _ _ _ (lv_sub hl [0, 1, 2] rfl) hP hD hS hf
    ·
      replace hf := ite_f cc hf
      clear cc
      refine lv_iload_n hx hb dX12_raise_12 rfl (lv_at hl 2 rfl) ?_
      refine lv_i2l hx hb dX12_raise_13 rfl ?_
      refine lv_ldc2 (v := (10 : Int64)) hx hb hown (hts _ mwX12_raise_2) dX12_raise_14 ?_
      refine lv_ldc2 (v := (19 : Int64)) hx hb hown (hts _ mwX12_raise_3) dX12_raise_17 ?_
      have hq := bd1_s hf
      clear hf
      obtain ⟨z3, hcall, hf⟩ := hq
      refine gcI (ws' := [(a_p0, .inr (12, [.ref a_p0_st, .ref a_p0_isKept, .int i_p0_seats, .int i_p0_stirs, .ref a_p0_brings, .ref a_p0_need, .ref a_p0_draft, .int i_p0_dSeats, .int i_p0_dStirs, .ref a_p0_dStir, .ref a_p0_dNeed, .int i_p0_told, .int i_p0_highest, .ref a_p0_tape, .int i_p0_taped, .int i_p0_pos, .int i_p0_from, .int i_p0_sort, .int i_p0_value, .int i_p0_fault, .int i_p0_wrongAt, .ref a_p0_places, .ref a_p0_stirred, .ref a_p0_ways, .ref a_p0_waysThen, .ref a_p0_stays, .ref a_p0_fewest, .ref a_p0_bowls, .ref a_p0_has, .ref a_p0_goesOn, .ref a_p0_isThere, .ref a_p0_isThereThen, .ref a_p0_bestRow, .ref a_p0_lanes, .ref a_p0_sizes, .ref a_p0_cells, .int i_p0_torn]))]) (va_runS (As := [.long (x2).toInt64, .long (10 : Int64), .long (19 : Int64)]) (rest := []) ⟨hx, hb, hml, hown, hts⟩ (c_X12_in (l := l) (D := D) (G := G) (sz := H.size) (x0 := (x2).toInt64) (x2 := (10 : Int64)) (x4 := (19 : Int64)) (r := z3) (hf := hcall)) (va_cwS 3 hts gX12_raise_X12_in rfl rfl rfl (by decide +kernel) ⟨Nat.le_of_ble_eq_true rfl, Nat.le_of_ble_eq_true rfl⟩) (preG_S (hP.sub [] rfl) (hD.sub [] rfl rfl) hK) rfl rfl hl.1 rfl (lv_room (Nat.le_of_ble_eq_true rfl)) dX12_raise_20 ⟨Nat.le_of_ble_eq_true rfl, Nat.le_of_ble_eq_true rfl⟩) hP hD hS hA [] [0] [0] rfl rfl rfl (by decide) rfl rfl rfl (fun H locs hP hD hS => ?_)
      clear hcall
      refine lv_if_ne (tgt := 28) hx hb dX12_raise_23 (by decide) (fun cc => ?_) (fun cc => ?_)
      ·
        replace hf := ite_f cc hf
        clear cc
        exact hJ2  _ _ _ (lv_sub hl [0, 1, 2] rfl) hP hD hS hf
      ·
        replace hf := ite_t cc hf
        clear cc
        refine lv_iconst (v := (-1 : Int32)) hx hb dX12_raise_26 (by decide) ?_
        obtain rfl := ou1 hf
        rw [hQ]
        exact W.iret hx hb hr (fun t ht hW => ⟨⟨_, (), rfl, rfl, by rw [ht]; exact hP, va_K.moved hW.alike hK, hD⟩, hS.F ht⟩) hS.2.2 dX12_raise_27

noncomputable def f_X12_coup (i_p0_seats : Int32) (i_p0_stirs : Int32) (x1 : Int32) (x2 : Int32) (x3 : Int32) : Option (Int32) := (bd1 (f_X12_isSeat i_p0_seats x1) (fun (z1 : Int32) => (if z1 = 0 then (some (-1 : Int32)) else (bd1 (f_X12_isStir i_p0_stirs x2) (fun (z2 : Int32) => (if z2 = 0 then (some (-1 : Int32)) else (bd1 (f_X12_isTold x3) (fun (z3 : Int32) => (if z3 = 0 then (some (-1 : Int32)) else none)))))))))
abbrev rm_X12_coup : Room := { frames := 2, cells := 0, slots := 0, locals := 46 }
set_option maxHeartbeats 8000000 in
set_option maxRecDepth 100000 in
theorem c_X12_coup (l : Launch) (D : va_G) (G : Nat → ClassId) (sz : Nat) (a_p0 : Nat) (a_p0_st : Nat) (a_p0_isKept : Nat) (a_p0_brings : Nat) (a_p0_need : Nat) (a_p0_draft : Nat) (a_p0_dStir : Nat) (a_p0_dNeed : Nat) (a_p0_tape : Nat) (a_p0_places : Nat) (a_p0_stirred : Nat) (a_p0_ways : Nat) (a_p0_waysThen : Nat) (a_p0_stays : Nat) (a_p0_fewest : Nat) (a_p0_bowls : Nat) (a_p0_has : Nat) (a_p0_goesOn : Nat) (a_p0_isThere : Nat) (a_p0_isThereThen : Nat) (a_p0_bestRow : Nat) (a_p0_lanes : Nat) (a_p0_sizes : Nat) (a_p0_cells : Nat) (i_p0_seats : Int32) (i_p0_stirs : Int32) (i_p0_dSeats : Int32) (i_p0_dStirs : Int32) (i_p0_told : Int32) (i_p0_highest : Int32) (i_p0_taped : Int32) (i_p0_pos : Int32) (i_p0_from : Int32) (i_p0_sort : Int32) (i_p0_value : Int32) (i_p0_fault : Int32) (i_p0_wrongAt : Int32) (i_p0_torn : Int32) (x1 : Int32) (x2 : Int32) (x3 : Int32) (r : Int32) (hf : f_X12_coup i_p0_seats i_p0_stirs x1 x2 x3 = some r) : Met l yX12_coup wsX12_coup rm_X12_coup (pcG D G [.ref a_p0, .int x1, .int x2, .int x3] sz [(a_p0, .inr (12, [.ref a_p0_st, .ref a_p0_isKept, .int i_p0_seats, .int i_p0_stirs, .ref a_p0_brings, .ref a_p0_need, .ref a_p0_draft, .int i_p0_dSeats, .int i_p0_dStirs, .ref a_p0_dStir, .ref a_p0_dNeed, .int i_p0_told, .int i_p0_highest, .ref a_p0_tape, .int i_p0_taped, .int i_p0_pos, .int i_p0_from, .int i_p0_sort, .int i_p0_value, .int i_p0_fault, .int i_p0_wrongAt, .ref a_p0_places, .ref a_p0_stirred, .ref a_p0_ways, .ref a_p0_waysThen, .ref a_p0_stays, .ref a_p0_fewest, .ref a_p0_bowls, .ref a_p0_has, .ref a_p0_goesOn, .ref a_p0_isThere, .ref a_p0_isThereThen, .ref a_p0_bestRow, .ref a_p0_lanes, .ref a_p0_sizes, .ref a_p0_cells, .int i_p0_torn]))]) (qcI D G r [(a_p0, .inr (12, [.ref a_p0_st, .ref a_p0_isKept, .int i_p0_seats, .int i_p0_stirs, .ref a_p0_brings, .ref a_p0_need, .ref a_p0_draft, .int i_p0_dSeats, .int i_p0_dStirs, .ref a_p0_dStir, .ref a_p0_dNeed, .int i_p0_told, .int i_p0_highest, .ref a_p0_tape, .int i_p0_taped, .int i_p0_pos, .int i_p0_from, .int i_p0_sort, .int i_p0_value, .int i_p0_fault, .int i_p0_wrongAt, .ref a_p0_places, .ref a_p0_stirred, .ref a_p0_ways, .ref a_p0_waysThen, .ref a_p0_stays, .ref a_p0_fewest, .ref a_p0_bowls, .ref a_p0_has, .ref a_p0_goesOn, .ref a_p0_isThere, .ref a_p0_isThereThen, .ref a_p0_bestRow, .ref a_p0_lanes, .ref a_p0_sizes, .ref a_p0_cells, .int i_p0_torn]))] (va_A [(a_p0, .inr (12, [.ref a_p0_st, .ref a_p0_isKept, .int i_p0_seats, .int i_p0_stirs, .ref a_p0_brings, .ref a_p0_need, .ref a_p0_draft, .int i_p0_dSeats, .int i_p0_dStirs, .ref a_p0_dStir, .ref a_p0_dNeed, .int i_p0_told, .int i_p0_highest, .ref a_p0_tape, .int i_p0_taped, .int i_p0_pos, .int i_p0_from, .int i_p0_sort, .int i_p0_value, .int i_p0_fault, .int i_p0_wrongAt, .ref a_p0_places, .ref a_p0_stirred, .ref a_p0_ways, .ref a_p0_waysThen, .ref a_p0_stays, .ref a_p0_fewest, .ref a_p0_bowls, .ref a_p0_has, .ref a_p0_goesOn, .ref a_p0_isThere, .ref a_p0_isThereThen, .ref a_p0_bestRow, .ref a_p0_lanes, .ref a_p0_sizes, .ref a_p0_cells, .int i_p0_torn]))] sz)) 0 0 (va_A [(a_p0, .inr (12, [.ref a_p0_st, .ref a_p0_isKept, .int i_p0_seats, .int i_p0_stirs, .ref a_p0_brings, .ref a_p0_need, .ref a_p0_draft, .int i_p0_dSeats, .int i_p0_dStirs, .ref a_p0_dStir, .ref a_p0_dNeed, .int i_p0_told, .int i_p0_highest, .ref a_p0_tape, .int i_p0_taped, .int i_p0_pos, .int i_p0_from, .int i_p0_sort, .int i_p0_value, .int i_p0_fault, .int i_p0_wrongAt, .ref a_p0_places, .ref a_p0_stirred, .ref a_p0_ways, .ref a_p0_waysThen, .ref a_p0_stays, .ref a_p0_fewest, .ref a_p0_bowls, .ref a_p0_has, .ref a_p0_goesOn, .ref a_p0_isThere, .ref a_p0_isThereThen, .ref a_p0_bestRow, .ref a_p0_lanes, .ref a_p0_sizes, .ref a_p0_cells, .int i_p0_torn]))] sz) := by
  refine Met.ofW (cc := cX12_coup) (maxL := 5) (ret := (some .int)) (by decide) rfl ?_
  intro p e s m args below meth c s₁ B hml hv
  obtain ⟨rfl, hsz, hP, hK, hD0⟩ := hv
  have hx := B.exec
  have hb := B.bytes
  have hr := B.returns
  have hts := atoms_spec (ws := wsX12_coup) B.pre
  have hown : s.vm.findClass RX12 = some m.cls := findClass_of_methodNamed B.named
  have hlocks := B.notSynchronized
  subst hsz
  have hD := hD0.self (sz := s.heap.size)
  generalize hAe : va_A [(a_p0, .inr (12, [.ref a_p0_st, .ref a_p0_isKept, .int i_p0_seats, .int i_p0_stirs, .ref a_p0_brings, .ref a_p0_need, .ref a_p0_draft, .int i_p0_dSeats, .int i_p0_dStirs, .ref a_p0_dStir, .ref a_p0_dNeed, .int i_p0_told, .int i_p0_highest, .ref a_p0_tape, .int i_p0_taped, .int i_p0_pos, .int i_p0_from, .int i_p0_sort, .int i_p0_value, .int i_p0_fault, .int i_p0_wrongAt, .ref a_p0_places, .ref a_p0_stirred, .ref a_p0_ways, .ref a_p0_waysThen, .ref a_p0_stays, .ref a_p0_fewest, .ref a_p0_bowls, .ref a_p0_has, .ref a_p0_goesOn, .ref a_p0_isThere, .ref a_p0_isThereThen, .ref a_p0_bestRow, .ref a_p0_lanes, .ref a_p0_sizes, .ref a_p0_cells, .int i_p0_torn]))] s.heap.size = A at hD ⊢
  have hA : ∀ q : Nat, s.heap.size ≤ q → A q := fun q h => by rw [← hAe]; exact Or.inr h
  clear hAe hD0
  have hS : va_S A s.heap s.heap [] := va_S.rf
  have hl := lv_entry ([.ref a_p0, .int x1, .int x2, .int x3]) (n := 5) (Nat.le_of_ble_eq_true rfl)
  rw [lg_entry_eq]
  generalize (lg_sl ([.ref a_p0, .int x1, .int x2, .int x3]) ++ List.replicate (5 - (lg_sl ([.ref a_p0, .int x1, .int x2, .int x3])).length) Slot.unset).toArray = ls at hl ⊢
  have hl : lv_has ls 5 [(0, .ref a_p0), (1, .int x1), (2, .int x2), (3, .int x3)] := hl
  refine W_nameQ (fun Q hQ => ?_)
  obtain ⟨H, hH⟩ : ∃ H, H = s.heap := ⟨_, rfl⟩
  replace hS : va_S A s.heap H [] := by rw [hH]; exact hS
  replace hP : va_P D vwCl [(a_p0, .inr (12, [.ref a_p0_st, .ref a_p0_isKept, .int i_p0_seats, .int i_p0_stirs, .ref a_p0_brings, .ref a_p0_need, .ref a_p0_draft, .int i_p0_dSeats, .int i_p0_dStirs, .ref a_p0_dStir, .ref a_p0_dNeed, .int i_p0_told, .int i_p0_highest, .ref a_p0_tape, .int i_p0_taped, .int i_p0_pos, .int i_p0_from, .int i_p0_sort, .int i_p0_value, .int i_p0_fault, .int i_p0_wrongAt, .ref a_p0_places, .ref a_p0_stirred, .ref a_p0_ways, .ref a_p0_waysThen, .ref a_p0_stays, .ref a_p0_fewest, .ref a_p0_bowls, .ref a_p0_has, .ref a_p0_goesOn, .ref a_p0_isThere, .ref a_p0_isThereThen, .ref a_p0_bestRow, .ref a_p0_lanes, .ref a_p0_sizes, .ref a_p0_cells, .int i_p0_torn]))] H := by rw [hH]; exact hP
  rw [← hH]
  clear hH
  unfold f_X12_coup at hf
  refine lv_aload_n hx hb dX12_coup_0 rfl (lv_at hl 0 rfl) ?_
  refine lv_iload_n hx hb dX12_coup_1 rfl (lv_at hl 1 rfl) ?_
  have hq := bd1_s hf
  clear hf
  obtain ⟨z1, hcall, hf⟩ := hq
  refine gcI (ws' := [(a_p0, .inr (12, [.ref a_p0_st, .ref a_p0_isKept, .int i_p0_seats, .int i_p0_stirs, .ref a_p0_brings, .ref a_p0_need, .ref a_p0_draft, .int i_p0_dSeats, .int i_p0_dStirs, .ref a_p0_dStir, .ref a_p0_dNeed, .int i_p0_told, .int i_p0_highest, .ref a_p0_tape, .int i_p0_taped, .int i_p0_pos, .int i_p0_from, .int i_p0_sort, .int i_p0_value, .int i_p0_fault, .int i_p0_wrongAt, .ref a_p0_places, .ref a_p0_stirred, .ref a_p0_ways, .ref a_p0_waysThen, .ref a_p0_stays, .ref a_p0_fewest, .ref a_p0_bowls, .ref a_p0_has, .ref a_p0_goesOn, .ref a_p0_isThere, .ref a_p0_isThereThen, .ref a_p0_bestRow, .ref a_p0_lanes, .ref a_p0_sizes, .ref a_p0_cells, .int i_p0_torn]))]) (va_runV (As := [.int x1]) (rest := []) ⟨hx, hb, hml, hown, hts⟩ (c_X12_isSeat (l := l) (D := D) (G := G) (sz := H.size) (a_p0 := a_p0) (a_p0_st := a_p0_st) (a_p0_isKept := a_p0_isKept) (a_p0_brings := a_p0_brings) (a_p0_need := a_p0_need) (a_p0_draft := a_p0_draft) (a_p0_dStir := a_p0_dStir) (a_p0_dNeed := a_p0_dNeed) (a_p0_tape := a_p0_tape) (a_p0_places := a_p0_places) (a_p0_stirred := a_p0_stirred) (a_p0_ways := a_p0_ways) (a_p0_waysThen := a_p0_waysThen) (a_p0_stays := a_p0_stays) (a_p0_fewest := a_p0_fewest) (a_p0_bowls := a_p0_bowls) (a_p0_has := a_p0_has) (a_p0_goesOn := a_p0_goesOn) (a_p0_isThere := a_p0_isThere) (a_p0_isThereThen := a_p0_isThereThen) (a_p0_bestRow := a_p0_bestRow) (a_p0_lanes := a_p0_lanes) (a_p0_sizes := a_p0_sizes) (a_p0_cells := a_p0_cells) (i_p0_seats := i_p0_seats) (i_p0_stirs := i_p0_stirs) (i_p0_dSeats := i_p0_dSeats) (i_p0_dStirs := i_p0_dStirs) (i_p0_told := i_p0_told) (i_p0_highest := i_p0_highest) (i_p0_taped := i_p0_taped) (i_p0_pos := i_p0_pos) (i_p0_from := i_p0_from) (i_p0_sort := i_p0_sort) (i_p0_value := i_p0_value) (i_p0_fault := i_p0_fault) (i_p0_wrongAt := i_p0_wrongAt) (i_p0_torn := i_p0_torn) (x1 := x1) (r := z1) (hf := hcall)) (cwV 1 hts gX12_coup_X12_isSeat rfl rfl rfl (by decide +kernel) ⟨Nat.le_of_ble_eq_true rfl, Nat.le_of_ble_eq_true rfl⟩) (preG_V (ci := 12) (hP.sub [0] rfl) (hD.sub [0] rfl rfl) hK rfl rfl) rfl rfl hl.1 rfl (lv_room (Nat.le_of_ble_eq_true rfl)) dX12_coup_2 ⟨Nat.le_of_ble_eq_true rfl, Nat.le_of_ble_eq_true rfl⟩) hP hD hS hA [0] [] [0] rfl rfl rfl (by decide) rfl rfl rfl (fun H locs hP hD hS => ?_)
  clear hcall
  refine lv_if_eq (tgt := 23) hx hb dX12_coup_5 (by decide) (fun cc => ?_) (fun cc => ?_)
  ·
    replace hf := ite_t cc hf
    clear cc
    refine lv_iconst (v := (-1 : Int32)) hx hb dX12_coup_23 (by decide) ?_
    obtain rfl := ou1 hf
    rw [hQ]
    exact W.iret hx hb hr (fun t ht hW => ⟨⟨_, (), rfl, rfl, by rw [ht]; exact hP, va_K.moved hW.alike hK, hD⟩, hS.F ht⟩) hS.2.2 dX12_coup_24
  ·
    replace hf := ite_f cc hf
    clear cc
    refine lv_aload_n hx hb dX12_coup_8 rfl (lv_at hl 0 rfl) ?_
    refine lv_iload_n hx hb dX12_coup_9 rfl (lv_at hl 2 rfl) ?_
    have hq := bd1_s hf
    clear hf
    obtain ⟨z2, hcall, hf⟩ := hq
    refine gcI (ws' := [(a_p0, .inr (12, [.ref a_p0_st, .ref a_p0_isKept, .int i_p0_seats, .int i_p0_stirs, .ref a_p0_brings, .ref a_p0_need, .ref a_p0_draft, .int i_p0_dSeats, .int i_p0_dStirs, .ref a_p0_dStir, .ref a_p0_dNeed, .int i_p0_told, .int i_p0_highest, .ref a_p0_tape, .int i_p0_taped, .int i_p0_pos, .int i_p0_from, .int i_p0_sort, .int i_p0_value, .int i_p0_fault, .int i_p0_wrongAt, .ref a_p0_places, .ref a_p0_stirred, .ref a_p0_ways, .ref a_p0_waysThen, .ref a_p0_stays, .ref a_p0_fewest, .ref a_p0_bowls, .ref a_p0_has, .ref a_p0_goesOn, .ref a_p0_isThere, .ref a_p0_isThereThen, .ref a_p0_bestRow, .ref a_p0_lanes, .ref a_p0_sizes, .ref a_p0_cells, .int i_p0_torn]))]) (va_runV (As := [.int x2]) (rest := []) ⟨hx, hb, hml, hown, hts⟩ (c_X12_isStir (l := l) (D := D) (G := G) (sz := H.size) (a_p0 := a_p0) (a_p0_st := a_p0_st) (a_p0_isKept := a_p0_isKept) (a_p0_brings := a_p0_brings) (a_p0_need := a_p0_need) (a_p0_draft := a_p0_draft) (a_p0_dStir := a_p0_dStir) (a_p0_dNeed := a_p0_dNeed) (a_p0_tape := a_p0_tape) (a_p0_places := a_p0_places) (a_p0_stirred := a_p0_stirred) (a_p0_ways := a_p0_ways) (a_p0_waysThen := a_p0_waysThen) (a_p0_stays := a_p0_stays) (a_p0_fewest := a_p0_fewest) (a_p0_bowls := a_p0_bowls) (a_p0_has := a_p0_has) (a_p0_goesOn := a_p0_goesOn) (a_p0_isThere := a_p0_isThere) (a_p0_isThereThen := a_p0_isThereThen) (a_p0_bestRow := a_p0_bestRow) (a_p0_lanes := a_p0_lanes) (a_p0_sizes := a_p0_sizes) (a_p0_cells := a_p0_cells) (i_p0_seats := i_p0_seats) (i_p0_stirs := i_p0_stirs) (i_p0_dSeats := i_p0_dSeats) (i_p0_dStirs := i_p0_dStirs) (i_p0_told := i_p0_told) (i_p0_highest := i_p0_highest) (i_p0_taped := i_p0_taped) (i_p0_pos := i_p0_pos) (i_p0_from := i_p0_from) (i_p0_sort := i_p0_sort) (i_p0_value := i_p0_value) (i_p0_fault := i_p0_fault) (i_p0_wrongAt := i_p0_wrongAt) (i_p0_torn := i_p0_torn) (x1 := x2) (r := z2) (hf := hcall)) (cwV 1 hts gX12_coup_X12_isStir rfl rfl rfl (by decide +kernel) ⟨Nat.le_of_ble_eq_true rfl, Nat.le_of_ble_eq_true rfl⟩) (preG_V (ci := 12) (hP.sub [0] rfl) (hD.sub [0] rfl rfl) hK rfl rfl) rfl rfl hl.1 rfl (lv_room (Nat.le_of_ble_eq_true rfl)) dX12_coup_10 ⟨Nat.le_of_ble_eq_true rfl, Nat.le_of_ble_eq_true rfl⟩) hP hD hS hA [0] [] [0] rfl rfl rfl (by decide) rfl rfl rfl (fun H locs hP hD hS => ?_)
    clear hcall
    refine lv_if_eq (tgt := 23) hx hb dX12_coup_13 (by decide) (fun cc => ?_) (fun cc => ?_)
    ·
      replace hf := ite_t cc hf
      clear cc
      refine lv_iconst (v := (-1 : Int32)) hx hb dX12_coup_23 (by decide) ?_
      obtain rfl := ou1 hf
      rw [hQ]
      exact W.iret hx hb hr (fun t ht hW => ⟨⟨_, (), rfl, rfl, by rw [ht]; exact hP, va_K.moved hW.alike hK, hD⟩, hS.F ht⟩) hS.2.2 dX12_coup_24
    ·
      replace hf := ite_f cc hf
      clear cc
      refine lv_iload_n hx hb dX12_coup_16 rfl (lv_at hl 3 rfl) ?_
      have hq := bd1_s hf
      clear hf
      obtain ⟨z3, hcall, hf⟩ := hq
      refine gcI (ws' := [(a_p0, .inr (12, [.ref a_p0_st, .ref a_p0_isKept, .int i_p0_seats, .int i_p0_stirs, .ref a_p0_brings, .ref a_p0_need, .ref a_p0_draft, .int i_p0_dSeats, .int i_p0_dStirs, .ref a_p0_dStir, .ref a_p0_dNeed, .int i_p0_told, .int i_p0_highest, .ref a_p0_tape, .int i_p0_taped, .int i_p0_pos, .int i_p0_from, .int i_p0_sort, .int i_p0_value, .int i_p0_fault, .int i_p0_wrongAt, .ref a_p0_places, .ref a_p0_stirred, .ref a_p0_ways, .ref a_p0_waysThen, .ref a_p0_stays, .ref a_p0_fewest, .ref a_p0_bowls, .ref a_p0_has, .ref a_p0_goesOn, .ref a_p0_isThere, .ref a_p0_isThereThen, .ref a_p0_bestRow, .ref a_p0_lanes, .ref a_p0_sizes, .ref a_p0_cells, .int i_p0_torn]))]) (va_runS (As := [.int x3]) (rest := []) ⟨hx, hb, hml, hown, hts⟩ (c_X12_isTold (l := l) (D := D) (G := G) (sz := H.size) (x0 := x3) (r := z3) (hf := hcall)) (va_cwS 1 hts gX12_coup_X12_isTold rfl rfl rfl (by decide +kernel) ⟨Nat.le_of_ble_eq_true rfl, Nat.le_of_ble_eq_true rfl⟩) (preG_S (hP.sub [] rfl) (hD.sub [] rfl rfl) hK) rfl rfl hl.1 rfl (lv_room (Nat.le_of_ble_eq_true rfl)) dX12_coup_17 ⟨Nat.le_of_ble_eq_true rfl, Nat.le_of_ble_eq_true rfl⟩) hP hD hS hA [] [0] [0] rfl rfl rfl (by decide) rfl rfl rfl (fun H locs hP hD hS => ?_)
      clear hcall
      refine lv_if_ne (tgt := 25) hx hb dX12_coup_20 (by decide) (fun cc => ?_) (fun cc => ?_)
      ·
        replace hf := ite_f cc hf
        clear cc
        refine lv_aload_n hx hb dX12_coup_25 rfl (lv_at hl 0 rfl) ?_
        refine lv_iload_n hx hb dX12_coup_26 rfl (lv_at hl 1 rfl) ?_
        refine lv_iload_n hx hb dX12_coup_27 rfl (lv_at hl 2 rfl) ?_
        cases hf
      ·
        replace hf := ite_t cc hf
        clear cc
        refine lv_iconst (v := (-1 : Int32)) hx hb dX12_coup_23 (by decide) ?_
        obtain rfl := ou1 hf
        rw [hQ]
        exact W.iret hx hb hr (fun t ht hW => ⟨⟨_, (), rfl, rfl, by rw [ht]; exact hP, va_K.moved hW.alike hK, hD⟩, hS.F ht⟩) hS.2.2 dX12_coup_24

noncomputable def B_X12_firm_14 (i_p0_seats : Int32) (again14 : Int32 → Int32 → Option (Int32)) (z4 : Int32) (z5 : Int32) : Option (Int32) := (if i_p0_seats ≤ z4 then (some z5) else none)
noncomputable def f_X12_firm (i_p0_seats : Int32) (i_p0_stirs : Int32) (x1 : Int32) : Option (Int32) := (bd1 (f_X12_isStir i_p0_stirs x1) (fun (z1 : Int32) => (if z1 = 0 then (some (-1 : Int32)) else (bnd (0 : Int32) (fun (z2 : Int32) => (bnd (0 : Int32) (fun (z3 : Int32) => (lq2 (B_X12_firm_14 i_p0_seats) 1000 z3 z2))))))))
abbrev rm_X12_firm : Room := { frames := 2, cells := 0, slots := 0, locals := 46 }
theorem inX12_firm_X12 : ∀ w ∈ wsX120, w ∈ wsX12_firm := by decide +kernel
theorem mwX12_firm_1 : Cond.fieldLink RX12 100 "LadleKingsModel" "seats" "I" ∈ wsX12_firm := by decide +kernel
set_option maxHeartbeats 8000000 in
set_option maxRecDepth 100000 in
theorem c_X12_firm (l : Launch) (D : va_G) (G : Nat → ClassId) (sz : Nat) (a_p0 : Nat) (a_p0_st : Nat) (a_p0_isKept : Nat) (a_p0_brings : Nat) (a_p0_need : Nat) (a_p0_draft : Nat) (a_p0_dStir : Nat) (a_p0_dNeed : Nat) (a_p0_tape : Nat) (a_p0_places : Nat) (a_p0_stirred : Nat) (a_p0_ways : Nat) (a_p0_waysThen : Nat) (a_p0_stays : Nat) (a_p0_fewest : Nat) (a_p0_bowls : Nat) (a_p0_has : Nat) (a_p0_goesOn : Nat) (a_p0_isThere : Nat) (a_p0_isThereThen : Nat) (a_p0_bestRow : Nat) (a_p0_lanes : Nat) (a_p0_sizes : Nat) (a_p0_cells : Nat) (i_p0_seats : Int32) (i_p0_stirs : Int32) (i_p0_dSeats : Int32) (i_p0_dStirs : Int32) (i_p0_told : Int32) (i_p0_highest : Int32) (i_p0_taped : Int32) (i_p0_pos : Int32) (i_p0_from : Int32) (i_p0_sort : Int32) (i_p0_value : Int32) (i_p0_fault : Int32) (i_p0_wrongAt : Int32) (i_p0_torn : Int32) (x1 : Int32) (r : Int32) (hf : f_X12_firm i_p0_seats i_p0_stirs x1 = some r) : Met l yX12_firm wsX12_firm rm_X12_firm (pcG D G [.ref a_p0, .int x1] sz [(a_p0, .inr (12, [.ref a_p0_st, .ref a_p0_isKept, .int i_p0_seats, .int i_p0_stirs, .ref a_p0_brings, .ref a_p0_need, .ref a_p0_draft, .int i_p0_dSeats, .int i_p0_dStirs, .ref a_p0_dStir, .ref a_p0_dNeed, .int i_p0_told, .int i_p0_highest, .ref a_p0_tape, .int i_p0_taped, .int i_p0_pos, .int i_p0_from, .int i_p0_sort, .int i_p0_value, .int i_p0_fault, .int i_p0_wrongAt, .ref a_p0_places, .ref a_p0_stirred, .ref a_p0_ways, .ref a_p0_waysThen, .ref a_p0_stays, .ref a_p0_fewest, .ref a_p0_bowls, .ref a_p0_has, .ref a_p0_goesOn, .ref a_p0_isThere, .ref a_p0_isThereThen, .ref a_p0_bestRow, .ref a_p0_lanes, .ref a_p0_sizes, .ref a_p0_cells, .int i_p0_torn]))]) (qcI D G r [(a_p0, .inr (12, [.ref a_p0_st, .ref a_p0_isKept, .int i_p0_seats, .int i_p0_stirs, .ref a_p0_brings, .ref a_p0_need, .ref a_p0_draft, .int i_p0_dSeats, .int i_p0_dStirs, .ref a_p0_dStir, .ref a_p0_dNeed, .int i_p0_told, .int i_p0_highest, .ref a_p0_tape, .int i_p0_taped, .int i_p0_pos, .int i_p0_from, .int i_p0_sort, .int i_p0_value, .int i_p0_fault, .int i_p0_wrongAt, .ref a_p0_places, .ref a_p0_stirred, .ref a_p0_ways, .ref a_p0_waysThen, .ref a_p0_stays, .ref a_p0_fewest, .ref a_p0_bowls, .ref a_p0_has, .ref a_p0_goesOn, .ref a_p0_isThere, .ref a_p0_isThereThen, .ref a_p0_bestRow, .ref a_p0_lanes, .ref a_p0_sizes, .ref a_p0_cells, .int i_p0_torn]))] (va_A [(a_p0, .inr (12, [.ref a_p0_st, .ref a_p0_isKept, .int i_p0_seats, .int i_p0_stirs, .ref a_p0_brings, .ref a_p0_need, .ref a_p0_draft, .int i_p0_dSeats, .int i_p0_dStirs, .ref a_p0_dStir, .ref a_p0_dNeed, .int i_p0_told, .int i_p0_highest, .ref a_p0_tape, .int i_p0_taped, .int i_p0_pos, .int i_p0_from, .int i_p0_sort, .int i_p0_value, .int i_p0_fault, .int i_p0_wrongAt, .ref a_p0_places, .ref a_p0_stirred, .ref a_p0_ways, .ref a_p0_waysThen, .ref a_p0_stays, .ref a_p0_fewest, .ref a_p0_bowls, .ref a_p0_has, .ref a_p0_goesOn, .ref a_p0_isThere, .ref a_p0_isThereThen, .ref a_p0_bestRow, .ref a_p0_lanes, .ref a_p0_sizes, .ref a_p0_cells, .int i_p0_torn]))] sz)) 0 0 (va_A [(a_p0, .inr (12, [.ref a_p0_st, .ref a_p0_isKept, .int i_p0_seats, .int i_p0_stirs, .ref a_p0_brings, .ref a_p0_need, .ref a_p0_draft, .int i_p0_dSeats, .int i_p0_dStirs, .ref a_p0_dStir, .ref a_p0_dNeed, .int i_p0_told, .int i_p0_highest, .ref a_p0_tape, .int i_p0_taped, .int i_p0_pos, .int i_p0_from, .int i_p0_sort, .int i_p0_value, .int i_p0_fault, .int i_p0_wrongAt, .ref a_p0_places, .ref a_p0_stirred, .ref a_p0_ways, .ref a_p0_waysThen, .ref a_p0_stays, .ref a_p0_fewest, .ref a_p0_bowls, .ref a_p0_has, .ref a_p0_goesOn, .ref a_p0_isThere, .ref a_p0_isThereThen, .ref a_p0_bestRow, .ref a_p0_lanes, .ref a_p0_sizes, .ref a_p0_cells, .int i_p0_torn]))] sz) := by
  refine Met.ofW (cc := cX12_firm) (maxL := 4) (ret := (some .int)) (by decide) rfl ?_
  intro p e s m args below meth c s₁ B hml hv
  obtain ⟨rfl, hsz, hP, hK, hD0⟩ := hv
  have hx := B.exec
  have hb := B.bytes
  have hr := B.returns
  have hts := atoms_spec (ws := wsX12_firm) B.pre
  have hown : s.vm.findClass RX12 = some m.cls := findClass_of_methodNamed B.named
  have hlocks := B.notSynchronized
  subst hsz
  have hD := hD0.self (sz := s.heap.size)
  generalize hAe : va_A [(a_p0, .inr (12, [.ref a_p0_st, .ref a_p0_isKept, .int i_p0_seats, .int i_p0_stirs, .ref a_p0_brings, .ref a_p0_need, .ref a_p0_draft, .int i_p0_dSeats, .int i_p0_dStirs, .ref a_p0_dStir, .ref a_p0_dNeed, .int i_p0_told, .int i_p0_highest, .ref a_p0_tape, .int i_p0_taped, .int i_p0_pos, .int i_p0_from, .int i_p0_sort, .int i_p0_value, .int i_p0_fault, .int i_p0_wrongAt, .ref a_p0_places, .ref a_p0_stirred, .ref a_p0_ways, .ref a_p0_waysThen, .ref a_p0_stays, .ref a_p0_fewest, .ref a_p0_bowls, .ref a_p0_has, .ref a_p0_goesOn, .ref a_p0_isThere, .ref a_p0_isThereThen, .ref a_p0_bestRow, .ref a_p0_lanes, .ref a_p0_sizes, .ref a_p0_cells, .int i_p0_torn]))] s.heap.size = A at hD ⊢
  have hA : ∀ q : Nat, s.heap.size ≤ q → A q := fun q h => by rw [← hAe]; exact Or.inr h
  clear hAe hD0
  have hS : va_S A s.heap s.heap [] := va_S.rf
  have hl := lv_entry ([.ref a_p0, .int x1]) (n := 4) (Nat.le_of_ble_eq_true rfl)
  rw [lg_entry_eq]
  generalize (lg_sl ([.ref a_p0, .int x1]) ++ List.replicate (4 - (lg_sl ([.ref a_p0, .int x1])).length) Slot.unset).toArray = ls at hl ⊢
  have hl : lv_has ls 4 [(0, .ref a_p0), (1, .int x1)] := hl
  refine W_nameQ (fun Q hQ => ?_)
  obtain ⟨H, hH⟩ : ∃ H, H = s.heap := ⟨_, rfl⟩
  replace hS : va_S A s.heap H [] := by rw [hH]; exact hS
  replace hP : va_P D vwCl [(a_p0, .inr (12, [.ref a_p0_st, .ref a_p0_isKept, .int i_p0_seats, .int i_p0_stirs, .ref a_p0_brings, .ref a_p0_need, .ref a_p0_draft, .int i_p0_dSeats, .int i_p0_dStirs, .ref a_p0_dStir, .ref a_p0_dNeed, .int i_p0_told, .int i_p0_highest, .ref a_p0_tape, .int i_p0_taped, .int i_p0_pos, .int i_p0_from, .int i_p0_sort, .int i_p0_value, .int i_p0_fault, .int i_p0_wrongAt, .ref a_p0_places, .ref a_p0_stirred, .ref a_p0_ways, .ref a_p0_waysThen, .ref a_p0_stays, .ref a_p0_fewest, .ref a_p0_bowls, .ref a_p0_has, .ref a_p0_goesOn, .ref a_p0_isThere, .ref a_p0_isThereThen, .ref a_p0_bestRow, .ref a_p0_lanes, .ref a_p0_sizes, .ref a_p0_cells, .int i_p0_torn]))] H := by rw [hH]; exact hP
  rw [← hH]
  clear hH
  unfold f_X12_firm at hf
  refine lv_aload_n hx hb dX12_firm_0 rfl (lv_at hl 0 rfl) ?_
  refine lv_iload_n hx hb dX12_firm_1 rfl (lv_at hl 1 rfl) ?_
  have hq := bd1_s hf
  clear hf
  obtain ⟨z1, hcall, hf⟩ := hq
  refine gcI (ws' := [(a_p0, .inr (12, [.ref a_p0_st, .ref a_p0_isKept, .int i_p0_seats, .int i_p0_stirs, .ref a_p0_brings, .ref a_p0_need, .ref a_p0_draft, .int i_p0_dSeats, .int i_p0_dStirs, .ref a_p0_dStir, .ref a_p0_dNeed, .int i_p0_told, .int i_p0_highest, .ref a_p0_tape, .int i_p0_taped, .int i_p0_pos, .int i_p0_from, .int i_p0_sort, .int i_p0_value, .int i_p0_fault, .int i_p0_wrongAt, .ref a_p0_places, .ref a_p0_stirred, .ref a_p0_ways, .ref a_p0_waysThen, .ref a_p0_stays, .ref a_p0_fewest, .ref a_p0_bowls, .ref a_p0_has, .ref a_p0_goesOn, .ref a_p0_isThere, .ref a_p0_isThereThen, .ref a_p0_bestRow, .ref a_p0_lanes, .ref a_p0_sizes, .ref a_p0_cells, .int i_p0_torn]))]) (va_runV (As := [.int x1]) (rest := []) ⟨hx, hb, hml, hown, hts⟩ (c_X12_isStir (l := l) (D := D) (G := G) (sz := H.size) (a_p0 := a_p0) (a_p0_st := a_p0_st) (a_p0_isKept := a_p0_isKept) (a_p0_brings := a_p0_brings) (a_p0_need := a_p0_need) (a_p0_draft := a_p0_draft) (a_p0_dStir := a_p0_dStir) (a_p0_dNeed := a_p0_dNeed) (a_p0_tape := a_p0_tape) (a_p0_places := a_p0_places) (a_p0_stirred := a_p0_stirred) (a_p0_ways := a_p0_ways) (a_p0_waysThen := a_p0_waysThen) (a_p0_stays := a_p0_stays) (a_p0_fewest := a_p0_fewest) (a_p0_bowls := a_p0_bowls) (a_p0_has := a_p0_has) (a_p0_goesOn := a_p0_goesOn) (a_p0_isThere := a_p0_isThere) (a_p0_isThereThen := a_p0_isThereThen) (a_p0_bestRow := a_p0_bestRow) (a_p0_lanes := a_p0_lanes) (a_p0_sizes := a_p0_sizes) (a_p0_cells := a_p0_cells) (i_p0_seats := i_p0_seats) (i_p0_stirs := i_p0_stirs) (i_p0_dSeats := i_p0_dSeats) (i_p0_dStirs := i_p0_dStirs) (i_p0_told := i_p0_told) (i_p0_highest := i_p0_highest) (i_p0_taped := i_p0_taped) (i_p0_pos := i_p0_pos) (i_p0_from := i_p0_from) (i_p0_sort := i_p0_sort) (i_p0_value := i_p0_value) (i_p0_fault := i_p0_fault) (i_p0_wrongAt := i_p0_wrongAt) (i_p0_torn := i_p0_torn) (x1 := x1) (r := z1) (hf := hcall)) (cwV 1 hts gX12_firm_X12_isStir rfl rfl rfl (by decide +kernel) ⟨Nat.le_of_ble_eq_true rfl, Nat.le_of_ble_eq_true rfl⟩) (preG_V (ci := 12) (hP.sub [0] rfl) (hD.sub [0] rfl rfl) hK rfl rfl) rfl rfl hl.1 rfl (lv_room (Nat.le_of_ble_eq_true rfl)) dX12_firm_2 ⟨Nat.le_of_ble_eq_true rfl, Nat.le_of_ble_eq_true rfl⟩) hP hD hS hA [0] [] [0] rfl rfl rfl (by decide) rfl rfl rfl (fun H locs hP hD hS => ?_)
  clear hcall
  refine lv_if_ne (tgt := 10) hx hb dX12_firm_5 (by decide) (fun cc => ?_) (fun cc => ?_)
  ·
    replace hf := ite_f cc hf
    clear cc
    refine lv_iconst (v := (0 : Int32)) hx hb dX12_firm_10 (by decide) ?_
    refine lv_topi (fun z2 ez => ?_)
    replace hf := bnd_s hf ez
    clear ez
    refine lv_istore_n (lv' := [(2, .int z2), (0, .ref a_p0), (1, .int x1)]) hx hb dX12_firm_11 rfl hl (by decide) rfl (fun ls hl => ?_)
    refine lv_iconst (v := (0 : Int32)) hx hb dX12_firm_12 (by decide) ?_
    refine lv_topi (fun z3 ez => ?_)
    replace hf := bnd_s hf ez
    clear ez
    refine lv_istore_n (lv' := [(3, .int z3), (2, .int z2), (0, .ref a_p0), (1, .int x1)]) hx hb dX12_firm_13 rfl hl (by decide) rfl (fun ls hl => ?_)
    have hq := lq2_i hf
    clear hf
    obtain ⟨B6, eB6, NB6, hf⟩ := hq
    have hB6 : ∀ (n : Nat) (z4 : Int32) (z5 : Int32) (ls : Array Slot) (H : Heap) (locs : List Loc), lv_has ls 4 [(3, .int z4), (2, .int z5), (0, .ref a_p0), (1, .int x1)] → va_P D vwCl [(a_p0, .inr (12, [.ref a_p0_st, .ref a_p0_isKept, .int i_p0_seats, .int i_p0_stirs, .ref a_p0_brings, .ref a_p0_need, .ref a_p0_draft, .int i_p0_dSeats, .int i_p0_dStirs, .ref a_p0_dStir, .ref a_p0_dNeed, .int i_p0_told, .int i_p0_highest, .ref a_p0_tape, .int i_p0_taped, .int i_p0_pos, .int i_p0_from, .int i_p0_sort, .int i_p0_value, .int i_p0_fault, .int i_p0_wrongAt, .ref a_p0_places, .ref a_p0_stirred, .ref a_p0_ways, .ref a_p0_waysThen, .ref a_p0_stays, .ref a_p0_fewest, .ref a_p0_bowls, .ref a_p0_has, .ref a_p0_goesOn, .ref a_p0_isThere, .ref a_p0_isThereThen, .ref a_p0_bestRow, .ref a_p0_lanes, .ref a_p0_sizes, .ref a_p0_cells, .int i_p0_torn]))] H → va_D A [(a_p0, .inr (12, [.ref a_p0_st, .ref a_p0_isKept, .int i_p0_seats, .int i_p0_stirs, .ref a_p0_brings, .ref a_p0_need, .ref a_p0_draft, .int i_p0_dSeats, .int i_p0_dStirs, .ref a_p0_dStir, .ref a_p0_dNeed, .int i_p0_told, .int i_p0_highest, .ref a_p0_tape, .int i_p0_taped, .int i_p0_pos, .int i_p0_from, .int i_p0_sort, .int i_p0_value, .int i_p0_fault, .int i_p0_wrongAt, .ref a_p0_places, .ref a_p0_stirred, .ref a_p0_ways, .ref a_p0_waysThen, .ref a_p0_stays, .ref a_p0_fewest, .ref a_p0_bowls, .ref a_p0_has, .ref a_p0_goesOn, .ref a_p0_isThere, .ref a_p0_isThereThen, .ref a_p0_bestRow, .ref a_p0_lanes, .ref a_p0_sizes, .ref a_p0_cells, .int i_p0_torn]))] → va_S A s.heap H locs → lq2 B6 n z4 z5 = some r → W p l e rm_X12_firm s m ([.ref a_p0, .int x1] : List Value).toArray below meth c H locs 0 0 Q (F0 m 14 ls []) := by
      clear hf hl hP hD hS
      intro n
      induction n with
      | zero =>
        intro z4 z5 ls H locs hl hP hD hS hf
        exact (lq2_0 hf).elim
      | succ n ih14 =>
        intro z4 z5 ls H locs hl hP hD hS hf
        replace hf := lq2_s eB6 hf
        unfold B_X12_firm_14 at hf
        refine lv_iload_n hx hb dX12_firm_14 rfl (lv_at hl 0 rfl) ?_
        refine lv_aload_n hx hb dX12_firm_15 rfl (lv_at hl 2 rfl) ?_
        refine va_get (D := D) (ci := 12) (v := .int i_p0_seats) (C := RX12) (T := TX12) (N := 37) hx hb hts inX12_firm_X12 hown hK hP 0 rfl rfl 2 (by decide) (hts _ mwX12_firm_1) (fun _ h9 => h9) rfl dX12_firm_16 ?_
        refine lv_icmp_ge (tgt := 52) hx hb dX12_firm_19 (by decide) (fun cc => ?_) (fun cc => ?_)
        ·
          replace hf := ite_t cc hf
          clear cc
          refine lv_iload_n hx hb dX12_firm_52 rfl (lv_at hl 1 rfl) ?_
          obtain rfl := ou1 hf
          rw [hQ]
          exact W.iret hx hb hr (fun t ht hW => ⟨⟨_, (), rfl, rfl, by rw [ht]; exact hP, va_K.moved hW.alike hK, hD⟩, hS.F ht⟩) hS.2.2 dX12_firm_53
        ·
          replace hf := ite_f cc hf
          clear cc
          refine lv_iload_n hx hb dX12_firm_22 rfl (lv_at hl 1 rfl) ?_
          refine lv_aload_n hx hb dX12_firm_23 rfl (lv_at hl 2 rfl) ?_
          refine lv_iload_n hx hb dX12_firm_24 rfl (lv_at hl 0 rfl) ?_
          refine lv_iload_n hx hb dX12_firm_25 rfl (lv_at hl 3 rfl) ?_
          cases hf
    exact hB6 _ _ _ _ _ _ (lv_sub hl [0, 1, 2, 3] rfl) hP hD hS hf
  ·
    replace hf := ite_t cc hf
    clear cc
    refine lv_iconst (v := (-1 : Int32)) hx hb dX12_firm_8 (by decide) ?_
    obtain rfl := ou1 hf
    rw [hQ]
    exact W.iret hx hb hr (fun t ht hW => ⟨⟨_, (), rfl, rfl, by rw [ht]; exact hP, va_K.moved hW.alike hK, hD⟩, hS.F ht⟩) hS.2.2 dX12_firm_9

noncomputable def f_X12_see (i_p0_seats : Int32) (v_p0_st : (Nat → Int32)) (x1 : Int32) : Option (Int32 × (Nat → Int32)) := (bd1 (f_X12_isSeat i_p0_seats x1) (fun (z1 : Int32) => (if z1 = 0 then (some ((-1 : Int32), v_p0_st)) else (ck (ixB (31 : Int32) 152) (if (v_p0_st ((31 : Int32)).toNatClampNeg) = (6 : Int32) then (some ((-3 : Int32), v_p0_st)) else (ck (ixB (31 : Int32) 152) (ck (ixB ((32 : Int32) + (v_p0_st ((31 : Int32)).toNatClampNeg)) 152) (bnd (upd v_p0_st (((32 : Int32) + (v_p0_st ((31 : Int32)).toNatClampNeg))).toNatClampNeg x1) (fun (w2 : (Nat → Int32)) => (ck (ixB (31 : Int32) 152) (ck (ixB (31 : Int32) 152) (bnd (upd w2 ((31 : Int32)).toNatClampNeg ((w2 ((31 : Int32)).toNatClampNeg) + (1 : Int32))) (fun (w3 : (Nat → Int32)) => (ck (ixB (31 : Int32) 152) (some ((w3 ((31 : Int32)).toNatClampNeg), w3))))))))))))))))
abbrev rm_X12_see : Room := { frames := 2, cells := 0, slots := 0, locals := 46 }
theorem inX12_see_X12 : ∀ w ∈ wsX120, w ∈ wsX12_see := by decide +kernel
theorem mwX12_see_1 : Cond.fieldLink RX12 7 "LadleKingsModel" "st" "[I" ∈ wsX12_see := by decide +kernel
set_option maxHeartbeats 8000000 in
set_option maxRecDepth 100000 in
theorem c_X12_see (l : Launch) (D : va_G) (G : Nat → ClassId) (sz : Nat) (a_p0 : Nat) (a_p0_st : Nat) (a_p0_isKept : Nat) (a_p0_brings : Nat) (a_p0_need : Nat) (a_p0_draft : Nat) (a_p0_dStir : Nat) (a_p0_dNeed : Nat) (a_p0_tape : Nat) (a_p0_places : Nat) (a_p0_stirred : Nat) (a_p0_ways : Nat) (a_p0_waysThen : Nat) (a_p0_stays : Nat) (a_p0_fewest : Nat) (a_p0_bowls : Nat) (a_p0_has : Nat) (a_p0_goesOn : Nat) (a_p0_isThere : Nat) (a_p0_isThereThen : Nat) (a_p0_bestRow : Nat) (a_p0_lanes : Nat) (a_p0_sizes : Nat) (a_p0_cells : Nat) (i_p0_seats : Int32) (i_p0_stirs : Int32) (i_p0_dSeats : Int32) (i_p0_dStirs : Int32) (i_p0_told : Int32) (i_p0_highest : Int32) (i_p0_taped : Int32) (i_p0_pos : Int32) (i_p0_from : Int32) (i_p0_sort : Int32) (i_p0_value : Int32) (i_p0_fault : Int32) (i_p0_wrongAt : Int32) (i_p0_torn : Int32) (v_p0_st : (Nat → Int32)) (x1 : Int32) (r : Int32) (o_v_p0_st : (Nat → Int32)) (hf : f_X12_see i_p0_seats v_p0_st x1 = some (r, o_v_p0_st)) : Met l yX12_see wsX12_see rm_X12_see (pcG D G [.ref a_p0, .int x1] sz [(a_p0, .inr (12, [.ref a_p0_st, .ref a_p0_isKept, .int i_p0_seats, .int i_p0_stirs, .ref a_p0_brings, .ref a_p0_need, .ref a_p0_draft, .int i_p0_dSeats, .int i_p0_dStirs, .ref a_p0_dStir, .ref a_p0_dNeed, .int i_p0_told, .int i_p0_highest, .ref a_p0_tape, .int i_p0_taped, .int i_p0_pos, .int i_p0_from, .int i_p0_sort, .int i_p0_value, .int i_p0_fault, .int i_p0_wrongAt, .ref a_p0_places, .ref a_p0_stirred, .ref a_p0_ways, .ref a_p0_waysThen, .ref a_p0_stays, .ref a_p0_fewest, .ref a_p0_bowls, .ref a_p0_has, .ref a_p0_goesOn, .ref a_p0_isThere, .ref a_p0_isThereThen, .ref a_p0_bestRow, .ref a_p0_lanes, .ref a_p0_sizes, .ref a_p0_cells, .int i_p0_torn])), (a_p0_st, .inl (G 1, 152, .inl v_p0_st))]) (qcI D G r [(a_p0, .inr (12, [.ref a_p0_st, .ref a_p0_isKept, .int i_p0_seats, .int i_p0_stirs, .ref a_p0_brings, .ref a_p0_need, .ref a_p0_draft, .int i_p0_dSeats, .int i_p0_dStirs, .ref a_p0_dStir, .ref a_p0_dNeed, .int i_p0_told, .int i_p0_highest, .ref a_p0_tape, .int i_p0_taped, .int i_p0_pos, .int i_p0_from, .int i_p0_sort, .int i_p0_value, .int i_p0_fault, .int i_p0_wrongAt, .ref a_p0_places, .ref a_p0_stirred, .ref a_p0_ways, .ref a_p0_waysThen, .ref a_p0_stays, .ref a_p0_fewest, .ref a_p0_bowls, .ref a_p0_has, .ref a_p0_goesOn, .ref a_p0_isThere, .ref a_p0_isThereThen, .ref a_p0_bestRow, .ref a_p0_lanes, .ref a_p0_sizes, .ref a_p0_cells, .int i_p0_torn])), (a_p0_st, .inl (G 1, 152, .inl o_v_p0_st))] (va_A [(a_p0, .inr (12, [.ref a_p0_st, .ref a_p0_isKept, .int i_p0_seats, .int i_p0_stirs, .ref a_p0_brings, .ref a_p0_need, .ref a_p0_draft, .int i_p0_dSeats, .int i_p0_dStirs, .ref a_p0_dStir, .ref a_p0_dNeed, .int i_p0_told, .int i_p0_highest, .ref a_p0_tape, .int i_p0_taped, .int i_p0_pos, .int i_p0_from, .int i_p0_sort, .int i_p0_value, .int i_p0_fault, .int i_p0_wrongAt, .ref a_p0_places, .ref a_p0_stirred, .ref a_p0_ways, .ref a_p0_waysThen, .ref a_p0_stays, .ref a_p0_fewest, .ref a_p0_bowls, .ref a_p0_has, .ref a_p0_goesOn, .ref a_p0_isThere, .ref a_p0_isThereThen, .ref a_p0_bestRow, .ref a_p0_lanes, .ref a_p0_sizes, .ref a_p0_cells, .int i_p0_torn])), (a_p0_st, .inl (G 1, 152, .inl v_p0_st))] sz)) 0 0 (va_A [(a_p0, .inr (12, [.ref a_p0_st, .ref a_p0_isKept, .int i_p0_seats, .int i_p0_stirs, .ref a_p0_brings, .ref a_p0_need, .ref a_p0_draft, .int i_p0_dSeats, .int i_p0_dStirs, .ref a_p0_dStir, .ref a_p0_dNeed, .int i_p0_told, .int i_p0_highest, .ref a_p0_tape, .int i_p0_taped, .int i_p0_pos, .int i_p0_from, .int i_p0_sort, .int i_p0_value, .int i_p0_fault, .int i_p0_wrongAt, .ref a_p0_places, .ref a_p0_stirred, .ref a_p0_ways, .ref a_p0_waysThen, .ref a_p0_stays, .ref a_p0_fewest, .ref a_p0_bowls, .ref a_p0_has, .ref a_p0_goesOn, .ref a_p0_isThere, .ref a_p0_isThereThen, .ref a_p0_bestRow, .ref a_p0_lanes, .ref a_p0_sizes, .ref a_p0_cells, .int i_p0_torn])), (a_p0_st, .inl (G 1, 152, .inl v_p0_st))] sz) := by
  refine Met.ofW (cc := cX12_see) (maxL := 2) (ret := (some .int)) (by decide) rfl ?_
  intro p e s m args below meth c s₁ B hml hv
  obtain ⟨rfl, hsz, hP, hK, hD0⟩ := hv
  have hx := B.exec
  have hb := B.bytes
  have hr := B.returns
  have hts := atoms_spec (ws := wsX12_see) B.pre
  have hown : s.vm.findClass RX12 = some m.cls := findClass_of_methodNamed B.named
  have hlocks := B.notSynchronized
  subst hsz
  have hD := hD0.self (sz := s.heap.size)
  generalize hAe : va_A [(a_p0, .inr (12, [.ref a_p0_st, .ref a_p0_isKept, .int i_p0_seats, .int i_p0_stirs, .ref a_p0_brings, .ref a_p0_need, .ref a_p0_draft, .int i_p0_dSeats, .int i_p0_dStirs, .ref a_p0_dStir, .ref a_p0_dNeed, .int i_p0_told, .int i_p0_highest, .ref a_p0_tape, .int i_p0_taped, .int i_p0_pos, .int i_p0_from, .int i_p0_sort, .int i_p0_value, .int i_p0_fault, .int i_p0_wrongAt, .ref a_p0_places, .ref a_p0_stirred, .ref a_p0_ways, .ref a_p0_waysThen, .ref a_p0_stays, .ref a_p0_fewest, .ref a_p0_bowls, .ref a_p0_has, .ref a_p0_goesOn, .ref a_p0_isThere, .ref a_p0_isThereThen, .ref a_p0_bestRow, .ref a_p0_lanes, .ref a_p0_sizes, .ref a_p0_cells, .int i_p0_torn])), (a_p0_st, .inl (G 1, 152, .inl v_p0_st))] s.heap.size = A at hD ⊢
  have hA : ∀ q : Nat, s.heap.size ≤ q → A q := fun q h => by rw [← hAe]; exact Or.inr h
  clear hAe hD0
  have hS : va_S A s.heap s.heap [] := va_S.rf
  have hl := lv_entry ([.ref a_p0, .int x1]) (n := 2) (Nat.le_of_ble_eq_true rfl)
  rw [lg_entry_eq]
  generalize (lg_sl ([.ref a_p0, .int x1]) ++ List.replicate (2 - (lg_sl ([.ref a_p0, .int x1])).length) Slot.unset).toArray = ls at hl ⊢
  have hl : lv_has ls 2 [(0, .ref a_p0), (1, .int x1)] := hl
  refine W_nameQ (fun Q hQ => ?_)
  obtain ⟨H, hH⟩ : ∃ H, H = s.heap := ⟨_, rfl⟩
  replace hS : va_S A s.heap H [] := by rw [hH]; exact hS
  replace hP : va_P D vwCl [(a_p0, .inr (12, [.ref a_p0_st, .ref a_p0_isKept, .int i_p0_seats, .int i_p0_stirs, .ref a_p0_brings, .ref a_p0_need, .ref a_p0_draft, .int i_p0_dSeats, .int i_p0_dStirs, .ref a_p0_dStir, .ref a_p0_dNeed, .int i_p0_told, .int i_p0_highest, .ref a_p0_tape, .int i_p0_taped, .int i_p0_pos, .int i_p0_from, .int i_p0_sort, .int i_p0_value, .int i_p0_fault, .int i_p0_wrongAt, .ref a_p0_places, .ref a_p0_stirred, .ref a_p0_ways, .ref a_p0_waysThen, .ref a_p0_stays, .ref a_p0_fewest, .ref a_p0_bowls, .ref a_p0_has, .ref a_p0_goesOn, .ref a_p0_isThere, .ref a_p0_isThereThen, .ref a_p0_bestRow, .ref a_p0_lanes, .ref a_p0_sizes, .ref a_p0_cells, .int i_p0_torn])), (a_p0_st, .inl (G 1, 152, .inl v_p0_st))] H := by rw [hH]; exact hP
  rw [← hH]
  clear hH
  unfold f_X12_see at hf
  refine lv_aload_n hx hb dX12_see_0 rfl (lv_at hl 0 rfl) ?_
  refine lv_iload_n hx hb dX12_see_1 rfl (lv_at hl 1 rfl) ?_
  have hq := bd1_s hf
  clear hf
  obtain ⟨z1, hcall, hf⟩ := hq
  refine gcI (ws' := [(a_p0, .inr (12, [.ref a_p0_st, .ref a_p0_isKept, .int i_p0_seats, .int i_p0_stirs, .ref a_p0_brings, .ref a_p0_need, .ref a_p0_draft, .int i_p0_dSeats, .int i_p0_dStirs, .ref a_p0_dStir, .ref a_p0_dNeed, .int i_p0_told, .int i_p0_highest, .ref a_p0_tape, .int i_p0_taped, .int i_p0_pos, .int i_p0_from, .int i_p0_sort, .int i_p0_value, .int i_p0_fault, .int i_p0_wrongAt, .ref a_p0_places, .ref a_p0_stirred, .ref a_p0_ways, .ref a_p0_waysThen, .ref a_p0_stays, .ref a_p0_fewest, .ref a_p0_bowls, .ref a_p0_has, .ref a_p0_goesOn, .ref a_p0_isThere, .ref a_p0_isThereThen, .ref a_p0_bestRow, .ref a_p0_lanes, .ref a_p0_sizes, .ref a_p0_cells, .int i_p0_torn])), (a_p0_st, .inl (G 1, 152, .inl v_p0_st))]) (va_runV (As := [.int x1]) (rest := []) ⟨hx, hb, hml, hown, hts⟩ (c_X12_isSeat (l := l) (D := D) (G := G) (sz := H.size) (a_p0 := a_p0) (a_p0_st := a_p0_st) (a_p0_isKept := a_p0_isKept) (a_p0_brings := a_p0_brings) (a_p0_need := a_p0_need) (a_p0_draft := a_p0_draft) (a_p0_dStir := a_p0_dStir) (a_p0_dNeed := a_p0_dNeed) (a_p0_tape := a_p0_tape) (a_p0_places := a_p0_places) (a_p0_stirred := a_p0_stirred) (a_p0_ways := a_p0_ways) (a_p0_waysThen := a_p0_waysThen) (a_p0_stays := a_p0_stays) (a_p0_fewest := a_p0_fewest) (a_p0_bowls := a_p0_bowls) (a_p0_has := a_p0_has) (a_p0_goesOn := a_p0_goesOn) (a_p0_isThere := a_p0_isThere) (a_p0_isThereThen := a_p0_isThereThen) (a_p0_bestRow := a_p0_bestRow) (a_p0_lanes := a_p0_lanes) (a_p0_sizes := a_p0_sizes) (a_p0_cells := a_p0_cells) (i_p0_seats := i_p0_seats) (i_p0_stirs := i_p0_stirs) (i_p0_dSeats := i_p0_dSeats) (i_p0_dStirs := i_p0_dStirs) (i_p0_told := i_p0_told) (i_p0_highest := i_p0_highest) (i_p0_taped := i_p0_taped) (i_p0_pos := i_p0_pos) (i_p0_from := i_p0_from) (i_p0_sort := i_p0_sort) (i_p0_value := i_p0_value) (i_p0_fault := i_p0_fault) (i_p0_wrongAt := i_p0_wrongAt) (i_p0_torn := i_p0_torn) (x1 := x1) (r := z1) (hf := hcall)) (cwV 1 hts gX12_see_X12_isSeat rfl rfl rfl (by decide +kernel) ⟨Nat.le_of_ble_eq_true rfl, Nat.le_of_ble_eq_true rfl⟩) (preG_V (ci := 12) (hP.sub [0] rfl) (hD.sub [0] rfl rfl) hK rfl rfl) rfl rfl hl.1 rfl (lv_room (Nat.le_of_ble_eq_true rfl)) dX12_see_2 ⟨Nat.le_of_ble_eq_true rfl, Nat.le_of_ble_eq_true rfl⟩) hP hD hS hA [0] [1] [1, 0] rfl rfl rfl (by decide) rfl rfl rfl (fun H locs hP hD hS => ?_)
  clear hcall
  refine lv_if_ne (tgt := 10) hx hb dX12_see_5 (by decide) (fun cc => ?_) (fun cc => ?_)
  ·
    replace hf := ite_f cc hf
    clear cc
    refine lv_aload_n hx hb dX12_see_10 rfl (lv_at hl 0 rfl) ?_
    refine va_get (D := D) (ci := 12) (v := .ref a_p0_st) (C := RX12) (T := TX12) (N := 37) hx hb hts inX12_see_X12 hown hK hP 0 rfl rfl 0 (by decide) (hts _ mwX12_see_1) (fun _ h9 => h9) rfl dX12_see_11 ?_
    refine lv_bipush (v := (31 : Int32)) hx hb dX12_see_14 (by decide) ?_
    have hc := ck_c hf
    replace hf := ck_r hf
    refine va_iald hx hb hK hP 1 1 rfl rfl (ixB_in hc) dX12_see_16 ?_
    clear hc
    refine lv_bipush (v := (6 : Int32)) hx hb dX12_see_17 (by decide) ?_
    refine lv_icmp_ne (tgt := 25) hx hb dX12_see_19 (by decide) (fun cc => ?_) (fun cc => ?_)
    ·
      replace hf := ite_f cc hf
      clear cc
      refine lv_aload_n hx hb dX12_see_25 rfl (lv_at hl 0 rfl) ?_
      refine va_get (D := D) (ci := 12) (v := .ref a_p0_st) (C := RX12) (T := TX12) (N := 37) hx hb hts inX12_see_X12 hown hK hP 0 rfl rfl 0 (by decide) (hts _ mwX12_see_1) (fun _ h9 => h9) rfl dX12_see_26 ?_
      refine lv_bipush (v := (32 : Int32)) hx hb dX12_see_29 (by decide) ?_
      refine lv_aload_n hx hb dX12_see_31 rfl (lv_at hl 0 rfl) ?_
      refine va_get (D := D) (ci := 12) (v := .ref a_p0_st) (C := RX12) (T := TX12) (N := 37) hx hb hts inX12_see_X12 hown hK hP 0 rfl rfl 0 (by decide) (hts _ mwX12_see_1) (fun _ h9 => h9) rfl dX12_see_32 ?_
      refine lv_bipush (v := (31 : Int32)) hx hb dX12_see_35 (by decide) ?_
      have hc := ck_c hf
      replace hf := ck_r hf
      refine va_iald hx hb hK hP 1 1 rfl rfl (ixB_in hc) dX12_see_37 ?_
      clear hc
      refine lv_iadd hx hb dX12_see_38 ?_
      refine lv_iload_n hx hb dX12_see_39 rfl (lv_at hl 1 rfl) ?_
      have hc := ck_c hf
      replace hf := ck_r hf
      refine gs_iast (wf := fun w2 => [(a_p0, .inr (12, [.ref a_p0_st, .ref a_p0_isKept, .int i_p0_seats, .int i_p0_stirs, .ref a_p0_brings, .ref a_p0_need, .ref a_p0_draft, .int i_p0_dSeats, .int i_p0_dStirs, .ref a_p0_dStir, .ref a_p0_dNeed, .int i_p0_told, .int i_p0_highest, .ref a_p0_tape, .int i_p0_taped, .int i_p0_pos, .int i_p0_from, .int i_p0_sort, .int i_p0_value, .int i_p0_fault, .int i_p0_wrongAt, .ref a_p0_places, .ref a_p0_stirred, .ref a_p0_ways, .ref a_p0_waysThen, .ref a_p0_stays, .ref a_p0_fewest, .ref a_p0_bowls, .ref a_p0_has, .ref a_p0_goesOn, .ref a_p0_isThere, .ref a_p0_isThereThen, .ref a_p0_bestRow, .ref a_p0_lanes, .ref a_p0_sizes, .ref a_p0_cells, .int i_p0_torn])), (a_p0_st, .inl (G 1, 152, .inl w2))]) hx hb hK hP hD hS 1 1 rfl rfl (ixB_in hc) dX12_see_40 (fun _ => rfl) (fun w2 ez H locs hP hD hS => ?_)
      replace hf := bnd_s hf ez
      clear ez hc
      refine lv_aload_n hx hb dX12_see_41 rfl (lv_at hl 0 rfl) ?_
      refine va_get (D := D) (ci := 12) (v := .ref a_p0_st) (C := RX12) (T := TX12) (N := 37) hx hb hts inX12_see_X12 hown hK hP 0 rfl rfl 0 (by decide) (hts _ mwX12_see_1) (fun _ h9 => h9) rfl dX12_see_42 ?_
      refine lv_bipush (v := (31 : Int32)) hx hb dX12_see_45 (by decide) ?_
      refine lv_dup2_11 hx hb dX12_see_47 rfl rfl ?_
      have hc := ck_c hf
      replace hf := ck_r hf
      refine va_iald hx hb hK hP 1 1 rfl rfl (ixB_in hc) dX12_see_48 ?_
      clear hc
      refine lv_iconst (v := (1 : Int32)) hx hb dX12_see_49 (by decide) ?_
      refine lv_iadd hx hb dX12_see_50 ?_
      have hc := ck_c hf
      replace hf := ck_r hf
      refine gs_iast (wf := fun w3 => [(a_p0, .inr (12, [.ref a_p0_st, .ref a_p0_isKept, .int i_p0_seats, .int i_p0_stirs, .ref a_p0_brings, .ref a_p0_need, .ref a_p0_draft, .int i_p0_dSeats, .int i_p0_dStirs, .ref a_p0_dStir, .ref a_p0_dNeed, .int i_p0_told, .int i_p0_highest, .ref a_p0_tape, .int i_p0_taped, .int i_p0_pos, .int i_p0_from, .int i_p0_sort, .int i_p0_value, .int i_p0_fault, .int i_p0_wrongAt, .ref a_p0_places, .ref a_p0_stirred, .ref a_p0_ways, .ref a_p0_waysThen, .ref a_p0_stays, .ref a_p0_fewest, .ref a_p0_bowls, .ref a_p0_has, .ref a_p0_goesOn, .ref a_p0_isThere, .ref a_p0_isThereThen, .ref a_p0_bestRow, .ref a_p0_lanes, .ref a_p0_sizes, .ref a_p0_cells, .int i_p0_torn])), (a_p0_st, .inl (G 1, 152, .inl w3))]) hx hb hK hP hD hS 1 1 rfl rfl (ixB_in hc) dX12_see_51 (fun _ => rfl) (fun w3 ez H locs hP hD hS => ?_)
      replace hf := bnd_s hf ez
      clear ez hc
      refine lv_aload_n hx hb dX12_see_52 rfl (lv_at hl 0 rfl) ?_
      refine va_get (D := D) (ci := 12) (v := .ref a_p0_st) (C := RX12) (T := TX12) (N := 37) hx hb hts inX12_see_X12 hown hK hP 0 rfl rfl 0 (by decide) (hts _ mwX12_see_1) (fun _ h9 => h9) rfl dX12_see_53 ?_
      refine lv_bipush (v := (31 : Int32)) hx hb dX12_see_56 (by decide) ?_
      have hc := ck_c hf
      replace hf := ck_r hf
      refine va_iald hx hb hK hP 1 1 rfl rfl (ixB_in hc) dX12_see_58 ?_
      clear hc
      obtain ⟨rfl, rfl⟩ := ou2 hf
      rw [hQ]
      exact W.iret hx hb hr (fun t ht hW => ⟨⟨_, (), rfl, rfl, by rw [ht]; exact hP, va_K.moved hW.alike hK, hD⟩, hS.F ht⟩) hS.2.2 dX12_see_59
    ·
      replace hf := ite_t cc hf
      clear cc
      refine lv_bipush (v := (-3 : Int32)) hx hb dX12_see_22 (by decide) ?_
      obtain ⟨rfl, rfl⟩ := ou2 hf
      rw [hQ]
      exact W.iret hx hb hr (fun t ht hW => ⟨⟨_, (), rfl, rfl, by rw [ht]; exact hP, va_K.moved hW.alike hK, hD⟩, hS.F ht⟩) hS.2.2 dX12_see_24
  ·
    replace hf := ite_t cc hf
    clear cc
    refine lv_iconst (v := (-1 : Int32)) hx hb dX12_see_8 (by decide) ?_
    obtain ⟨rfl, rfl⟩ := ou2 hf
    rw [hQ]
    exact W.iret hx hb hr (fun t ht hW => ⟨⟨_, (), rfl, rfl, by rw [ht]; exact hP, va_K.moved hW.alike hK, hD⟩, hS.F ht⟩) hS.2.2 dX12_see_9

noncomputable def f_X12_forget (v_p0_st : (Nat → Int32)) (x1 : Int32) : Option (Int32 × (Nat → Int32)) := (ck (ixB (31 : Int32) 152) (bd1 (f_X12_in (x1).toInt64 (0 : Int64) ((v_p0_st ((31 : Int32)).toNatClampNeg)).toInt64) (fun (z1 : Int32) => (if z1 = 0 then (some ((-1 : Int32), v_p0_st)) else (ck (ixB (31 : Int32) 152) (bnd (v_p0_st ((31 : Int32)).toNatClampNeg) (fun (z2 : Int32) => (ck (ixB (31 : Int32) 152) (bnd (upd v_p0_st ((31 : Int32)).toNatClampNeg x1) (fun (w3 : (Nat → Int32)) => (some (z2, w3))))))))))))
abbrev rm_X12_forget : Room := { frames := 1, cells := 0, slots := 0, locals := 25 }
theorem inX12_forget_X12 : ∀ w ∈ wsX120, w ∈ wsX12_forget := by decide +kernel
theorem mwX12_forget_1 : Cond.fieldLink RX12 7 "LadleKingsModel" "st" "[I" ∈ wsX12_forget := by decide +kernel
set_option maxHeartbeats 8000000 in
set_option maxRecDepth 100000 in
theorem c_X12_forget (l : Launch) (D : va_G) (G : Nat → ClassId) (sz : Nat) (a_p0 : Nat) (a_p0_st : Nat) (a_p0_isKept : Nat) (a_p0_brings : Nat) (a_p0_need : Nat) (a_p0_draft : Nat) (a_p0_dStir : Nat) (a_p0_dNeed : Nat) (a_p0_tape : Nat) (a_p0_places : Nat) (a_p0_stirred : Nat) (a_p0_ways : Nat) (a_p0_waysThen : Nat) (a_p0_stays : Nat) (a_p0_fewest : Nat) (a_p0_bowls : Nat) (a_p0_has : Nat) (a_p0_goesOn : Nat) (a_p0_isThere : Nat) (a_p0_isThereThen : Nat) (a_p0_bestRow : Nat) (a_p0_lanes : Nat) (a_p0_sizes : Nat) (a_p0_cells : Nat) (i_p0_seats : Int32) (i_p0_stirs : Int32) (i_p0_dSeats : Int32) (i_p0_dStirs : Int32) (i_p0_told : Int32) (i_p0_highest : Int32) (i_p0_taped : Int32) (i_p0_pos : Int32) (i_p0_from : Int32) (i_p0_sort : Int32) (i_p0_value : Int32) (i_p0_fault : Int32) (i_p0_wrongAt : Int32) (i_p0_torn : Int32) (v_p0_st : (Nat → Int32)) (x1 : Int32) (r : Int32) (o_v_p0_st : (Nat → Int32)) (hf : f_X12_forget v_p0_st x1 = some (r, o_v_p0_st)) : Met l yX12_forget wsX12_forget rm_X12_forget (pcG D G [.ref a_p0, .int x1] sz [(a_p0, .inr (12, [.ref a_p0_st, .ref a_p0_isKept, .int i_p0_seats, .int i_p0_stirs, .ref a_p0_brings, .ref a_p0_need, .ref a_p0_draft, .int i_p0_dSeats, .int i_p0_dStirs, .ref a_p0_dStir, .ref a_p0_dNeed, .int i_p0_told, .int i_p0_highest, .ref a_p0_tape, .int i_p0_taped, .int i_p0_pos, .int i_p0_from, .int i_p0_sort, .int i_p0_value, .int i_p0_fault, .int i_p0_wrongAt, .ref a_p0_places, .ref a_p0_stirred, .ref a_p0_ways, .ref a_p0_waysThen, .ref a_p0_stays, .ref a_p0_fewest, .ref a_p0_bowls, .ref a_p0_has, .ref a_p0_goesOn, .ref a_p0_isThere, .ref a_p0_isThereThen, .ref a_p0_bestRow, .ref a_p0_lanes, .ref a_p0_sizes, .ref a_p0_cells, .int i_p0_torn])), (a_p0_st, .inl (G 1, 152, .inl v_p0_st))]) (qcI D G r [(a_p0, .inr (12, [.ref a_p0_st, .ref a_p0_isKept, .int i_p0_seats, .int i_p0_stirs, .ref a_p0_brings, .ref a_p0_need, .ref a_p0_draft, .int i_p0_dSeats, .int i_p0_dStirs, .ref a_p0_dStir, .ref a_p0_dNeed, .int i_p0_told, .int i_p0_highest, .ref a_p0_tape, .int i_p0_taped, .int i_p0_pos, .int i_p0_from, .int i_p0_sort, .int i_p0_value, .int i_p0_fault, .int i_p0_wrongAt, .ref a_p0_places, .ref a_p0_stirred, .ref a_p0_ways, .ref a_p0_waysThen, .ref a_p0_stays, .ref a_p0_fewest, .ref a_p0_bowls, .ref a_p0_has, .ref a_p0_goesOn, .ref a_p0_isThere, .ref a_p0_isThereThen, .ref a_p0_bestRow, .ref a_p0_lanes, .ref a_p0_sizes, .ref a_p0_cells, .int i_p0_torn])), (a_p0_st, .inl (G 1, 152, .inl o_v_p0_st))] (va_A [(a_p0, .inr (12, [.ref a_p0_st, .ref a_p0_isKept, .int i_p0_seats, .int i_p0_stirs, .ref a_p0_brings, .ref a_p0_need, .ref a_p0_draft, .int i_p0_dSeats, .int i_p0_dStirs, .ref a_p0_dStir, .ref a_p0_dNeed, .int i_p0_told, .int i_p0_highest, .ref a_p0_tape, .int i_p0_taped, .int i_p0_pos, .int i_p0_from, .int i_p0_sort, .int i_p0_value, .int i_p0_fault, .int i_p0_wrongAt, .ref a_p0_places, .ref a_p0_stirred, .ref a_p0_ways, .ref a_p0_waysThen, .ref a_p0_stays, .ref a_p0_fewest, .ref a_p0_bowls, .ref a_p0_has, .ref a_p0_goesOn, .ref a_p0_isThere, .ref a_p0_isThereThen, .ref a_p0_bestRow, .ref a_p0_lanes, .ref a_p0_sizes, .ref a_p0_cells, .int i_p0_torn])), (a_p0_st, .inl (G 1, 152, .inl v_p0_st))] sz)) 0 0 (va_A [(a_p0, .inr (12, [.ref a_p0_st, .ref a_p0_isKept, .int i_p0_seats, .int i_p0_stirs, .ref a_p0_brings, .ref a_p0_need, .ref a_p0_draft, .int i_p0_dSeats, .int i_p0_dStirs, .ref a_p0_dStir, .ref a_p0_dNeed, .int i_p0_told, .int i_p0_highest, .ref a_p0_tape, .int i_p0_taped, .int i_p0_pos, .int i_p0_from, .int i_p0_sort, .int i_p0_value, .int i_p0_fault, .int i_p0_wrongAt, .ref a_p0_places, .ref a_p0_stirred, .ref a_p0_ways, .ref a_p0_waysThen, .ref a_p0_stays, .ref a_p0_fewest, .ref a_p0_bowls, .ref a_p0_has, .ref a_p0_goesOn, .ref a_p0_isThere, .ref a_p0_isThereThen, .ref a_p0_bestRow, .ref a_p0_lanes, .ref a_p0_sizes, .ref a_p0_cells, .int i_p0_torn])), (a_p0_st, .inl (G 1, 152, .inl v_p0_st))] sz) := by
  refine Met.ofW (cc := cX12_forget) (maxL := 3) (ret := (some .int)) (by decide) rfl ?_
  intro p e s m args below meth c s₁ B hml hv
  obtain ⟨rfl, hsz, hP, hK, hD0⟩ := hv
  have hx := B.exec
  have hb := B.bytes
  have hr := B.returns
  have hts := atoms_spec (ws := wsX12_forget) B.pre
  have hown : s.vm.findClass RX12 = some m.cls := findClass_of_methodNamed B.named
  have hlocks := B.notSynchronized
  subst hsz
  have hD := hD0.self (sz := s.heap.size)
  generalize hAe : va_A [(a_p0, .inr (12, [.ref a_p0_st, .ref a_p0_isKept, .int i_p0_seats, .int i_p0_stirs, .ref a_p0_brings, .ref a_p0_need, .ref a_p0_draft, .int i_p0_dSeats, .int i_p0_dStirs, .ref a_p0_dStir, .ref a_p0_dNeed, .int i_p0_told, .int i_p0_highest, .ref a_p0_tape, .int i_p0_taped, .int i_p0_pos, .int i_p0_from, .int i_p0_sort, .int i_p0_value, .int i_p0_fault, .int i_p0_wrongAt, .ref a_p0_places, .ref a_p0_stirred, .ref a_p0_ways, .ref a_p0_waysThen, .ref a_p0_stays, .ref a_p0_fewest, .ref a_p0_bowls, .ref a_p0_has, .ref a_p0_goesOn, .ref a_p0_isThere, .ref a_p0_isThereThen, .ref a_p0_bestRow, .ref a_p0_lanes, .ref a_p0_sizes, .ref a_p0_cells, .int i_p0_torn])), (a_p0_st, .inl (G 1, 152, .inl v_p0_st))] s.heap.size = A at hD ⊢
  have hA : ∀ q : Nat, s.heap.size ≤ q → A q := fun q h => by rw [← hAe]; exact Or.inr h
  clear hAe hD0
  have hS : va_S A s.heap s.heap [] := va_S.rf
  have hl := lv_entry ([.ref a_p0, .int x1]) (n := 3) (Nat.le_of_ble_eq_true rfl)
  rw [lg_entry_eq]
  generalize (lg_sl ([.ref a_p0, .int x1]) ++ List.replicate (3 - (lg_sl ([.ref a_p0, .int x1])).length) Slot.unset).toArray = ls at hl ⊢
  have hl : lv_has ls 3 [(0, .ref a_p0), (1, .int x1)] := hl
  refine W_nameQ (fun Q hQ => ?_)
  obtain ⟨H, hH⟩ : ∃ H, H = s.heap := ⟨_, rfl⟩
  replace hS : va_S A s.heap H [] := by rw [hH]; exact hS
  replace hP : va_P D vwCl [(a_p0, .inr (12, [.ref a_p0_st, .ref a_p0_isKept, .int i_p0_seats, .int i_p0_stirs, .ref a_p0_brings, .ref a_p0_need, .ref a_p0_draft, .int i_p0_dSeats, .int i_p0_dStirs, .ref a_p0_dStir, .ref a_p0_dNeed, .int i_p0_told, .int i_p0_highest, .ref a_p0_tape, .int i_p0_taped, .int i_p0_pos, .int i_p0_from, .int i_p0_sort, .int i_p0_value, .int i_p0_fault, .int i_p0_wrongAt, .ref a_p0_places, .ref a_p0_stirred, .ref a_p0_ways, .ref a_p0_waysThen, .ref a_p0_stays, .ref a_p0_fewest, .ref a_p0_bowls, .ref a_p0_has, .ref a_p0_goesOn, .ref a_p0_isThere, .ref a_p0_isThereThen, .ref a_p0_bestRow, .ref a_p0_lanes, .ref a_p0_sizes, .ref a_p0_cells, .int i_p0_torn])), (a_p0_st, .inl (G 1, 152, .inl v_p0_st))] H := by rw [hH]; exact hP
  rw [← hH]
  clear hH
  unfold f_X12_forget at hf
  refine lv_iload_n hx hb dX12_forget_0 rfl (lv_at hl 1 rfl) ?_
  refine lv_i2l hx hb dX12_forget_1 rfl ?_
  refine lv_lconst (v := (0 : Int64)) hx hb dX12_forget_2 (by decide) ?_
  refine lv_aload_n hx hb dX12_forget_3 rfl (lv_at hl 0 rfl) ?_
  refine va_get (D := D) (ci := 12) (v := .ref a_p0_st) (C := RX12) (T := TX12) (N := 37) hx hb hts inX12_forget_X12 hown hK hP 0 rfl rfl 0 (by decide) (hts _ mwX12_forget_1) (fun _ h9 => h9) rfl dX12_forget_4 ?_
  refine lv_bipush (v := (31 : Int32)) hx hb dX12_forget_7 (by decide) ?_
  have hc := ck_c hf
  replace hf := ck_r hf
  refine va_iald hx hb hK hP 1 1 rfl rfl (ixB_in hc) dX12_forget_9 ?_
  clear hc
  refine lv_i2l hx hb dX12_forget_10 rfl ?_
  have hq := bd1_s hf
  clear hf
  obtain ⟨z1, hcall, hf⟩ := hq
  refine gcI (ws' := [(a_p0, .inr (12, [.ref a_p0_st, .ref a_p0_isKept, .int i_p0_seats, .int i_p0_stirs, .ref a_p0_brings, .ref a_p0_need, .ref a_p0_draft, .int i_p0_dSeats, .int i_p0_dStirs, .ref a_p0_dStir, .ref a_p0_dNeed, .int i_p0_told, .int i_p0_highest, .ref a_p0_tape, .int i_p0_taped, .int i_p0_pos, .int i_p0_from, .int i_p0_sort, .int i_p0_value, .int i_p0_fault, .int i_p0_wrongAt, .ref a_p0_places, .ref a_p0_stirred, .ref a_p0_ways, .ref a_p0_waysThen, .ref a_p0_stays, .ref a_p0_fewest, .ref a_p0_bowls, .ref a_p0_has, .ref a_p0_goesOn, .ref a_p0_isThere, .ref a_p0_isThereThen, .ref a_p0_bestRow, .ref a_p0_lanes, .ref a_p0_sizes, .ref a_p0_cells, .int i_p0_torn])), (a_p0_st, .inl (G 1, 152, .inl v_p0_st))]) (va_runS (As := [.long (x1).toInt64, .long (0 : Int64), .long ((v_p0_st ((31 : Int32)).toNatClampNeg)).toInt64]) (rest := []) ⟨hx, hb, hml, hown, hts⟩ (c_X12_in (l := l) (D := D) (G := G) (sz := H.size) (x0 := (x1).toInt64) (x2 := (0 : Int64)) (x4 := ((v_p0_st ((31 : Int32)).toNatClampNeg)).toInt64) (r := z1) (hf := hcall)) (va_cwS 3 hts gX12_forget_X12_in rfl rfl rfl (by decide +kernel) ⟨Nat.le_of_ble_eq_true rfl, Nat.le_of_ble_eq_true rfl⟩) (preG_S (hP.sub [] rfl) (hD.sub [] rfl rfl) hK) rfl rfl hl.1 rfl (lv_room (Nat.le_of_ble_eq_true rfl)) dX12_forget_11 ⟨Nat.le_of_ble_eq_true rfl, Nat.le_of_ble_eq_true rfl⟩) hP hD hS hA [] [0, 1] [0, 1] rfl rfl rfl (by decide) rfl rfl rfl (fun H locs hP hD hS => ?_)
  clear hcall
  refine lv_if_ne (tgt := 19) hx hb dX12_forget_14 (by decide) (fun cc => ?_) (fun cc => ?_)
  ·
    replace hf := ite_f cc hf
    clear cc
    refine lv_aload_n hx hb dX12_forget_19 rfl (lv_at hl 0 rfl) ?_
    refine va_get (D := D) (ci := 12) (v := .ref a_p0_st) (C := RX12) (T := TX12) (N := 37) hx hb hts inX12_forget_X12 hown hK hP 0 rfl rfl 0 (by decide) (hts _ mwX12_forget_1) (fun _ h9 => h9) rfl dX12_forget_20 ?_
    refine lv_bipush (v := (31 : Int32)) hx hb dX12_forget_23 (by decide) ?_
    have hc := ck_c hf
    replace hf := ck_r hf
    refine va_iald hx hb hK hP 1 1 rfl rfl (ixB_in hc) dX12_forget_25 ?_
    clear hc
    refine lv_topi (fun z2 ez => ?_)
    replace hf := bnd_s hf ez
    clear ez
    refine lv_istore_n (lv' := [(2, .int z2), (0, .ref a_p0), (1, .int x1)]) hx hb dX12_forget_26 rfl hl (by decide) rfl (fun ls hl => ?_)
    refine lv_aload_n hx hb dX12_forget_27 rfl (lv_at hl 1 rfl) ?_
    refine va_get (D := D) (ci := 12) (v := .ref a_p0_st) (C := RX12) (T := TX12) (N := 37) hx hb hts inX12_forget_X12 hown hK hP 0 rfl rfl 0 (by decide) (hts _ mwX12_forget_1) (fun _ h9 => h9) rfl dX12_forget_28 ?_
    refine lv_bipush (v := (31 : Int32)) hx hb dX12_forget_31 (by decide) ?_
    refine lv_iload_n hx hb dX12_forget_33 rfl (lv_at hl 2 rfl) ?_
    have hc := ck_c hf
    replace hf := ck_r hf
    refine gs_iast (wf := fun w3 => [(a_p0, .inr (12, [.ref a_p0_st, .ref a_p0_isKept, .int i_p0_seats, .int i_p0_stirs, .ref a_p0_brings, .ref a_p0_need, .ref a_p0_draft, .int i_p0_dSeats, .int i_p0_dStirs, .ref a_p0_dStir, .ref a_p0_dNeed, .int i_p0_told, .int i_p0_highest, .ref a_p0_tape, .int i_p0_taped, .int i_p0_pos, .int i_p0_from, .int i_p0_sort, .int i_p0_value, .int i_p0_fault, .int i_p0_wrongAt, .ref a_p0_places, .ref a_p0_stirred, .ref a_p0_ways, .ref a_p0_waysThen, .ref a_p0_stays, .ref a_p0_fewest, .ref a_p0_bowls, .ref a_p0_has, .ref a_p0_goesOn, .ref a_p0_isThere, .ref a_p0_isThereThen, .ref a_p0_bestRow, .ref a_p0_lanes, .ref a_p0_sizes, .ref a_p0_cells, .int i_p0_torn])), (a_p0_st, .inl (G 1, 152, .inl w3))]) hx hb hK hP hD hS 1 1 rfl rfl (ixB_in hc) dX12_forget_34 (fun _ => rfl) (fun w3 ez H locs hP hD hS => ?_)
    replace hf := bnd_s hf ez
    clear ez hc
    refine lv_iload_n hx hb dX12_forget_35 rfl (lv_at hl 0 rfl) ?_
    obtain ⟨rfl, rfl⟩ := ou2 hf
    rw [hQ]
    exact W.iret hx hb hr (fun t ht hW => ⟨⟨_, (), rfl, rfl, by rw [ht]; exact hP, va_K.moved hW.alike hK, hD⟩, hS.F ht⟩) hS.2.2 dX12_forget_36
  ·
    replace hf := ite_t cc hf
    clear cc
    refine lv_iconst (v := (-1 : Int32)) hx hb dX12_forget_17 (by decide) ?_
    obtain ⟨rfl, rfl⟩ := ou2 hf
    rw [hQ]
    exact W.iret hx hb hr (fun t ht hW => ⟨⟨_, (), rfl, rfl, by rw [ht]; exact hP, va_K.moved hW.alike hK, hD⟩, hS.F ht⟩) hS.2.2 dX12_forget_18

noncomputable def B_X12_findHistories_65 (i_p0_stirs : Int32) (z10 : Int32) (again44 : Int32 → (Nat → Int32) → Option ((Nat → Int32))) (w14 : (Nat → Int32)) (i_p0_seats : Int32) (again65 : Int32 → Option ((Nat → Int32))) (z16 : Int32) : Option ((Nat → Int32)) := (if i_p0_stirs ≤ z16 then (bnd (z10 + (1 : Int32)) (fun (z18 : Int32) => (again44 z18 w14))) else (ck (nzI (7 : Int32)) (if i_p0_seats ≤ (z10 - z10 / (7 : Int32) * (7 : Int32)) then (bnd (z10 + (1 : Int32)) (fun (z19 : Int32) => (again44 z19 w14))) else (ck (nzI (7 : Int32)) (if i_p0_seats ≤ (z10 / (7 : Int32)) then (bnd (z10 + (1 : Int32)) (fun (z20 : Int32) => (again44 z20 w14))) else none)))))
noncomputable def B_X12_findHistories_44 (z6 : Int32) (again38 : Int32 → (Nat → Int32) → Option ((Nat → Int32))) (i_p0_stirs : Int32) (i_p0_seats : Int32) (again44 : Int32 → (Nat → Int32) → Option ((Nat → Int32))) (z10 : Int32) (w11 : (Nat → Int32)) : Option ((Nat → Int32)) := (if (49 : Int32) ≤ z10 then (bnd (z6 + (-1 : Int32)) (fun (z13 : Int32) => (again38 z13 w11))) else (ck (ixB (((49 : Int32) * z6) + z10) 343) (bnd (upd w11 ((((49 : Int32) * z6) + z10)).toNatClampNeg (0 : Int32)) (fun (w14 : (Nat → Int32)) => (bnd (0 : Int32) (fun (z15 : Int32) => (lq1 (B_X12_findHistories_65 i_p0_stirs z10 again44 w14 i_p0_seats) 1000 z15)))))))
noncomputable def B_X12_findHistories_38 (i_p0_stirs : Int32) (i_p0_seats : Int32) (again38 : Int32 → (Nat → Int32) → Option ((Nat → Int32))) (z6 : Int32) (w7 : (Nat → Int32)) : Option ((Nat → Int32)) := (if z6 < 0 then (some w7) else (bnd (0 : Int32) (fun (z9 : Int32) => (lq2 (B_X12_findHistories_44 z6 again38 i_p0_stirs i_p0_seats) 1000 z9 w7))))
noncomputable def B_X12_findHistories_10 (J4 : (Nat → Int32) → Option ((Nat → Int32))) (z1 : Int32) (again10 : Int32 → (Nat → Int32) → Option ((Nat → Int32))) (z21 : Int32) (w22 : (Nat → Int32)) : Option ((Nat → Int32)) := (if (49 : Int32) ≤ z21 then (J4 w22) else (ck (ixB (((49 : Int32) * z1) + z21) 343) (bnd (upd w22 ((((49 : Int32) * z1) + z21)).toNatClampNeg (1 : Int32)) (fun (w24 : (Nat → Int32)) => (bnd (z21 + (1 : Int32)) (fun (z25 : Int32) => (again10 z25 w24)))))))
noncomputable def f_X12_findHistories (i_p0_seats : Int32) (i_p0_stirs : Int32) (v_p0_st : (Nat → Int32)) (v_p0_goesOn : (Nat → Int32)) : Option ((Nat → Int32)) := (ck (ixB (31 : Int32) 152) (bnd (v_p0_st ((31 : Int32)).toNatClampNeg) (fun (z1 : Int32) => (bnd (0 : Int32) (fun (z2 : Int32) => (jn (fun (w3 : (Nat → Int32)) => (bnd (z1 - (1 : Int32)) (fun (z5 : Int32) => (lq2 (B_X12_findHistories_38 i_p0_stirs i_p0_seats) 1000 z5 w3)))) (fun (J4 : (Nat → Int32) → Option ((Nat → Int32))) => (lq2 (B_X12_findHistories_10 J4 z1) 1000 z2 v_p0_goesOn))))))))
abbrev rm_X12_findHistories : Room := { frames := 0, cells := 0, slots := 0, locals := 0 }
theorem inX12_findHistories_X12 : ∀ w ∈ wsX120, w ∈ wsX12_findHistories := by decide +kernel
theorem mwX12_findHistories_1 : Cond.fieldLink RX12 7 "LadleKingsModel" "st" "[I" ∈ wsX12_findHistories := by decide +kernel
theorem mwX12_findHistories_2 : Cond.fieldLink RX12 60 "LadleKingsModel" "goesOn" "[I" ∈ wsX12_findHistories := by decide +kernel
theorem mwX12_findHistories_3 : Cond.fieldLink RX12 103 "LadleKingsModel" "stirs" "I" ∈ wsX12_findHistories := by decide +kernel
theorem mwX12_findHistories_4 : Cond.fieldLink RX12 100 "LadleKingsModel" "seats" "I" ∈ wsX12_findHistories := by decide +kernel
set_option maxHeartbeats 8000000 in
set_option maxRecDepth 100000 in
theorem c_X12_findHistories (l : Launch) (D : va_G) (G : Nat → ClassId) (sz : Nat) (a_p0 : Nat) (a_p0_st : Nat) (a_p0_isKept : Nat) (a_p0_brings : Nat) (a_p0_need : Nat) (a_p0_draft : Nat) (a_p0_dStir : Nat) (a_p0_dNeed : Nat) (a_p0_tape : Nat) (a_p0_places : Nat) (a_p0_stirred : Nat) (a_p0_ways : Nat) (a_p0_waysThen : Nat) (a_p0_stays : Nat) (a_p0_fewest : Nat) (a_p0_bowls : Nat) (a_p0_has : Nat) (a_p0_goesOn : Nat) (a_p0_isThere : Nat) (a_p0_isThereThen : Nat) (a_p0_bestRow : Nat) (a_p0_lanes : Nat) (a_p0_sizes : Nat) (a_p0_cells : Nat) (i_p0_seats : Int32) (i_p0_stirs : Int32) (i_p0_dSeats : Int32) (i_p0_dStirs : Int32) (i_p0_told : Int32) (i_p0_highest : Int32) (i_p0_taped : Int32) (i_p0_pos : Int32) (i_p0_from : Int32) (i_p0_sort : Int32) (i_p0_value : Int32) (i_p0_fault : Int32) (i_p0_wrongAt : Int32) (i_p0_torn : Int32) (v_p0_st : (Nat → Int32)) (v_p0_goesOn : (Nat → Int32)) (o_v_p0_goesOn : (Nat → Int32)) (hf : f_X12_findHistories i_p0_seats i_p0_stirs v_p0_st v_p0_goesOn = some o_v_p0_goesOn) : Met l yX12_findHistories wsX12_findHistories rm_X12_findHistories (pcG D G [.ref a_p0] sz [(a_p0, .inr (12, [.ref a_p0_st, .ref a_p0_isKept, .int i_p0_seats, .int i_p0_stirs, .ref a_p0_brings, .ref a_p0_need, .ref a_p0_draft, .int i_p0_dSeats, .int i_p0_dStirs, .ref a_p0_dStir, .ref a_p0_dNeed, .int i_p0_told, .int i_p0_highest, .ref a_p0_tape, .int i_p0_taped, .int i_p0_pos, .int i_p0_from, .int i_p0_sort, .int i_p0_value, .int i_p0_fault, .int i_p0_wrongAt, .ref a_p0_places, .ref a_p0_stirred, .ref a_p0_ways, .ref a_p0_waysThen, .ref a_p0_stays, .ref a_p0_fewest, .ref a_p0_bowls, .ref a_p0_has, .ref a_p0_goesOn, .ref a_p0_isThere, .ref a_p0_isThereThen, .ref a_p0_bestRow, .ref a_p0_lanes, .ref a_p0_sizes, .ref a_p0_cells, .int i_p0_torn])), (a_p0_st, .inl (G 1, 152, .inl v_p0_st)), (a_p0_goesOn, .inl (G 1, 343, .inl v_p0_goesOn))]) (qcV D G [(a_p0, .inr (12, [.ref a_p0_st, .ref a_p0_isKept, .int i_p0_seats, .int i_p0_stirs, .ref a_p0_brings, .ref a_p0_need, .ref a_p0_draft, .int i_p0_dSeats, .int i_p0_dStirs, .ref a_p0_dStir, .ref a_p0_dNeed, .int i_p0_told, .int i_p0_highest, .ref a_p0_tape, .int i_p0_taped, .int i_p0_pos, .int i_p0_from, .int i_p0_sort, .int i_p0_value, .int i_p0_fault, .int i_p0_wrongAt, .ref a_p0_places, .ref a_p0_stirred, .ref a_p0_ways, .ref a_p0_waysThen, .ref a_p0_stays, .ref a_p0_fewest, .ref a_p0_bowls, .ref a_p0_has, .ref a_p0_goesOn, .ref a_p0_isThere, .ref a_p0_isThereThen, .ref a_p0_bestRow, .ref a_p0_lanes, .ref a_p0_sizes, .ref a_p0_cells, .int i_p0_torn])), (a_p0_st, .inl (G 1, 152, .inl v_p0_st)), (a_p0_goesOn, .inl (G 1, 343, .inl o_v_p0_goesOn))] (va_A [(a_p0, .inr (12, [.ref a_p0_st, .ref a_p0_isKept, .int i_p0_seats, .int i_p0_stirs, .ref a_p0_brings, .ref a_p0_need, .ref a_p0_draft, .int i_p0_dSeats, .int i_p0_dStirs, .ref a_p0_dStir, .ref a_p0_dNeed, .int i_p0_told, .int i_p0_highest, .ref a_p0_tape, .int i_p0_taped, .int i_p0_pos, .int i_p0_from, .int i_p0_sort, .int i_p0_value, .int i_p0_fault, .int i_p0_wrongAt, .ref a_p0_places, .ref a_p0_stirred, .ref a_p0_ways, .ref a_p0_waysThen, .ref a_p0_stays, .ref a_p0_fewest, .ref a_p0_bowls, .ref a_p0_has, .ref a_p0_goesOn, .ref a_p0_isThere, .ref a_p0_isThereThen, .ref a_p0_bestRow, .ref a_p0_lanes, .ref a_p0_sizes, .ref a_p0_cells, .int i_p0_torn])), (a_p0_st, .inl (G 1, 152, .inl v_p0_st)), (a_p0_goesOn, .inl (G 1, 343, .inl v_p0_goesOn))] sz)) 0 0 (va_A [(a_p0, .inr (12, [.ref a_p0_st, .ref a_p0_isKept, .int i_p0_seats, .int i_p0_stirs, .ref a_p0_brings, .ref a_p0_need, .ref a_p0_draft, .int i_p0_dSeats, .int i_p0_dStirs, .ref a_p0_dStir, .ref a_p0_dNeed, .int i_p0_told, .int i_p0_highest, .ref a_p0_tape, .int i_p0_taped, .int i_p0_pos, .int i_p0_from, .int i_p0_sort, .int i_p0_value, .int i_p0_fault, .int i_p0_wrongAt, .ref a_p0_places, .ref a_p0_stirred, .ref a_p0_ways, .ref a_p0_waysThen, .ref a_p0_stays, .ref a_p0_fewest, .ref a_p0_bowls, .ref a_p0_has, .ref a_p0_goesOn, .ref a_p0_isThere, .ref a_p0_isThereThen, .ref a_p0_bestRow, .ref a_p0_lanes, .ref a_p0_sizes, .ref a_p0_cells, .int i_p0_torn])), (a_p0_st, .inl (G 1, 152, .inl v_p0_st)), (a_p0_goesOn, .inl (G 1, 343, .inl v_p0_goesOn))] sz) := by
  refine Met.ofW (cc := cX12_findHistories) (maxL := 6) (ret := none) (by decide) rfl ?_
  intro p e s m args below meth c s₁ B hml hv
  obtain ⟨rfl, hsz, hP, hK, hD0⟩ := hv
  have hx := B.exec
  have hb := B.bytes
  have hr := B.returns
  have hts := atoms_spec (ws := wsX12_findHistories) B.pre
  have hown : s.vm.findClass RX12 = some m.cls := findClass_of_methodNamed B.named
  have hlocks := B.notSynchronized
  subst hsz
  have hD := hD0.self (sz := s.heap.size)
  generalize hAe : va_A [(a_p0, .inr (12, [.ref a_p0_st, .ref a_p0_isKept, .int i_p0_seats, .int i_p0_stirs, .ref a_p0_brings, .ref a_p0_need, .ref a_p0_draft, .int i_p0_dSeats, .int i_p0_dStirs, .ref a_p0_dStir, .ref a_p0_dNeed, .int i_p0_told, .int i_p0_highest, .ref a_p0_tape, .int i_p0_taped, .int i_p0_pos, .int i_p0_from, .int i_p0_sort, .int i_p0_value, .int i_p0_fault, .int i_p0_wrongAt, .ref a_p0_places, .ref a_p0_stirred, .ref a_p0_ways, .ref a_p0_waysThen, .ref a_p0_stays, .ref a_p0_fewest, .ref a_p0_bowls, .ref a_p0_has, .ref a_p0_goesOn, .ref a_p0_isThere, .ref a_p0_isThereThen, .ref a_p0_bestRow, .ref a_p0_lanes, .ref a_p0_sizes, .ref a_p0_cells, .int i_p0_torn])), (a_p0_st, .inl (G 1, 152, .inl v_p0_st)), (a_p0_goesOn, .inl (G 1, 343, .inl v_p0_goesOn))] s.heap.size = A at hD ⊢
  have hA : ∀ q : Nat, s.heap.size ≤ q → A q := fun q h => by rw [← hAe]; exact Or.inr h
  clear hAe hD0
  have hS : va_S A s.heap s.heap [] := va_S.rf
  have hl := lv_entry ([.ref a_p0]) (n := 6) (Nat.le_of_ble_eq_true rfl)
  rw [lg_entry_eq]
  generalize (lg_sl ([.ref a_p0]) ++ List.replicate (6 - (lg_sl ([.ref a_p0])).length) Slot.unset).toArray = ls at hl ⊢
  have hl : lv_has ls 6 [(0, .ref a_p0)] := hl
  refine W_nameQ (fun Q hQ => ?_)
  obtain ⟨H, hH⟩ : ∃ H, H = s.heap := ⟨_, rfl⟩
  replace hS : va_S A s.heap H [] := by rw [hH]; exact hS
  replace hP : va_P D vwCl [(a_p0, .inr (12, [.ref a_p0_st, .ref a_p0_isKept, .int i_p0_seats, .int i_p0_stirs, .ref a_p0_brings, .ref a_p0_need, .ref a_p0_draft, .int i_p0_dSeats, .int i_p0_dStirs, .ref a_p0_dStir, .ref a_p0_dNeed, .int i_p0_told, .int i_p0_highest, .ref a_p0_tape, .int i_p0_taped, .int i_p0_pos, .int i_p0_from, .int i_p0_sort, .int i_p0_value, .int i_p0_fault, .int i_p0_wrongAt, .ref a_p0_places, .ref a_p0_stirred, .ref a_p0_ways, .ref a_p0_waysThen, .ref a_p0_stays, .ref a_p0_fewest, .ref a_p0_bowls, .ref a_p0_has, .ref a_p0_goesOn, .ref a_p0_isThere, .ref a_p0_isThereThen, .ref a_p0_bestRow, .ref a_p0_lanes, .ref a_p0_sizes, .ref a_p0_cells, .int i_p0_torn])), (a_p0_st, .inl (G 1, 152, .inl v_p0_st)), (a_p0_goesOn, .inl (G 1, 343, .inl v_p0_goesOn))] H := by rw [hH]; exact hP
  rw [← hH]
  clear hH
  unfold f_X12_findHistories at hf
  refine lv_aload_n hx hb dX12_findHistories_0 rfl (lv_at hl 0 rfl) ?_
  refine va_get (D := D) (ci := 12) (v := .ref a_p0_st) (C := RX12) (T := TX12) (N := 37) hx hb hts inX12_findHistories_X12 hown hK hP 0 rfl rfl 0 (by decide) (hts _ mwX12_findHistories_1) (fun _ h9 => h9) rfl dX12_findHistories_1 ?_
  refine lv_bipush (v := (31 : Int32)) hx hb dX12_findHistories_4 (by decide) ?_
  have hc := ck_c hf
  replace hf := ck_r hf
  refine va_iald hx hb hK hP 1 1 rfl rfl (ixB_in hc) dX12_findHistories_6 ?_
  clear hc
  refine lv_topi (fun z1 ez => ?_)
  replace hf := bnd_s hf ez
  clear ez
  refine lv_istore_n (lv' := [(1, .int z1), (0, .ref a_p0)]) hx hb dX12_findHistories_7 rfl hl (by decide) rfl (fun ls hl => ?_)
  refine lv_iconst (v := (0 : Int32)) hx hb dX12_findHistories_8 (by decide) ?_
  refine lv_topi (fun z2 ez => ?_)
  replace hf := bnd_s hf ez
  clear ez
  refine lv_istore_n (lv' := [(2, .int z2), (1, .int z1), (0, .ref a_p0)]) hx hb dX12_findHistories_9 rfl hl (by decide) rfl (fun ls hl => ?_)
  have hq := jn_i hf
  clear hf
  obtain ⟨J4, eJ4, hf⟩ := hq
  have hJ4 : ∀ (w3 : (Nat → Int32)) (ls : Array Slot) (H : Heap) (locs : List Loc), lv_has ls 6 [(1, .int z1), (0, .ref a_p0)] → va_P D vwCl [(a_p0, .inr (12, [.ref a_p0_st, .ref a_p0_isKept, .int i_p0_seats, .int i_p0_stirs, .ref a_p0_brings, .ref a_p0_need, .ref a_p0_draft, .int i_p0_dSeats, .int i_p0_dStirs, .ref a_p0_dStir, .ref a_p0_dNeed, .int i_p0_told, .int i_p0_highest, .ref a_p0_tape, .int i_p0_taped, .int i_p0_pos, .int i_p0_from, .int i_p0_sort, .int i_p0_value, .int i_p0_fault, .int i_p0_wrongAt, .ref a_p0_places, .ref a_p0_stirred, .ref a_p0_ways, .ref a_p0_waysThen, .ref a_p0_stays, .ref a_p0_fewest, .ref a_p0_bowls, .ref a_p0_has, .ref a_p0_goesOn, .ref a_p0_isThere, .ref a_p0_isThereThen, .ref a_p0_bestRow, .ref a_p0_lanes, .ref a_p0_sizes, .ref a_p0_cells, .int i_p0_torn])), (a_p0_st, .inl (G 1, 152, .inl v_p0_st)), (a_p0_goesOn, .inl (G 1, 343, .inl w3))] H → va_D A [(a_p0, .inr (12, [.ref a_p0_st, .ref a_p0_isKept, .int i_p0_seats, .int i_p0_stirs, .ref a_p0_brings, .ref a_p0_need, .ref a_p0_draft, .int i_p0_dSeats, .int i_p0_dStirs, .ref a_p0_dStir, .ref a_p0_dNeed, .int i_p0_told, .int i_p0_highest, .ref a_p0_tape, .int i_p0_taped, .int i_p0_pos, .int i_p0_from, .int i_p0_sort, .int i_p0_value, .int i_p0_fault, .int i_p0_wrongAt, .ref a_p0_places, .ref a_p0_stirred, .ref a_p0_ways, .ref a_p0_waysThen, .ref a_p0_stays, .ref a_p0_fewest, .ref a_p0_bowls, .ref a_p0_has, .ref a_p0_goesOn, .ref a_p0_isThere, .ref a_p0_isThereThen, .ref a_p0_bestRow, .ref a_p0_lanes, .ref a_p0_sizes, .ref a_p0_cells, .int i_p0_torn])), (a_p0_st, .inl (G 1, 152, .inl v_p0_st)), (a_p0_goesOn, .inl (G 1, 343, .inl w3))] → va_S A s.heap H locs → J4 w3 = some o_v_p0_goesOn → W p l e rm_X12_findHistories s m ([.ref a_p0] : List Value).toArray below meth c H locs 0 0 Q (F0 m 34 ls []) := by
    clear hf hl hP hD hS
    intro w3 ls H locs hl hP hD hS hf
    replace hf := jn1_s eJ4 hf
    refine lv_iload_n hx hb dX12_findHistories_34 rfl (lv_at hl 0 rfl) ?_
    refine lv_iconst (v := (1 : Int32)) hx hb dX12_findHistories_35 (by decide) ?_
    refine lv_isub hx hb dX12_findHistories_36 ?_
    refine lv_topi (fun z5 ez => ?_)
    replace hf := bnd_s hf ez
    clear ez
    refine lv_istore_n (lv' := [(2, .int z5), (1, .int z1), (0, .ref a_p0)]) hx hb dX12_findHistories_37 rfl hl (by decide) rfl (fun ls hl => ?_)
    have hq := lq2_i hf
    clear hf
    obtain ⟨B8, eB8, NB8, hf⟩ := hq
    have hB8 : ∀ (n : Nat) (z6 : Int32) (w7 : (Nat → Int32)) (ls : Array Slot) (H : Heap) (locs : List Loc), lv_has ls 6 [(2, .int z6), (0, .ref a_p0)] → va_P D vwCl [(a_p0, .inr (12, [.ref a_p0_st, .ref a_p0_isKept, .int i_p0_seats, .int i_p0_stirs, .ref a_p0_brings, .ref a_p0_need, .ref a_p0_draft, .int i_p0_dSeats, .int i_p0_dStirs, .ref a_p0_dStir, .ref a_p0_dNeed, .int i_p0_told, .int i_p0_highest, .ref a_p0_tape, .int i_p0_taped, .int i_p0_pos, .int i_p0_from, .int i_p0_sort, .int i_p0_value, .int i_p0_fault, .int i_p0_wrongAt, .ref a_p0_places, .ref a_p0_stirred, .ref a_p0_ways, .ref a_p0_waysThen, .ref a_p0_stays, .ref a_p0_fewest, .ref a_p0_bowls, .ref a_p0_has, .ref a_p0_goesOn, .ref a_p0_isThere, .ref a_p0_isThereThen, .ref a_p0_bestRow, .ref a_p0_lanes, .ref a_p0_sizes, .ref a_p0_cells, .int i_p0_torn])), (a_p0_st, .inl (G 1, 152, .inl v_p0_st)), (a_p0_goesOn, .inl (G 1, 343, .inl w7))] H → va_D A [(a_p0, .inr (12, [.ref a_p0_st, .ref a_p0_isKept, .int i_p0_seats, .int i_p0_stirs, .ref a_p0_brings, .ref a_p0_need, .ref a_p0_draft, .int i_p0_dSeats, .int i_p0_dStirs, .ref a_p0_dStir, .ref a_p0_dNeed, .int i_p0_told, .int i_p0_highest, .ref a_p0_tape, .int i_p0_taped, .int i_p0_pos, .int i_p0_from, .int i_p0_sort, .int i_p0_value, .int i_p0_fault, .int i_p0_wrongAt, .ref a_p0_places, .ref a_p0_stirred, .ref a_p0_ways, .ref a_p0_waysThen, .ref a_p0_stays, .ref a_p0_fewest, .ref a_p0_bowls, .ref a_p0_has, .ref a_p0_goesOn, .ref a_p0_isThere, .ref a_p0_isThereThen, .ref a_p0_bestRow, .ref a_p0_lanes, .ref a_p0_sizes, .ref a_p0_cells, .int i_p0_torn])), (a_p0_st, .inl (G 1, 152, .inl v_p0_st)), (a_p0_goesOn, .inl (G 1, 343, .inl w7))] → va_S A s.heap H locs → lq2 B8 n z6 w7 = some o_v_p0_goesOn → W p l e rm_X12_findHistories s m ([.ref a_p0] : List Value).toArray below meth c H locs 0 0 Q (F0 m 38 ls []) := by
      clear hf hl hP hD hS
      intro n
      induction n with
      | zero =>
        intro z6 w7 ls H locs hl hP hD hS hf
        exact (lq2_0 hf).elim
      | succ n ih38 =>
        intro z6 w7 ls H locs hl hP hD hS hf
        replace hf := lq2_s eB8 hf
        unfold B_X12_findHistories_38 at hf
        refine lv_iload_n hx hb dX12_findHistories_38 rfl (lv_at hl 0 rfl) ?_
        refine lv_if_lt (tgt := 173) hx hb dX12_findHistories_39 (by decide) (fun cc => ?_) (fun cc => ?_)
        ·
          replace hf := ite_t cc hf
          clear cc
          obtain rfl := ou1 hf
          rw [hQ]
          exact W.vret hx hb hr (fun t ht hW => ⟨⟨(), rfl, trivial, by rw [ht]; exact hP, va_K.moved hW.alike hK, hD⟩, hS.F ht⟩) hS.2.2 dX12_findHistories_173
        ·
          replace hf := ite_f cc hf
          clear cc
          refine lv_iconst (v := (0 : Int32)) hx hb dX12_findHistories_42 (by decide) ?_
          refine lv_topi (fun z9 ez => ?_)
          replace hf := bnd_s hf ez
          clear ez
          refine lv_istore_n (lv' := [(3, .int z9), (2, .int z6), (0, .ref a_p0)]) hx hb dX12_findHistories_43 rfl hl (by decide) rfl (fun ls hl => ?_)
          have hq := lq2_i hf
          clear hf
          obtain ⟨B12, eB12, NB12, hf⟩ := hq
          have hB12 : ∀ (n : Nat) (z10 : Int32) (w11 : (Nat → Int32)) (ls : Array Slot) (H : Heap) (locs : List Loc), lv_has ls 6 [(3, .int z10), (2, .int z6), (0, .ref a_p0)] → va_P D vwCl [(a_p0, .inr (12, [.ref a_p0_st, .ref a_p0_isKept, .int i_p0_seats, .int i_p0_stirs, .ref a_p0_brings, .ref a_p0_need, .ref a_p0_draft, .int i_p0_dSeats, .int i_p0_dStirs, .ref a_p0_dStir, .ref a_p0_dNeed, .int i_p0_told, .int i_p0_highest, .ref a_p0_tape, .int i_p0_taped, .int i_p0_pos, .int i_p0_from, .int i_p0_sort, .int i_p0_value, .int i_p0_fault, .int i_p0_wrongAt, .ref a_p0_places, .ref a_p0_stirred, .ref a_p0_ways, .ref a_p0_waysThen, .ref a_p0_stays, .ref a_p0_fewest, .ref a_p0_bowls, .ref a_p0_has, .ref a_p0_goesOn, .ref a_p0_isThere, .ref a_p0_isThereThen, .ref a_p0_bestRow, .ref a_p0_lanes, .ref a_p0_sizes, .ref a_p0_cells, .int i_p0_torn])), (a_p0_st, .inl (G 1, 152, .inl v_p0_st)), (a_p0_goesOn, .inl (G 1, 343, .inl w11))] H → va_D A [(a_p0, .inr (12, [.ref a_p0_st, .ref a_p0_isKept, .int i_p0_seats, .int i_p0_stirs, .ref a_p0_brings, .ref a_p0_need, .ref a_p0_draft, .int i_p0_dSeats, .int i_p0_dStirs, .ref a_p0_dStir, .ref a_p0_dNeed, .int i_p0_told, .int i_p0_highest, .ref a_p0_tape, .int i_p0_taped, .int i_p0_pos, .int i_p0_from, .int i_p0_sort, .int i_p0_value, .int i_p0_fault, .int i_p0_wrongAt, .ref a_p0_places, .ref a_p0_stirred, .ref a_p0_ways, .ref a_p0_waysThen, .ref a_p0_stays, .ref a_p0_fewest, .ref a_p0_bowls, .ref a_p0_has, .ref a_p0_goesOn, .ref a_p0_isThere, .ref a_p0_isThereThen, .ref a_p0_bestRow, .ref a_p0_lanes, .ref a_p0_sizes, .ref a_p0_cells, .int i_p0_torn])), (a_p0_st, .inl (G 1, 152, .inl v_p0_st)), (a_p0_goesOn, .inl (G 1, 343, .inl w11))] → va_S A s.heap H locs → lq2 B12 n z10 w11 = some o_v_p0_goesOn → W p l e rm_X12_findHistories s m ([.ref a_p0] : List Value).toArray below meth c H locs 0 0 Q (F0 m 44 ls []) := by
            clear hf hl hP hD hS
            intro n
            induction n with
            | zero =>
              intro z10 w11 ls H locs hl hP hD hS hf
              exact (lq2_0 hf).elim
            | succ n ih44 =>
              intro z10 w11 ls H locs hl hP hD hS hf
              replace hf := lq2_s eB12 hf
              unfold B_X12_findHistories_44 at hf
              refine lv_iload_n hx hb dX12_findHistories_44 rfl (lv_at hl 0 rfl) ?_
              refine lv_bipush (v := (49 : Int32)) hx hb dX12_findHistories_45 (by decide) ?_
              refine lv_icmp_ge (tgt := 167) hx hb dX12_findHistories_47 (by decide) (fun cc => ?_) (fun cc => ?_)
              ·
                replace hf := ite_t cc hf
                clear cc
                obtain ⟨z13, ez⟩ : ∃ y : Int32, y = (z6 + (-1 : Int32)) := ⟨_, rfl⟩
                replace hf := bnd_s hf ez
                refine lv_iinc (v := z13) (lv' := [(2, .int z13), (3, .int z10), (0, .ref a_p0)]) hx hb dX12_findHistories_167 hl (k := 1) rfl (by rw [ez]; rfl) (by decide) rfl (fun ls hl => ?_)
                clear ez
                refine lv_goto (tgt := 38) hx hb dX12_findHistories_170 (by decide) ?_
                exact ih38 _ _ _ _ _ (lv_sub hl [0, 2] rfl) hP hD hS hf
              ·
                replace hf := ite_f cc hf
                clear cc
                refine lv_aload_n hx hb dX12_findHistories_50 rfl (lv_at hl 2 rfl) ?_
                refine va_get (D := D) (ci := 12) (v := .ref a_p0_goesOn) (C := RX12) (T := TX12) (N := 37) hx hb hts inX12_findHistories_X12 hown hK hP 0 rfl rfl 29 (by decide) (hts _ mwX12_findHistories_2) (fun _ h9 => h9) rfl dX12_findHistories_51 ?_
                refine lv_bipush (v := (49 : Int32)) hx hb dX12_findHistories_54 (by decide) ?_
                refine lv_iload_n hx hb dX12_findHistories_56 rfl (lv_at hl 1 rfl) ?_
                refine lv_imul hx hb dX12_findHistories_57 ?_
                refine lv_iload_n hx hb dX12_findHistories_58 rfl (lv_at hl 0 rfl) ?_
                refine lv_iadd hx hb dX12_findHistories_59 ?_
                refine lv_iconst (v := (0 : Int32)) hx hb dX12_findHistories_60 (by decide) ?_
                have hc := ck_c hf
                replace hf := ck_r hf
                refine gs_iast (wf := fun w14 => [(a_p0, .inr (12, [.ref a_p0_st, .ref a_p0_isKept, .int i_p0_seats, .int i_p0_stirs, .ref a_p0_brings, .ref a_p0_need, .ref a_p0_draft, .int i_p0_dSeats, .int i_p0_dStirs, .ref a_p0_dStir, .ref a_p0_dNeed, .int i_p0_told, .int i_p0_highest, .ref a_p0_tape, .int i_p0_taped, .int i_p0_pos, .int i_p0_from, .int i_p0_sort, .int i_p0_value, .int i_p0_fault, .int i_p0_wrongAt, .ref a_p0_places, .ref a_p0_stirred, .ref a_p0_ways, .ref a_p0_waysThen, .ref a_p0_stays, .ref a_p0_fewest, .ref a_p0_bowls, .ref a_p0_has, .ref a_p0_goesOn, .ref a_p0_isThere, .ref a_p0_isThereThen, .ref a_p0_bestRow, .ref a_p0_lanes, .ref a_p0_sizes, .ref a_p0_cells, .int i_p0_torn])), (a_p0_st, .inl (G 1, 152, .inl v_p0_st)), (a_p0_goesOn, .inl (G 1, 343, .inl w14))]) hx hb hK hP hD hS 2 1 rfl rfl (ixB_in hc) dX12_findHistories_61 (fun _ => rfl) (fun w14 ez H locs hP hD hS => ?_)
                replace hf := bnd_s hf ez
                clear ez hc
                refine lv_iconst (v := (0 : Int32)) hx hb dX12_findHistories_62 (by decide) ?_
                refine lv_topi (fun z15 ez => ?_)
                replace hf := bnd_s hf ez
                clear ez
                refine lv_istore (lv' := [(4, .int z15), (3, .int z10), (2, .int z6), (0, .ref a_p0)]) hx hb dX12_findHistories_63 hl (by decide) rfl (fun ls hl => ?_)
                have hq := lq1_i hf
                clear hf
                obtain ⟨B17, eB17, NB17, hf⟩ := hq
                have hB17 : ∀ (n : Nat) (z16 : Int32) (ls : Array Slot) (H : Heap) (locs : List Loc), lv_has ls 6 [(4, .int z16), (3, .int z10), (2, .int z6), (0, .ref a_p0)] → va_P D vwCl [(a_p0, .inr (12, [.ref a_p0_st, .ref a_p0_isKept, .int i_p0_seats, .int i_p0_stirs, .ref a_p0_brings, .ref a_p0_need, .ref a_p0_draft, .int i_p0_dSeats, .int i_p0_dStirs, .ref a_p0_dStir, .ref a_p0_dNeed, .int i_p0_told, .int i_p0_highest, .ref a_p0_tape, .int i_p0_taped, .int i_p0_pos, .int i_p0_from, .int i_p0_sort, .int i_p0_value, .int i_p0_fault, .int i_p0_wrongAt, .ref a_p0_places, .ref a_p0_stirred, .ref a_p0_ways, .ref a_p0_waysThen, .ref a_p0_stays, .ref a_p0_fewest, .ref a_p0_bowls, .ref a_p0_has, .ref a_p0_goesOn, .ref a_p0_isThere, .ref a_p0_isThereThen, .ref a_p0_bestRow, .ref a_p0_lanes, .ref a_p0_sizes, .ref a_p0_cells, .int i_p0_torn])), (a_p0_st, .inl (G 1, 152, .inl v_p0_st)), (a_p0_goesOn, .inl (G 1, 343, .inl w14))] H → va_D A [(a_p0, .inr (12, [.ref a_p0_st, .ref a_p0_isKept, .int i_p0_seats, .int i_p0_stirs, .ref a_p0_brings, .ref a_p0_need, .ref a_p0_draft, .int i_p0_dSeats, .int i_p0_dStirs, .ref a_p0_dStir, .ref a_p0_dNeed, .int i_p0_told, .int i_p0_highest, .ref a_p0_tape, .int i_p0_taped, .int i_p0_pos, .int i_p0_from, .int i_p0_sort, .int i_p0_value, .int i_p0_fault, .int i_p0_wrongAt, .ref a_p0_places, .ref a_p0_stirred, .ref a_p0_ways, .ref a_p0_waysThen, .ref a_p0_stays, .ref a_p0_fewest, .ref a_p0_bowls, .ref a_p0_has, .ref a_p0_goesOn, .ref a_p0_isThere, .ref a_p0_isThereThen, .ref a_p0_bestRow, .ref a_p0_lanes, .ref a_p0_sizes, .ref a_p0_cells, .int i_p0_torn])), (a_p0_st, .inl (G 1, 152, .inl v_p0_st)), (a_p0_goesOn, .inl (G 1, 343, .inl w14))] → va_S A s.heap H locs → lq1 B17 n z16 = some o_v_p0_goesOn → W p l e rm_X12_findHistories s m ([.ref a_p0] : List Value).toArray below meth c H locs 0 0 Q (F0 m 65 ls []) := by
                  clear hf hl hP hD hS
                  intro n
                  induction n with
                  | zero =>
                    intro z16 ls H locs hl hP hD hS hf
                    exact (lq1_0 hf).elim
                  | succ n ih65 =>
                    intro z16 ls H locs hl hP hD hS hf
                    replace hf := lq1_s eB17 hf
                    unfold B_X12_findHistories_65 at hf
                    refine lv_iload hx hb dX12_findHistories_65 (lv_at hl 0 rfl) ?_
                    refine lv_aload_n hx hb dX12_findHistories_67 rfl (lv_at hl 3 rfl) ?_
                    refine va_get (D := D) (ci := 12) (v := .int i_p0_stirs) (C := RX12) (T := TX12) (N := 37) hx hb hts inX12_findHistories_X12 hown hK hP 0 rfl rfl 3 (by decide) (hts _ mwX12_findHistories_3) (fun _ h9 => h9) rfl dX12_findHistories_68 ?_
                    refine lv_icmp_ge (tgt := 161) hx hb dX12_findHistories_71 (by decide) (fun cc => ?_) (fun cc => ?_)
                    ·
                      replace hf := ite_t cc hf
                      clear cc
                      obtain ⟨z18, ez⟩ : ∃ y : Int32, y = (z10 + (1 : Int32)) := ⟨_, rfl⟩
                      replace hf := bnd_s hf ez
                      refine lv_iinc (v := z18) (lv' := [(3, .int z18), (4, .int z16), (2, .int z6), (0, .ref a_p0)]) hx hb dX12_findHistories_161 hl (k := 1) rfl (by rw [ez]; rfl) (by decide) rfl (fun ls hl => ?_)
                      clear ez
                      refine lv_goto (tgt := 44) hx hb dX12_findHistories_164 (by decide) ?_
                      exact ih44 _ _ _ _ _ (lv_sub hl [0, 2, 3] rfl) hP hD hS hf
                    ·
                      replace hf := ite_f cc hf
                      clear cc
                      refine lv_iload_n hx hb dX12_findHistories_74 rfl (lv_at hl 1 rfl) ?_
                      refine lv_bipush (v := (7 : Int32)) hx hb dX12_findHistories_75 (by decide) ?_
                      have hc := ck_c hf
                      replace hf := ck_r hf
                      refine lv_irem hx hb dX12_findHistories_77 (nzI_ne hc) ?_
                      clear hc
                      refine lv_aload_n hx hb dX12_findHistories_78 rfl (lv_at hl 3 rfl) ?_
                      refine va_get (D := D) (ci := 12) (v := .int i_p0_seats) (C := RX12) (T := TX12) (N := 37) hx hb hts inX12_findHistories_X12 hown hK hP 0 rfl rfl 2 (by decide) (hts _ mwX12_findHistories_4) (fun _ h9 => h9) rfl dX12_findHistories_79 ?_
                      refine lv_icmp_ge (tgt := 161) hx hb dX12_findHistories_82 (by decide) (fun cc => ?_) (fun cc => ?_)
                      ·
                        replace hf := ite_t cc hf
                        clear cc
                        obtain ⟨z19, ez⟩ : ∃ y : Int32, y = (z10 + (1 : Int32)) := ⟨_, rfl⟩
                        replace hf := bnd_s hf ez
                        refine lv_iinc (v := z19) (lv' := [(3, .int z19), (4, .int z16), (2, .int z6), (0, .ref a_p0)]) hx hb dX12_findHistories_161 hl (k := 1) rfl (by rw [ez]; rfl) (by decide) rfl (fun ls hl => ?_)
                        clear ez
                        refine lv_goto (tgt := 44) hx hb dX12_findHistories_164 (by decide) ?_
                        exact ih44 _ _ _ _ _ (lv_sub hl [0, 2, 3] rfl) hP hD hS hf
                      ·
                        replace hf := ite_f cc hf
                        clear cc
                        refine lv_iload_n hx hb dX12_findHistories_85 rfl (lv_at hl 1 rfl) ?_
                        refine lv_bipush (v := (7 : Int32)) hx hb dX12_findHistories_86 (by decide) ?_
                        have hc := ck_c hf
                        replace hf := ck_r hf
                        refine lv_idiv hx hb dX12_findHistories_88 (nzI_ne hc) ?_
                        clear hc
                        refine lv_aload_n hx hb dX12_findHistories_89 rfl (lv_at hl 3 rfl) ?_
                        refine va_get (D := D) (ci := 12) (v := .int i_p0_seats) (C := RX12) (T := TX12) (N := 37) hx hb hts inX12_findHistories_X12 hown hK hP 0 rfl rfl 2 (by decide) (hts _ mwX12_findHistories_4) (fun _ h9 => h9) rfl dX12_findHistories_90 ?_
                        refine lv_icmp_ge (tgt := 161) hx hb dX12_findHistories_93 (by decide) (fun cc => ?_) (fun cc => ?_)
                        ·
                          replace hf := ite_t cc hf
                          clear cc
                          obtain ⟨z20, ez⟩ : ∃ y : Int32, y = (z10 + (1 : Int32)) := ⟨_, rfl⟩
                          replace hf := bnd_s hf ez
                          refine lv_iinc (v := z20) (lv' := [(3, .int z20), (4, .int z16), (2, .int z6), (0, .ref a_p0)]) hx hb dX12_findHistories_161 hl (k := 1) rfl (by rw [ez]; rfl) (by decide) rfl (fun ls hl => ?_)
                          clear ez
                          refine lv_goto (tgt := 44) hx hb dX12_findHistories_164 (by decide) ?_
                          exact ih44 _ _ _ _ _ (lv_sub hl [0, 2, 3] rfl) hP hD hS hf
                        ·
                          replace hf := ite_f cc hf
                          clear cc
                          refine lv_aload_n hx hb dX12_findHistories_96 rfl (lv_at hl 3 rfl) ?_
                          refine lv_iload_n hx hb dX12_findHistories_97 rfl (lv_at hl 1 rfl) ?_
                          refine lv_iload hx hb dX12_findHistories_98 (lv_at hl 0 rfl) ?_
                          cases hf
                exact hB17 _ _ _ _ _ (lv_sub hl [0, 1, 2, 3] rfl) hP hD hS hf
          exact hB12 _ _ _ _ _ _ (lv_sub hl [0, 1, 2] rfl) hP hD hS hf
    exact hB8 _ _ _ _ _ _ (lv_sub hl [0, 2] rfl) hP hD hS hf
  have hq := lq2_i hf
  clear hf
  obtain ⟨B23, eB23, NB23, hf⟩ := hq
  have hB23 : ∀ (n : Nat) (z21 : Int32) (w22 : (Nat → Int32)) (ls : Array Slot) (H : Heap) (locs : List Loc), lv_has ls 6 [(2, .int z21), (1, .int z1), (0, .ref a_p0)] → va_P D vwCl [(a_p0, .inr (12, [.ref a_p0_st, .ref a_p0_isKept, .int i_p0_seats, .int i_p0_stirs, .ref a_p0_brings, .ref a_p0_need, .ref a_p0_draft, .int i_p0_dSeats, .int i_p0_dStirs, .ref a_p0_dStir, .ref a_p0_dNeed, .int i_p0_told, .int i_p0_highest, .ref a_p0_tape, .int i_p0_taped, .int i_p0_pos, .int i_p0_from, .int i_p0_sort, .int i_p0_value, .int i_p0_fault, .int i_p0_wrongAt, .ref a_p0_places, .ref a_p0_stirred, .ref a_p0_ways, .ref a_p0_waysThen, .ref a_p0_stays, .ref a_p0_fewest, .ref a_p0_bowls, .ref a_p0_has, .ref a_p0_goesOn, .ref a_p0_isThere, .ref a_p0_isThereThen, .ref a_p0_bestRow, .ref a_p0_lanes, .ref a_p0_sizes, .ref a_p0_cells, .int i_p0_torn])), (a_p0_st, .inl (G 1, 152, .inl v_p0_st)), (a_p0_goesOn, .inl (G 1, 343, .inl w22))] H → va_D A [(a_p0, .inr (12, [.ref a_p0_st, .ref a_p0_isKept, .int i_p0_seats, .int i_p0_stirs, .ref a_p0_brings, .ref a_p0_need, .ref a_p0_draft, .int i_p0_dSeats, .int i_p0_dStirs, .ref a_p0_dStir, .ref a_p0_dNeed, .int i_p0_told, .int i_p0_highest, .ref a_p0_tape, .int i_p0_taped, .int i_p0_pos, .int i_p0_from, .int i_p0_sort, .int i_p0_value, .int i_p0_fault, .int i_p0_wrongAt, .ref a_p0_places, .ref a_p0_stirred, .ref a_p0_ways, .ref a_p0_waysThen, .ref a_p0_stays, .ref a_p0_fewest, .ref a_p0_bowls, .ref a_p0_has, .ref a_p0_goesOn, .ref a_p0_isThere, .ref a_p0_isThereThen, .ref a_p0_bestRow, .ref a_p0_lanes, .ref a_p0_sizes, .ref a_p0_cells, .int i_p0_torn])), (a_p0_st, .inl (G 1, 152, .inl v_p0_st)), (a_p0_goesOn, .inl (G 1, 343, .inl w22))] → va_S A s.heap H locs → lq2 B23 n z21 w22 = some o_v_p0_goesOn → W p l e rm_X12_findHistories s m ([.ref a_p0] : List Value).toArray below meth c H locs 0 0 Q (F0 m 10 ls []) := by
    clear hf hl hP hD hS
    intro n
    induction n with
    | zero =>
      intro z21 w22 ls H locs hl hP hD hS hf
      exact (lq2_0 hf).elim
    | succ n ih10 =>
      intro z21 w22 ls H locs hl hP hD hS hf
      replace hf := lq2_s eB23 hf
      unfold B_X12_findHistories_10 at hf
      refine lv_iload_n hx hb dX12_findHistories_10 rfl (lv_at hl 0 rfl) ?_
      refine lv_bipush (v := (49 : Int32)) hx hb dX12_findHistories_11 (by decide) ?_
      refine lv_icmp_ge (tgt := 34) hx hb dX12_findHistories_13 (by decide) (fun cc => ?_) (fun cc => ?_)
      ·
        replace hf := ite_t cc hf
        clear cc
        exact hJ4 _ _ _ _ (lv_sub hl [1, 2] rfl) hP hD hS hf
      ·
        replace hf := ite_f cc hf
        clear cc
        refine lv_aload_n hx hb dX12_findHistories_16 rfl (lv_at hl 2 rfl) ?_
        refine va_get (D := D) (ci := 12) (v := .ref a_p0_goesOn) (C := RX12) (T := TX12) (N := 37) hx hb hts inX12_findHistories_X12 hown hK hP 0 rfl rfl 29 (by decide) (hts _ mwX12_findHistories_2) (fun _ h9 => h9) rfl dX12_findHistories_17 ?_
        refine lv_bipush (v := (49 : Int32)) hx hb dX12_findHistories_20 (by decide) ?_
        refine lv_iload_n hx hb dX12_findHistories_22 rfl (lv_at hl 1 rfl) ?_
        refine lv_imul hx hb dX12_findHistories_23 ?_
        refine lv_iload_n hx hb dX12_findHistories_24 rfl (lv_at hl 0 rfl) ?_
        refine lv_iadd hx hb dX12_findHistories_25 ?_
        refine lv_iconst (v := (1 : Int32)) hx hb dX12_findHistories_26 (by decide) ?_
        have hc := ck_c hf
        replace hf := ck_r hf
        refine gs_iast (wf := fun w24 => [(a_p0, .inr (12, [.ref a_p0_st, .ref a_p0_isKept, .int i_p0_seats, .int i_p0_stirs, .ref a_p0_brings, .ref a_p0_need, .ref a_p0_draft, .int i_p0_dSeats, .int i_p0_dStirs, .ref a_p0_dStir, .ref a_p0_dNeed, .int i_p0_told, .int i_p0_highest, .ref a_p0_tape, .int i_p0_taped, .int i_p0_pos, .int i_p0_from, .int i_p0_sort, .int i_p0_value, .int i_p0_fault, .int i_p0_wrongAt, .ref a_p0_places, .ref a_p0_stirred, .ref a_p0_ways, .ref a_p0_waysThen, .ref a_p0_stays, .ref a_p0_fewest, .ref a_p0_bowls, .ref a_p0_has, .ref a_p0_goesOn, .ref a_p0_isThere, .ref a_p0_isThereThen, .ref a_p0_bestRow, .ref a_p0_lanes, .ref a_p0_sizes, .ref a_p0_cells, .int i_p0_torn])), (a_p0_st, .inl (G 1, 152, .inl v_p0_st)), (a_p0_goesOn, .inl (G 1, 343, .inl w24))]) hx hb hK hP hD hS 2 1 rfl rfl (ixB_in hc) dX12_findHistories_27 (fun _ => rfl) (fun w24 ez H locs hP hD hS => ?_)
        replace hf := bnd_s hf ez
        clear ez hc
        obtain ⟨z25, ez⟩ : ∃ y : Int32, y = (z21 + (1 : Int32)) := ⟨_, rfl⟩
        replace hf := bnd_s hf ez
        refine lv_iinc (v := z25) (lv' := [(2, .int z25), (1, .int z1), (0, .ref a_p0)]) hx hb dX12_findHistories_28 hl (k := 0) rfl (by rw [ez]; rfl) (by decide) rfl (fun ls hl => ?_)
        clear ez
        refine lv_goto (tgt := 10) hx hb dX12_findHistories_31 (by decide) ?_
        exact ih10 _ _ _ _ _ (lv_sub hl [0, 1, 2] rfl) hP hD hS hf
  exact hB23 _ _ _ _ _ _ (lv_sub hl [0, 1, 2] rfl) hP hD hS hf

noncomputable def B_X12_histories_92 (J14 : Int32 → Option (Int32 × (Nat → Int32))) (again92 : Int32 → Int32 → Option (Int32 × (Nat → Int32))) (z15 : Int32) (z16 : Int32) : Option (Int32 × (Nat → Int32)) := (if z15 < 0 then (J14 z16) else none)
noncomputable def B_X12_histories_72 (x1 : Int32) (w2 : (Nat → Int32)) (i_p0_stirs : Int32) (again72 : Int32 → Int32 → Int32 → Option (Int32 × (Nat → Int32))) (z7 : Int32) (z8 : Int32) (z9 : Int32) : Option (Int32 × (Nat → Int32)) := (if (x1 - (10 : Int32)) < z7 then (some (z8, w2)) else (bnd (-4 : Int32) (fun (z11 : Int32) => (bnd (i_p0_stirs - (1 : Int32)) (fun (z12 : Int32) => (jn (fun (z13 : Int32) => none) (fun (J14 : Int32 → Option (Int32 × (Nat → Int32))) => (lq2 (B_X12_histories_92 J14) 1000 z12 z11))))))))
noncomputable def f_X12_histories (i_p0_seats : Int32) (i_p0_stirs : Int32) (v_p0_st : (Nat → Int32)) (v_p0_goesOn : (Nat → Int32)) (x1 : Int32) : Option (Int32 × (Nat → Int32)) := (jn (bd1 (f_X12_findHistories i_p0_seats i_p0_stirs v_p0_st v_p0_goesOn) (fun (w2 : (Nat → Int32)) => (bd1 (f_X12_stateNow v_p0_st) (fun (z3 : Int32) => (bnd z3 (fun (z4 : Int32) => (if x1 = 0 then (ck (ixB z4 343) (some ((w2 (z4).toNatClampNeg), w2))) else (ck (ixB z4 343) (if (w2 (z4).toNatClampNeg) = 0 then (some ((-4 : Int32), w2)) else (ck (ixB (31 : Int32) 152) (if (x1 - (10 : Int32)) < (v_p0_st ((31 : Int32)).toNatClampNeg) then (bnd (-4 : Int32) (fun (z5 : Int32) => (bnd (0 : Int32) (fun (z6 : Int32) => (lq3 (B_X12_histories_72 x1 w2 i_p0_stirs) 1000 z6 z5 z4))))) else (some ((-4 : Int32), w2))))))))))))) (fun (J1 : Option (Int32 × (Nat → Int32))) => (if x1 = 0 then (J1) else (bd1 (f_X12_in (x1).toInt64 (10 : Int64) (15 : Int64)) (fun (z18 : Int32) => (if z18 = 0 then (some ((-1 : Int32), v_p0_goesOn)) else (J1)))))))
abbrev rm_X12_histories : Room := { frames := 1, cells := 0, slots := 0, locals := 25 }
theorem inX12_histories_X12 : ∀ w ∈ wsX120, w ∈ wsX12_histories := by decide +kernel
theorem mwX12_histories_1 : Cond.fieldLink RX12 60 "LadleKingsModel" "goesOn" "[I" ∈ wsX12_histories := by decide +kernel
theorem mwX12_histories_2 : Cond.fieldLink RX12 7 "LadleKingsModel" "st" "[I" ∈ wsX12_histories := by decide +kernel
theorem mwX12_histories_3 : Cond.fieldLink RX12 103 "LadleKingsModel" "stirs" "I" ∈ wsX12_histories := by decide +kernel
theorem mwX12_histories_4 : Cond.constantLong RX12 236 (10) ∈ wsX12_histories := by decide +kernel
theorem mwX12_histories_5 : Cond.constantLong RX12 288 (15) ∈ wsX12_histories := by decide +kernel
set_option maxHeartbeats 8000000 in
set_option maxRecDepth 100000 in
theorem c_X12_histories (l : Launch) (D : va_G) (G : Nat → ClassId) (sz : Nat) (a_p0 : Nat) (a_p0_st : Nat) (a_p0_isKept : Nat) (a_p0_brings : Nat) (a_p0_need : Nat) (a_p0_draft : Nat) (a_p0_dStir : Nat) (a_p0_dNeed : Nat) (a_p0_tape : Nat) (a_p0_places : Nat) (a_p0_stirred : Nat) (a_p0_ways : Nat) (a_p0_waysThen : Nat) (a_p0_stays : Nat) (a_p0_fewest : Nat) (a_p0_bowls : Nat) (a_p0_has : Nat) (a_p0_goesOn : Nat) (a_p0_isThere : Nat) (a_p0_isThereThen : Nat) (a_p0_bestRow : Nat) (a_p0_lanes : Nat) (a_p0_sizes : Nat) (a_p0_cells : Nat) (i_p0_seats : Int32) (i_p0_stirs : Int32) (i_p0_dSeats : Int32) (i_p0_dStirs : Int32) (i_p0_told : Int32) (i_p0_highest : Int32) (i_p0_taped : Int32) (i_p0_pos : Int32) (i_p0_from : Int32) (i_p0_sort : Int32) (i_p0_value : Int32) (i_p0_fault : Int32) (i_p0_wrongAt : Int32) (i_p0_torn : Int32) (v_p0_st : (Nat → Int32)) (v_p0_goesOn : (Nat → Int32)) (x1 : Int32) (r : Int32) (o_v_p0_goesOn : (Nat → Int32)) (hf : f_X12_histories i_p0_seats i_p0_stirs v_p0_st v_p0_goesOn x1 = some (r, o_v_p0_goesOn)) : Met l yX12_histories wsX12_histories rm_X12_histories (pcG D G [.ref a_p0, .int x1] sz [(a_p0, .inr (12, [.ref a_p0_st, .ref a_p0_isKept, .int i_p0_seats, .int i_p0_stirs, .ref a_p0_brings, .ref a_p0_need, .ref a_p0_draft, .int i_p0_dSeats, .int i_p0_dStirs, .ref a_p0_dStir, .ref a_p0_dNeed, .int i_p0_told, .int i_p0_highest, .ref a_p0_tape, .int i_p0_taped, .int i_p0_pos, .int i_p0_from, .int i_p0_sort, .int i_p0_value, .int i_p0_fault, .int i_p0_wrongAt, .ref a_p0_places, .ref a_p0_stirred, .ref a_p0_ways, .ref a_p0_waysThen, .ref a_p0_stays, .ref a_p0_fewest, .ref a_p0_bowls, .ref a_p0_has, .ref a_p0_goesOn, .ref a_p0_isThere, .ref a_p0_isThereThen, .ref a_p0_bestRow, .ref a_p0_lanes, .ref a_p0_sizes, .ref a_p0_cells, .int i_p0_torn])), (a_p0_st, .inl (G 1, 152, .inl v_p0_st)), (a_p0_goesOn, .inl (G 1, 343, .inl v_p0_goesOn))]) (qcI D G r [(a_p0, .inr (12, [.ref a_p0_st, .ref a_p0_isKept, .int i_p0_seats, .int i_p0_stirs, .ref a_p0_brings, .ref a_p0_need, .ref a_p0_draft, .int i_p0_dSeats, .int i_p0_dStirs, .ref a_p0_dStir, .ref a_p0_dNeed, .int i_p0_told, .int i_p0_highest, .ref a_p0_tape, .int i_p0_taped, .int i_p0_pos, .int i_p0_from, .int i_p0_sort, .int i_p0_value, .int i_p0_fault, .int i_p0_wrongAt, .ref a_p0_places, .ref a_p0_stirred, .ref a_p0_ways, .ref a_p0_waysThen, .ref a_p0_stays, .ref a_p0_fewest, .ref a_p0_bowls, .ref a_p0_has, .ref a_p0_goesOn, .ref a_p0_isThere, .ref a_p0_isThereThen, .ref a_p0_bestRow, .ref a_p0_lanes, .ref a_p0_sizes, .ref a_p0_cells, .int i_p0_torn])), (a_p0_st, .inl (G 1, 152, .inl v_p0_st)), (a_p0_goesOn, .inl (G 1, 343, .inl o_v_p0_goesOn))] (va_A [(a_p0, .inr (12, [.ref a_p0_st, .ref a_p0_isKept, .int i_p0_seats, .int i_p0_stirs, .ref a_p0_brings, .ref a_p0_need, .ref a_p0_draft, .int i_p0_dSeats, .int i_p0_dStirs, .ref a_p0_dStir, .ref a_p0_dNeed, .int i_p0_told, .int i_p0_highest, .ref a_p0_tape, .int i_p0_taped, .int i_p0_pos, .int i_p0_from, .int i_p0_sort, .int i_p0_value, .int i_p0_fault, .int i_p0_wrongAt, .ref a_p0_places, .ref a_p0_stirred, .ref a_p0_ways, .ref a_p0_waysThen, .ref a_p0_stays, .ref a_p0_fewest, .ref a_p0_bowls, .ref a_p0_has, .ref a_p0_goesOn, .ref a_p0_isThere, .ref a_p0_isThereThen, .ref a_p0_bestRow, .ref a_p0_lanes, .ref a_p0_sizes, .ref a_p0_cells, .int i_p0_torn])), (a_p0_st, .inl (G 1, 152, .inl v_p0_st)), (a_p0_goesOn, .inl (G 1, 343, .inl v_p0_goesOn))] sz)) 0 0 (va_A [(a_p0, .inr (12, [.ref a_p0_st, .ref a_p0_isKept, .int i_p0_seats, .int i_p0_stirs, .ref a_p0_brings, .ref a_p0_need, .ref a_p0_draft, .int i_p0_dSeats, .int i_p0_dStirs, .ref a_p0_dStir, .ref a_p0_dNeed, .int i_p0_told, .int i_p0_highest, .ref a_p0_tape, .int i_p0_taped, .int i_p0_pos, .int i_p0_from, .int i_p0_sort, .int i_p0_value, .int i_p0_fault, .int i_p0_wrongAt, .ref a_p0_places, .ref a_p0_stirred, .ref a_p0_ways, .ref a_p0_waysThen, .ref a_p0_stays, .ref a_p0_fewest, .ref a_p0_bowls, .ref a_p0_has, .ref a_p0_goesOn, .ref a_p0_isThere, .ref a_p0_isThereThen, .ref a_p0_bestRow, .ref a_p0_lanes, .ref a_p0_sizes, .ref a_p0_cells, .int i_p0_torn])), (a_p0_st, .inl (G 1, 152, .inl v_p0_st)), (a_p0_goesOn, .inl (G 1, 343, .inl v_p0_goesOn))] sz) := by
  refine Met.ofW (cc := cX12_histories) (maxL := 6) (ret := (some .int)) (by decide) rfl ?_
  intro p e s m args below meth c s₁ B hml hv
  obtain ⟨rfl, hsz, hP, hK, hD0⟩ := hv
  have hx := B.exec
  have hb := B.bytes
  have hr := B.returns
  have hts := atoms_spec (ws := wsX12_histories) B.pre
  have hown : s.vm.findClass RX12 = some m.cls := findClass_of_methodNamed B.named
  have hlocks := B.notSynchronized
  subst hsz
  have hD := hD0.self (sz := s.heap.size)
  generalize hAe : va_A [(a_p0, .inr (12, [.ref a_p0_st, .ref a_p0_isKept, .int i_p0_seats, .int i_p0_stirs, .ref a_p0_brings, .ref a_p0_need, .ref a_p0_draft, .int i_p0_dSeats, .int i_p0_dStirs, .ref a_p0_dStir, .ref a_p0_dNeed, .int i_p0_told, .int i_p0_highest, .ref a_p0_tape, .int i_p0_taped, .int i_p0_pos, .int i_p0_from, .int i_p0_sort, .int i_p0_value, .int i_p0_fault, .int i_p0_wrongAt, .ref a_p0_places, .ref a_p0_stirred, .ref a_p0_ways, .ref a_p0_waysThen, .ref a_p0_stays, .ref a_p0_fewest, .ref a_p0_bowls, .ref a_p0_has, .ref a_p0_goesOn, .ref a_p0_isThere, .ref a_p0_isThereThen, .ref a_p0_bestRow, .ref a_p0_lanes, .ref a_p0_sizes, .ref a_p0_cells, .int i_p0_torn])), (a_p0_st, .inl (G 1, 152, .inl v_p0_st)), (a_p0_goesOn, .inl (G 1, 343, .inl v_p0_goesOn))] s.heap.size = A at hD ⊢
  have hA : ∀ q : Nat, s.heap.size ≤ q → A q := fun q h => by rw [← hAe]; exact Or.inr h
  clear hAe hD0
  have hS : va_S A s.heap s.heap [] := va_S.rf
  have hl := lv_entry ([.ref a_p0, .int x1]) (n := 6) (Nat.le_of_ble_eq_true rfl)
  rw [lg_entry_eq]
  generalize (lg_sl ([.ref a_p0, .int x1]) ++ List.replicate (6 - (lg_sl ([.ref a_p0, .int x1])).length) Slot.unset).toArray = ls at hl ⊢
  have hl : lv_has ls 6 [(0, .ref a_p0), (1, .int x1)] := hl
  refine W_nameQ (fun Q hQ => ?_)
  obtain ⟨H, hH⟩ : ∃ H, H = s.heap := ⟨_, rfl⟩
  replace hS : va_S A s.heap H [] := by rw [hH]; exact hS
  replace hP : va_P D vwCl [(a_p0, .inr (12, [.ref a_p0_st, .ref a_p0_isKept, .int i_p0_seats, .int i_p0_stirs, .ref a_p0_brings, .ref a_p0_need, .ref a_p0_draft, .int i_p0_dSeats, .int i_p0_dStirs, .ref a_p0_dStir, .ref a_p0_dNeed, .int i_p0_told, .int i_p0_highest, .ref a_p0_tape, .int i_p0_taped, .int i_p0_pos, .int i_p0_from, .int i_p0_sort, .int i_p0_value, .int i_p0_fault, .int i_p0_wrongAt, .ref a_p0_places, .ref a_p0_stirred, .ref a_p0_ways, .ref a_p0_waysThen, .ref a_p0_stays, .ref a_p0_fewest, .ref a_p0_bowls, .ref a_p0_has, .ref a_p0_goesOn, .ref a_p0_isThere, .ref a_p0_isThereThen, .ref a_p0_bestRow, .ref a_p0_lanes, .ref a_p0_sizes, .ref a_p0_cells, .int i_p0_torn])), (a_p0_st, .inl (G 1, 152, .inl v_p0_st)), (a_p0_goesOn, .inl (G 1, 343, .inl v_p0_goesOn))] H := by rw [hH]; exact hP
  rw [← hH]
  clear hH
  unfold f_X12_histories at hf
  refine lv_iload_n hx hb dX12_histories_0 rfl (lv_at hl 1 rfl) ?_
  have hq := jn_i hf
  clear hf
  obtain ⟨J1, eJ1, hf⟩ := hq
  have hJ1 : ∀  (ls : Array Slot) (H : Heap) (locs : List Loc), lv_has ls 6 [(0, .ref a_p0), (1, .int x1)] → va_P D vwCl [(a_p0, .inr (12, [.ref a_p0_st, .ref a_p0_isKept, .int i_p0_seats, .int i_p0_stirs, .ref a_p0_brings, .ref a_p0_need, .ref a_p0_draft, .int i_p0_dSeats, .int i_p0_dStirs, .ref a_p0_dStir, .ref a_p0_dNeed, .int i_p0_told, .int i_p0_highest, .ref a_p0_tape, .int i_p0_taped, .int i_p0_pos, .int i_p0_from, .int i_p0_sort, .int i_p0_value, .int i_p0_fault, .int i_p0_wrongAt, .ref a_p0_places, .ref a_p0_stirred, .ref a_p0_ways, .ref a_p0_waysThen, .ref a_p0_stays, .ref a_p0_fewest, .ref a_p0_bowls, .ref a_p0_has, .ref a_p0_goesOn, .ref a_p0_isThere, .ref a_p0_isThereThen, .ref a_p0_bestRow, .ref a_p0_lanes, .ref a_p0_sizes, .ref a_p0_cells, .int i_p0_torn])), (a_p0_st, .inl (G 1, 152, .inl v_p0_st)), (a_p0_goesOn, .inl (G 1, 343, .inl v_p0_goesOn))] H → va_D A [(a_p0, .inr (12, [.ref a_p0_st, .ref a_p0_isKept, .int i_p0_seats, .int i_p0_stirs, .ref a_p0_brings, .ref a_p0_need, .ref a_p0_draft, .int i_p0_dSeats, .int i_p0_dStirs, .ref a_p0_dStir, .ref a_p0_dNeed, .int i_p0_told, .int i_p0_highest, .ref a_p0_tape, .int i_p0_taped, .int i_p0_pos, .int i_p0_from, .int i_p0_sort, .int i_p0_value, .int i_p0_fault, .int i_p0_wrongAt, .ref a_p0_places, .ref a_p0_stirred, .ref a_p0_ways, .ref a_p0_waysThen, .ref a_p0_stays, .ref a_p0_fewest, .ref a_p0_bowls, .ref a_p0_has, .ref a_p0_goesOn, .ref a_p0_isThere, .ref a_p0_isThereThen, .ref a_p0_bestRow, .ref a_p0_lanes, .ref a_p0_sizes, .ref a_p0_cells, .int i_p0_torn])), (a_p0_st, .inl (G 1, 152, .inl v_p0_st)), (a_p0_goesOn, .inl (G 1, 343, .inl v_p0_goesOn))] → va_S A s.heap H locs → J1  = some (r, o_v_p0_goesOn) → W p l e rm_X12_histories s m ([.ref a_p0, .int x1] : List Value).toArray below meth c H locs 0 0 Q (F0 m 20 ls []) := by
    clear hf hl hP hD hS
    intro  ls H locs hl hP hD hS hf
    replace hf := jn0_s eJ1 hf
    refine lv_aload_n hx hb dX12_histories_20 rfl (lv_at hl 0 rfl) ?_
    have hq := bd1_s hf
    clear hf
    obtain ⟨w2, hcall, hf⟩ := hq
    refine gcV (ws' := [(a_p0, .inr (12, [.ref a_p0_st, .ref a_p0_isKept, .int i_p0_seats, .int i_p0_stirs, .ref a_p0_brings, .ref a_p0_need, .ref a_p0_draft, .int i_p0_dSeats, .int i_p0_dStirs, .ref a_p0_dStir, .ref a_p0_dNeed, .int i_p0_told, .int i_p0_highest, .ref a_p0_tape, .int i_p0_taped, .int i_p0_pos, .int i_p0_from, .int i_p0_sort, .int i_p0_value, .int i_p0_fault, .int i_p0_wrongAt, .ref a_p0_places, .ref a_p0_stirred, .ref a_p0_ways, .ref a_p0_waysThen, .ref a_p0_stays, .ref a_p0_fewest, .ref a_p0_bowls, .ref a_p0_has, .ref a_p0_goesOn, .ref a_p0_isThere, .ref a_p0_isThereThen, .ref a_p0_bestRow, .ref a_p0_lanes, .ref a_p0_sizes, .ref a_p0_cells, .int i_p0_torn])), (a_p0_st, .inl (G 1, 152, .inl v_p0_st)), (a_p0_goesOn, .inl (G 1, 343, .inl w2))]) (va_runV (As := []) (rest := []) ⟨hx, hb, hml, hown, hts⟩ (c_X12_findHistories (l := l) (D := D) (G := G) (sz := H.size) (a_p0 := a_p0) (a_p0_st := a_p0_st) (a_p0_isKept := a_p0_isKept) (a_p0_brings := a_p0_brings) (a_p0_need := a_p0_need) (a_p0_draft := a_p0_draft) (a_p0_dStir := a_p0_dStir) (a_p0_dNeed := a_p0_dNeed) (a_p0_tape := a_p0_tape) (a_p0_places := a_p0_places) (a_p0_stirred := a_p0_stirred) (a_p0_ways := a_p0_ways) (a_p0_waysThen := a_p0_waysThen) (a_p0_stays := a_p0_stays) (a_p0_fewest := a_p0_fewest) (a_p0_bowls := a_p0_bowls) (a_p0_has := a_p0_has) (a_p0_goesOn := a_p0_goesOn) (a_p0_isThere := a_p0_isThere) (a_p0_isThereThen := a_p0_isThereThen) (a_p0_bestRow := a_p0_bestRow) (a_p0_lanes := a_p0_lanes) (a_p0_sizes := a_p0_sizes) (a_p0_cells := a_p0_cells) (i_p0_seats := i_p0_seats) (i_p0_stirs := i_p0_stirs) (i_p0_dSeats := i_p0_dSeats) (i_p0_dStirs := i_p0_dStirs) (i_p0_told := i_p0_told) (i_p0_highest := i_p0_highest) (i_p0_taped := i_p0_taped) (i_p0_pos := i_p0_pos) (i_p0_from := i_p0_from) (i_p0_sort := i_p0_sort) (i_p0_value := i_p0_value) (i_p0_fault := i_p0_fault) (i_p0_wrongAt := i_p0_wrongAt) (i_p0_torn := i_p0_torn) (v_p0_st := v_p0_st) (v_p0_goesOn := v_p0_goesOn) (o_v_p0_goesOn := w2) (hf := hcall)) (cwV 0 hts gX12_histories_X12_findHistories rfl rfl rfl (by decide +kernel) ⟨Nat.le_of_ble_eq_true rfl, Nat.le_of_ble_eq_true rfl⟩) (preG_V (ci := 12) (hP.sub [0, 1, 2] rfl) (hD.sub [0, 1, 2] rfl rfl) hK rfl rfl) rfl rfl hl.1 rfl (lv_room (Nat.le_of_ble_eq_true rfl)) dX12_histories_21 ⟨Nat.le_of_ble_eq_true rfl, Nat.le_of_ble_eq_true rfl⟩) hP hD hS hA [0, 1, 2] [] [0, 1, 2] rfl rfl rfl (by decide) rfl rfl rfl (fun H locs hP hD hS => ?_)
    clear hcall
    refine lv_aload_n hx hb dX12_histories_24 rfl (lv_at hl 0 rfl) ?_
    have hq := bd1_s hf
    clear hf
    obtain ⟨z3, hcall, hf⟩ := hq
    refine gcI (ws' := [(a_p0, .inr (12, [.ref a_p0_st, .ref a_p0_isKept, .int i_p0_seats, .int i_p0_stirs, .ref a_p0_brings, .ref a_p0_need, .ref a_p0_draft, .int i_p0_dSeats, .int i_p0_dStirs, .ref a_p0_dStir, .ref a_p0_dNeed, .int i_p0_told, .int i_p0_highest, .ref a_p0_tape, .int i_p0_taped, .int i_p0_pos, .int i_p0_from, .int i_p0_sort, .int i_p0_value, .int i_p0_fault, .int i_p0_wrongAt, .ref a_p0_places, .ref a_p0_stirred, .ref a_p0_ways, .ref a_p0_waysThen, .ref a_p0_stays, .ref a_p0_fewest, .ref a_p0_bowls, .ref a_p0_has, .ref a_p0_goesOn, .ref a_p0_isThere, .ref a_p0_isThereThen, .ref a_p0_bestRow, .ref a_p0_lanes, .ref a_p0_sizes, .ref a_p0_cells, .int i_p0_torn])), (a_p0_st, .inl (G 1, 152, .inl v_p0_st)), (a_p0_goesOn, .inl (G 1, 343, .inl w2))]) (va_runV (As := []) (rest := []) ⟨hx, hb, hml, hown, hts⟩ (c_X12_stateNow (l := l) (D := D) (G := G) (sz := H.size) (a_p0 := a_p0) (a_p0_st := a_p0_st) (a_p0_isKept := a_p0_isKept) (a_p0_brings := a_p0_brings) (a_p0_need := a_p0_need) (a_p0_draft := a_p0_draft) (a_p0_dStir := a_p0_dStir) (a_p0_dNeed := a_p0_dNeed) (a_p0_tape := a_p0_tape) (a_p0_places := a_p0_places) (a_p0_stirred := a_p0_stirred) (a_p0_ways := a_p0_ways) (a_p0_waysThen := a_p0_waysThen) (a_p0_stays := a_p0_stays) (a_p0_fewest := a_p0_fewest) (a_p0_bowls := a_p0_bowls) (a_p0_has := a_p0_has) (a_p0_goesOn := a_p0_goesOn) (a_p0_isThere := a_p0_isThere) (a_p0_isThereThen := a_p0_isThereThen) (a_p0_bestRow := a_p0_bestRow) (a_p0_lanes := a_p0_lanes) (a_p0_sizes := a_p0_sizes) (a_p0_cells := a_p0_cells) (i_p0_seats := i_p0_seats) (i_p0_stirs := i_p0_stirs) (i_p0_dSeats := i_p0_dSeats) (i_p0_dStirs := i_p0_dStirs) (i_p0_told := i_p0_told) (i_p0_highest := i_p0_highest) (i_p0_taped := i_p0_taped) (i_p0_pos := i_p0_pos) (i_p0_from := i_p0_from) (i_p0_sort := i_p0_sort) (i_p0_value := i_p0_value) (i_p0_fault := i_p0_fault) (i_p0_wrongAt := i_p0_wrongAt) (i_p0_torn := i_p0_torn) (v_p0_st := v_p0_st) (r := z3) (hf := hcall)) (cwV 0 hts gX12_histories_X12_stateNow rfl rfl rfl (by decide +kernel) ⟨Nat.le_of_ble_eq_true rfl, Nat.le_of_ble_eq_true rfl⟩) (preG_V (ci := 12) (hP.sub [0, 1] rfl) (hD.sub [0, 1] rfl rfl) hK rfl rfl) rfl rfl hl.1 rfl (lv_room (Nat.le_of_ble_eq_true rfl)) dX12_histories_25 ⟨Nat.le_of_ble_eq_true rfl, Nat.le_of_ble_eq_true rfl⟩) hP hD hS hA [0, 1] [2] [1, 2, 0] rfl rfl rfl (by decide) rfl rfl rfl (fun H locs hP hD hS => ?_)
    clear hcall
    refine lv_topi (fun z4 ez => ?_)
    replace hf := bnd_s hf ez
    clear ez
    refine lv_istore_n (lv' := [(2, .int z4), (0, .ref a_p0), (1, .int x1)]) hx hb dX12_histories_28 rfl hl (by decide) rfl (fun ls hl => ?_)
    refine lv_iload_n hx hb dX12_histories_29 rfl (lv_at hl 2 rfl) ?_
    refine lv_if_ne (tgt := 40) hx hb dX12_histories_30 (by decide) (fun cc => ?_) (fun cc => ?_)
    ·
      replace hf := ite_f cc hf
      clear cc
      refine lv_aload_n hx hb dX12_histories_40 rfl (lv_at hl 1 rfl) ?_
      refine va_get (D := D) (ci := 12) (v := .ref a_p0_goesOn) (C := RX12) (T := TX12) (N := 37) hx hb hts inX12_histories_X12 hown hK hP 0 rfl rfl 29 (by decide) (hts _ mwX12_histories_1) (fun _ h9 => h9) rfl dX12_histories_41 ?_
      refine lv_iload_n hx hb dX12_histories_44 rfl (lv_at hl 0 rfl) ?_
      have hc := ck_c hf
      replace hf := ck_r hf
      refine va_iald hx hb hK hP 2 1 rfl rfl (ixB_in hc) dX12_histories_45 ?_
      clear hc
      refine lv_if_eq (tgt := 63) hx hb dX12_histories_46 (by decide) (fun cc => ?_) (fun cc => ?_)
      ·
        replace hf := ite_t cc hf
        clear cc
        refine lv_bipush (v := (-4 : Int32)) hx hb dX12_histories_63 (by decide) ?_
        obtain ⟨rfl, rfl⟩ := ou2 hf
        rw [hQ]
        exact W.iret hx hb hr (fun t ht hW => ⟨⟨_, (), rfl, rfl, by rw [ht]; exact hP, va_K.moved hW.alike hK, hD⟩, hS.F ht⟩) hS.2.2 dX12_histories_65
      ·
        replace hf := ite_f cc hf
        clear cc
        refine lv_iload_n hx hb dX12_histories_49 rfl (lv_at hl 2 rfl) ?_
        refine lv_bipush (v := (10 : Int32)) hx hb dX12_histories_50 (by decide) ?_
        refine lv_isub hx hb dX12_histories_52 ?_
        refine lv_aload_n hx hb dX12_histories_53 rfl (lv_at hl 1 rfl) ?_
        refine va_get (D := D) (ci := 12) (v := .ref a_p0_st) (C := RX12) (T := TX12) (N := 37) hx hb hts inX12_histories_X12 hown hK hP 0 rfl rfl 0 (by decide) (hts _ mwX12_histories_2) (fun _ h9 => h9) rfl dX12_histories_54 ?_
        refine lv_bipush (v := (31 : Int32)) hx hb dX12_histories_57 (by decide) ?_
        have hc := ck_c hf
        replace hf := ck_r hf
        refine va_iald hx hb hK hP 1 1 rfl rfl (ixB_in hc) dX12_histories_59 ?_
        clear hc
        refine lv_icmp_lt (tgt := 66) hx hb dX12_histories_60 (by decide) (fun cc => ?_) (fun cc => ?_)
        ·
          replace hf := ite_t cc hf
          clear cc
          refine lv_bipush (v := (-4 : Int32)) hx hb dX12_histories_66 (by decide) ?_
          refine lv_topi (fun z5 ez => ?_)
          replace hf := bnd_s hf ez
          clear ez
          refine lv_istore_n (lv' := [(3, .int z5), (2, .int z4), (0, .ref a_p0), (1, .int x1)]) hx hb dX12_histories_68 rfl hl (by decide) rfl (fun ls hl => ?_)
          refine lv_iconst (v := (0 : Int32)) hx hb dX12_histories_69 (by decide) ?_
          refine lv_topi (fun z6 ez => ?_)
          replace hf := bnd_s hf ez
          clear ez
          refine lv_istore (lv' := [(4, .int z6), (3, .int z5), (2, .int z4), (0, .ref a_p0), (1, .int x1)]) hx hb dX12_histories_70 hl (by decide) rfl (fun ls hl => ?_)
          have hq := lq3_i hf
          clear hf
          obtain ⟨B10, eB10, NB10, hf⟩ := hq
          have hB10 : ∀ (n : Nat) (z7 : Int32) (z8 : Int32) (z9 : Int32) (ls : Array Slot) (H : Heap) (locs : List Loc), lv_has ls 6 [(4, .int z7), (3, .int z8), (2, .int z9), (0, .ref a_p0), (1, .int x1)] → va_P D vwCl [(a_p0, .inr (12, [.ref a_p0_st, .ref a_p0_isKept, .int i_p0_seats, .int i_p0_stirs, .ref a_p0_brings, .ref a_p0_need, .ref a_p0_draft, .int i_p0_dSeats, .int i_p0_dStirs, .ref a_p0_dStir, .ref a_p0_dNeed, .int i_p0_told, .int i_p0_highest, .ref a_p0_tape, .int i_p0_taped, .int i_p0_pos, .int i_p0_from, .int i_p0_sort, .int i_p0_value, .int i_p0_fault, .int i_p0_wrongAt, .ref a_p0_places, .ref a_p0_stirred, .ref a_p0_ways, .ref a_p0_waysThen, .ref a_p0_stays, .ref a_p0_fewest, .ref a_p0_bowls, .ref a_p0_has, .ref a_p0_goesOn, .ref a_p0_isThere, .ref a_p0_isThereThen, .ref a_p0_bestRow, .ref a_p0_lanes, .ref a_p0_sizes, .ref a_p0_cells, .int i_p0_torn])), (a_p0_st, .inl (G 1, 152, .inl v_p0_st)), (a_p0_goesOn, .inl (G 1, 343, .inl w2))] H → va_D A [(a_p0, .inr (12, [.ref a_p0_st, .ref a_p0_isKept, .int i_p0_seats, .int i_p0_stirs, .ref a_p0_brings, .ref a_p0_need, .ref a_p0_draft, .int i_p0_dSeats, .int i_p0_dStirs, .ref a_p0_dStir, .ref a_p0_dNeed, .int i_p0_told, .int i_p0_highest, .ref a_p0_tape, .int i_p0_taped, .int i_p0_pos, .int i_p0_from, .int i_p0_sort, .int i_p0_value, .int i_p0_fault, .int i_p0_wrongAt, .ref a_p0_places, .ref a_p0_stirred, .ref a_p0_ways, .ref a_p0_waysThen, .ref a_p0_stays, .ref a_p0_fewest, .ref a_p0_bowls, .ref a_p0_has, .ref a_p0_goesOn, .ref a_p0_isThere, .ref a_p0_isThereThen, .ref a_p0_bestRow, .ref a_p0_lanes, .ref a_p0_sizes, .ref a_p0_cells, .int i_p0_torn])), (a_p0_st, .inl (G 1, 152, .inl v_p0_st)), (a_p0_goesOn, .inl (G 1, 343, .inl w2))] → va_S A s.heap H locs → lq3 B10 n z7 z8 z9 = some (r, o_v_p0_goesOn) → W p l e rm_X12_histories s m ([.ref a_p0, .int x1] : List Value).toArray below meth c H locs 0 0 Q (F0 m 72 ls []) := by
            clear hf hl hP hD hS
            intro n
            induction n with
            | zero =>
              intro z7 z8 z9 ls H locs hl hP hD hS hf
              exact (lq3_0 hf).elim
            | succ n ih72 =>
              intro z7 z8 z9 ls H locs hl hP hD hS hf
              replace hf := lq3_s eB10 hf
              unfold B_X12_histories_72 at hf
              refine lv_iload hx hb dX12_histories_72 (lv_at hl 0 rfl) ?_
              refine lv_iload_n hx hb dX12_histories_74 rfl (lv_at hl 4 rfl) ?_
              refine lv_bipush (v := (10 : Int32)) hx hb dX12_histories_75 (by decide) ?_
              refine lv_isub hx hb dX12_histories_77 ?_
              refine lv_icmp_gt (tgt := 135) hx hb dX12_histories_78 (by decide) (fun cc => ?_) (fun cc => ?_)
              ·
                replace hf := ite_t cc hf
                clear cc
                refine lv_iload_n hx hb dX12_histories_135 rfl (lv_at hl 1 rfl) ?_
                obtain ⟨rfl, rfl⟩ := ou2 hf
                rw [hQ]
                exact W.iret hx hb hr (fun t ht hW => ⟨⟨_, (), rfl, rfl, by rw [ht]; exact hP, va_K.moved hW.alike hK, hD⟩, hS.F ht⟩) hS.2.2 dX12_histories_136
              ·
                replace hf := ite_f cc hf
                clear cc
                refine lv_bipush (v := (-4 : Int32)) hx hb dX12_histories_81 (by decide) ?_
                refine lv_topi (fun z11 ez => ?_)
                replace hf := bnd_s hf ez
                clear ez
                refine lv_istore_n (lv' := [(3, .int z11), (4, .int z7), (2, .int z9), (0, .ref a_p0), (1, .int x1)]) hx hb dX12_histories_83 rfl hl (by decide) rfl (fun ls hl => ?_)
                refine lv_aload_n hx hb dX12_histories_84 rfl (lv_at hl 3 rfl) ?_
                refine va_get (D := D) (ci := 12) (v := .int i_p0_stirs) (C := RX12) (T := TX12) (N := 37) hx hb hts inX12_histories_X12 hown hK hP 0 rfl rfl 3 (by decide) (hts _ mwX12_histories_3) (fun _ h9 => h9) rfl dX12_histories_85 ?_
                refine lv_iconst (v := (1 : Int32)) hx hb dX12_histories_88 (by decide) ?_
                refine lv_isub hx hb dX12_histories_89 ?_
                refine lv_topi (fun z12 ez => ?_)
                replace hf := bnd_s hf ez
                clear ez
                refine lv_istore (lv' := [(5, .int z12), (3, .int z11), (4, .int z7), (2, .int z9), (0, .ref a_p0), (1, .int x1)]) hx hb dX12_histories_90 hl (by decide) rfl (fun ls hl => ?_)
                have hq := jn_i hf
                clear hf
                obtain ⟨J14, eJ14, hf⟩ := hq
                have hJ14 : ∀ (z13 : Int32) (ls : Array Slot) (H : Heap) (locs : List Loc), lv_has ls 6 [(3, .int z13), (4, .int z7), (2, .int z9), (0, .ref a_p0), (1, .int x1)] → va_P D vwCl [(a_p0, .inr (12, [.ref a_p0_st, .ref a_p0_isKept, .int i_p0_seats, .int i_p0_stirs, .ref a_p0_brings, .ref a_p0_need, .ref a_p0_draft, .int i_p0_dSeats, .int i_p0_dStirs, .ref a_p0_dStir, .ref a_p0_dNeed, .int i_p0_told, .int i_p0_highest, .ref a_p0_tape, .int i_p0_taped, .int i_p0_pos, .int i_p0_from, .int i_p0_sort, .int i_p0_value, .int i_p0_fault, .int i_p0_wrongAt, .ref a_p0_places, .ref a_p0_stirred, .ref a_p0_ways, .ref a_p0_waysThen, .ref a_p0_stays, .ref a_p0_fewest, .ref a_p0_bowls, .ref a_p0_has, .ref a_p0_goesOn, .ref a_p0_isThere, .ref a_p0_isThereThen, .ref a_p0_bestRow, .ref a_p0_lanes, .ref a_p0_sizes, .ref a_p0_cells, .int i_p0_torn])), (a_p0_st, .inl (G 1, 152, .inl v_p0_st)), (a_p0_goesOn, .inl (G 1, 343, .inl w2))] H → va_D A [(a_p0, .inr (12, [.ref a_p0_st, .ref a_p0_isKept, .int i_p0_seats, .int i_p0_stirs, .ref a_p0_brings, .ref a_p0_need, .ref a_p0_draft, .int i_p0_dSeats, .int i_p0_dStirs, .ref a_p0_dStir, .ref a_p0_dNeed, .int i_p0_told, .int i_p0_highest, .ref a_p0_tape, .int i_p0_taped, .int i_p0_pos, .int i_p0_from, .int i_p0_sort, .int i_p0_value, .int i_p0_fault, .int i_p0_wrongAt, .ref a_p0_places, .ref a_p0_stirred, .ref a_p0_ways, .ref a_p0_waysThen, .ref a_p0_stays, .ref a_p0_fewest, .ref a_p0_bowls, .ref a_p0_has, .ref a_p0_goesOn, .ref a_p0_isThere, .ref a_p0_isThereThen, .ref a_p0_bestRow, .ref a_p0_lanes, .ref a_p0_sizes, .ref a_p0_cells, .int i_p0_torn])), (a_p0_st, .inl (G 1, 152, .inl v_p0_st)), (a_p0_goesOn, .inl (G 1, 343, .inl w2))] → va_S A s.heap H locs → J14 z13 = some (r, o_v_p0_goesOn) → W p l e rm_X12_histories s m ([.ref a_p0, .int x1] : List Value).toArray below meth c H locs 0 0 Q (F0 m 122 ls []) := by
                  clear hf hl hP hD hS
                  intro z13 ls H locs hl hP hD hS hf
                  replace hf := jn1_s eJ14 hf
                  refine lv_aload_n hx hb dX12_histories_122 rfl (lv_at hl 3 rfl) ?_
                  refine lv_iload_n hx hb dX12_histories_123 rfl (lv_at hl 2 rfl) ?_
                  refine lv_iload_n hx hb dX12_histories_124 rfl (lv_at hl 0 rfl) ?_
                  cases hf
                have hq := lq2_i hf
                clear hf
                obtain ⟨B17, eB17, NB17, hf⟩ := hq
                have hB17 : ∀ (n : Nat) (z15 : Int32) (z16 : Int32) (ls : Array Slot) (H : Heap) (locs : List Loc), lv_has ls 6 [(5, .int z15), (3, .int z16), (4, .int z7), (2, .int z9), (0, .ref a_p0), (1, .int x1)] → va_P D vwCl [(a_p0, .inr (12, [.ref a_p0_st, .ref a_p0_isKept, .int i_p0_seats, .int i_p0_stirs, .ref a_p0_brings, .ref a_p0_need, .ref a_p0_draft, .int i_p0_dSeats, .int i_p0_dStirs, .ref a_p0_dStir, .ref a_p0_dNeed, .int i_p0_told, .int i_p0_highest, .ref a_p0_tape, .int i_p0_taped, .int i_p0_pos, .int i_p0_from, .int i_p0_sort, .int i_p0_value, .int i_p0_fault, .int i_p0_wrongAt, .ref a_p0_places, .ref a_p0_stirred, .ref a_p0_ways, .ref a_p0_waysThen, .ref a_p0_stays, .ref a_p0_fewest, .ref a_p0_bowls, .ref a_p0_has, .ref a_p0_goesOn, .ref a_p0_isThere, .ref a_p0_isThereThen, .ref a_p0_bestRow, .ref a_p0_lanes, .ref a_p0_sizes, .ref a_p0_cells, .int i_p0_torn])), (a_p0_st, .inl (G 1, 152, .inl v_p0_st)), (a_p0_goesOn, .inl (G 1, 343, .inl w2))] H → va_D A [(a_p0, .inr (12, [.ref a_p0_st, .ref a_p0_isKept, .int i_p0_seats, .int i_p0_stirs, .ref a_p0_brings, .ref a_p0_need, .ref a_p0_draft, .int i_p0_dSeats, .int i_p0_dStirs, .ref a_p0_dStir, .ref a_p0_dNeed, .int i_p0_told, .int i_p0_highest, .ref a_p0_tape, .int i_p0_taped, .int i_p0_pos, .int i_p0_from, .int i_p0_sort, .int i_p0_value, .int i_p0_fault, .int i_p0_wrongAt, .ref a_p0_places, .ref a_p0_stirred, .ref a_p0_ways, .ref a_p0_waysThen, .ref a_p0_stays, .ref a_p0_fewest, .ref a_p0_bowls, .ref a_p0_has, .ref a_p0_goesOn, .ref a_p0_isThere, .ref a_p0_isThereThen, .ref a_p0_bestRow, .ref a_p0_lanes, .ref a_p0_sizes, .ref a_p0_cells, .int i_p0_torn])), (a_p0_st, .inl (G 1, 152, .inl v_p0_st)), (a_p0_goesOn, .inl (G 1, 343, .inl w2))] → va_S A s.heap H locs → lq2 B17 n z15 z16 = some (r, o_v_p0_goesOn) → W p l e rm_X12_histories s m ([.ref a_p0, .int x1] : List Value).toArray below meth c H locs 0 0 Q (F0 m 92 ls []) := by
                  clear hf hl hP hD hS
                  intro n
                  induction n with
                  | zero =>
                    intro z15 z16 ls H locs hl hP hD hS hf
                    exact (lq2_0 hf).elim
                  | succ n ih92 =>
                    intro z15 z16 ls H locs hl hP hD hS hf
                    replace hf := lq2_s eB17 hf
                    unfold B_X12_histories_92 at hf
                    refine lv_iload hx hb dX12_histories_92 (lv_at hl 0 rfl) ?_
                    refine lv_if_lt (tgt := 122) hx hb dX12_histories_94 (by decide) (fun cc => ?_) (fun cc => ?_)
                    ·
                      replace hf := ite_t cc hf
                      clear cc
                      exact hJ14 _ _ _ _ (lv_sub hl [1, 2, 3, 4, 5] rfl) hP hD hS hf
                    ·
                      replace hf := ite_f cc hf
                      clear cc
                      refine lv_aload_n hx hb dX12_histories_97 rfl (lv_at hl 4 rfl) ?_
                      refine lv_iload hx hb dX12_histories_98 (lv_at hl 2 rfl) ?_
                      refine lv_iload_n hx hb dX12_histories_100 rfl (lv_at hl 3 rfl) ?_
                      refine lv_iload hx hb dX12_histories_101 (lv_at hl 0 rfl) ?_
                      cases hf
                exact hB17 _ _ _ _ _ _ (lv_sub hl [0, 1, 2, 3, 4, 5] rfl) hP hD hS hf
          exact hB10 _ _ _ _ _ _ _ (lv_sub hl [0, 1, 2, 3, 4] rfl) hP hD hS hf
        ·
          replace hf := ite_f cc hf
          clear cc
          refine lv_bipush (v := (-4 : Int32)) hx hb dX12_histories_63 (by decide) ?_
          obtain ⟨rfl, rfl⟩ := ou2 hf
          rw [hQ]
          exact W.iret hx hb hr (fun t ht hW => ⟨⟨_, (), rfl, rfl, by rw [ht]; exact hP, va_K.moved hW.alike hK, hD⟩, hS.F ht⟩) hS.2.2 dX12_histories_65
    ·
      replace hf := ite_t cc hf
      clear cc
      refine lv_aload_n hx hb dX12_histories_33 rfl (lv_at hl 1 rfl) ?_
      refine va_get (D := D) (ci := 12) (v := .ref a_p0_goesOn) (C := RX12) (T := TX12) (N := 37) hx hb hts inX12_histories_X12 hown hK hP 0 rfl rfl 29 (by decide) (hts _ mwX12_histories_1) (fun _ h9 => h9) rfl dX12_histories_34 ?_
      refine lv_iload_n hx hb dX12_histories_37 rfl (lv_at hl 0 rfl) ?_
      have hc := ck_c hf
      replace hf := ck_r hf
      refine va_iald hx hb hK hP 2 1 rfl rfl (ixB_in hc) dX12_histories_38 ?_
      clear hc
      obtain ⟨rfl, rfl⟩ := ou2 hf
      rw [hQ]
      exact W.iret hx hb hr (fun t ht hW => ⟨⟨_, (), rfl, rfl, by rw [ht]; exact hP, va_K.moved hW.alike hK, hD⟩, hS.F ht⟩) hS.2.2 dX12_histories_39
  refine lv_if_eq (tgt := 20) hx hb dX12_histories_1 (by decide) (fun cc => ?_) (fun cc => ?_)
  ·
    replace hf := ite_t cc hf
    clear cc
    exact hJ1  _ _ _ (lv_sub hl [0, 1] rfl) hP hD hS hf
  ·
    replace hf := ite_f cc hf
    clear cc
    refine lv_iload_n hx hb dX12_histories_4 rfl (lv_at hl 1 rfl) ?_
    refine lv_i2l hx hb dX12_histories_5 rfl ?_
    refine lv_ldc2 (v := (10 : Int64)) hx hb hown (hts _ mwX12_histories_4) dX12_histories_6 ?_
    refine lv_ldc2 (v := (15 : Int64)) hx hb hown (hts _ mwX12_histories_5) dX12_histories_9 ?_
    have hq := bd1_s hf
    clear hf
    obtain ⟨z18, hcall, hf⟩ := hq
    refine gcI (ws' := [(a_p0, .inr (12, [.ref a_p0_st, .ref a_p0_isKept, .int i_p0_seats, .int i_p0_stirs, .ref a_p0_brings, .ref a_p0_need, .ref a_p0_draft, .int i_p0_dSeats, .int i_p0_dStirs, .ref a_p0_dStir, .ref a_p0_dNeed, .int i_p0_told, .int i_p0_highest, .ref a_p0_tape, .int i_p0_taped, .int i_p0_pos, .int i_p0_from, .int i_p0_sort, .int i_p0_value, .int i_p0_fault, .int i_p0_wrongAt, .ref a_p0_places, .ref a_p0_stirred, .ref a_p0_ways, .ref a_p0_waysThen, .ref a_p0_stays, .ref a_p0_fewest, .ref a_p0_bowls, .ref a_p0_has, .ref a_p0_goesOn, .ref a_p0_isThere, .ref a_p0_isThereThen, .ref a_p0_bestRow, .ref a_p0_lanes, .ref a_p0_sizes, .ref a_p0_cells, .int i_p0_torn])), (a_p0_st, .inl (G 1, 152, .inl v_p0_st)), (a_p0_goesOn, .inl (G 1, 343, .inl v_p0_goesOn))]) (va_runS (As := [.long (x1).toInt64, .long (10 : Int64), .long (15 : Int64)]) (rest := []) ⟨hx, hb, hml, hown, hts⟩ (c_X12_in (l := l) (D := D) (G := G) (sz := H.size) (x0 := (x1).toInt64) (x2 := (10 : Int64)) (x4 := (15 : Int64)) (r := z18) (hf := hcall)) (va_cwS 3 hts gX12_histories_X12_in rfl rfl rfl (by decide +kernel) ⟨Nat.le_of_ble_eq_true rfl, Nat.le_of_ble_eq_true rfl⟩) (preG_S (hP.sub [] rfl) (hD.sub [] rfl rfl) hK) rfl rfl hl.1 rfl (lv_room (Nat.le_of_ble_eq_true rfl)) dX12_histories_12 ⟨Nat.le_of_ble_eq_true rfl, Nat.le_of_ble_eq_true rfl⟩) hP hD hS hA [] [0, 1, 2] [0, 1, 2] rfl rfl rfl (by decide) rfl rfl rfl (fun H locs hP hD hS => ?_)
    clear hcall
    refine lv_if_ne (tgt := 20) hx hb dX12_histories_15 (by decide) (fun cc => ?_) (fun cc => ?_)
    ·
      replace hf := ite_f cc hf
      clear cc
      exact hJ1  _ _ _ (lv_sub hl [0, 1] rfl) hP hD hS hf
    ·
      replace hf := ite_t cc hf
      clear cc
      refine lv_iconst (v := (-1 : Int32)) hx hb dX12_histories_18 (by decide) ?_
      obtain ⟨rfl, rfl⟩ := ou2 hf
      rw [hQ]
      exact W.iret hx hb hr (fun t ht hW => ⟨⟨_, (), rfl, rfl, by rw [ht]; exact hP, va_K.moved hW.alike hK, hD⟩, hS.F ht⟩) hS.2.2 dX12_histories_19

noncomputable def B_X12_could_173 (z8 : Int32) (again62 : Int32 → Int32 → (Nat → Int32) → (Nat → Int32) → Option (Int32 × (Nat → Int32) × (Nat → Int32) × (Nat → Int32))) (z18 : Int32) (w15 : (Nat → Int32)) (again173 : Int32 → (Nat → Int32) → Option (Int32 × (Nat → Int32) × (Nat → Int32) × (Nat → Int32))) (z21 : Int32) (w22 : (Nat → Int32)) : Option (Int32 × (Nat → Int32) × (Nat → Int32) × (Nat → Int32)) := (if (49 : Int32) ≤ z21 then (bnd (z8 + (1 : Int32)) (fun (z24 : Int32) => (again62 z24 z18 w22 w15))) else (ck (ixB z21 49) (ck (ixB z21 49) (bnd (upd w22 (z21).toNatClampNeg (vp_nar .boolean (w15 (z21).toNatClampNeg))) (fun (w25 : (Nat → Int32)) => (bnd (z21 + (1 : Int32)) (fun (z26 : Int32) => (again173 z26 w25))))))))
noncomputable def B_X12_could_106 (i_p0_stirs : Int32) (z27 : Int32) (again96 : Int32 → Int32 → Option (Int32 × (Nat → Int32) × (Nat → Int32) × (Nat → Int32))) (w10 : (Nat → Int32)) (again106 : Int32 → Int32 → Option (Int32 × (Nat → Int32) × (Nat → Int32) × (Nat → Int32))) (z31 : Int32) (z32 : Int32) : Option (Int32 × (Nat → Int32) × (Nat → Int32) × (Nat → Int32)) := (if i_p0_stirs ≤ z31 then (bnd (z27 + (1 : Int32)) (fun (z34 : Int32) => (again96 z34 z32))) else (ck (ixB z27 49) (if (w10 (z27).toNatClampNeg) = 0 then (bnd (z27 + (1 : Int32)) (fun (z35 : Int32) => (again96 z35 z32))) else none)))
noncomputable def B_X12_could_96 (J19 : Int32 → Option (Int32 × (Nat → Int32) × (Nat → Int32) × (Nat → Int32))) (i_p0_stirs : Int32) (w10 : (Nat → Int32)) (again96 : Int32 → Int32 → Option (Int32 × (Nat → Int32) × (Nat → Int32) × (Nat → Int32))) (z27 : Int32) (z28 : Int32) : Option (Int32 × (Nat → Int32) × (Nat → Int32) × (Nat → Int32)) := (if (49 : Int32) ≤ z27 then (J19 z28) else (bnd (0 : Int32) (fun (z30 : Int32) => (lq2 (B_X12_could_106 i_p0_stirs z27 again96 w10) 1000 z30 z28))))
noncomputable def B_X12_could_72 (J16 : (Nat → Int32) → Option (Int32 × (Nat → Int32) × (Nat → Int32) × (Nat → Int32))) (again72 : Int32 → (Nat → Int32) → Option (Int32 × (Nat → Int32) × (Nat → Int32) × (Nat → Int32))) (z36 : Int32) (w37 : (Nat → Int32)) : Option (Int32 × (Nat → Int32) × (Nat → Int32) × (Nat → Int32)) := (if (49 : Int32) ≤ z36 then (J16 w37) else (ck (ixB z36 49) (bnd (upd w37 (z36).toNatClampNeg (vp_nar .boolean (0 : Int32))) (fun (w39 : (Nat → Int32)) => (bnd (z36 + (1 : Int32)) (fun (z40 : Int32) => (again72 z40 w39)))))))
noncomputable def B_X12_could_62 (x1 : Int32) (w2 : (Nat → Int32)) (i_p0_stirs : Int32) (again62 : Int32 → Int32 → (Nat → Int32) → (Nat → Int32) → Option (Int32 × (Nat → Int32) × (Nat → Int32) × (Nat → Int32))) (z8 : Int32) (z9 : Int32) (w10 : (Nat → Int32)) (w11 : (Nat → Int32)) : Option (Int32 × (Nat → Int32) × (Nat → Int32) × (Nat → Int32)) := (if x1 < z8 then (some (z9, w2, w10, w11)) else (bnd (0 : Int32) (fun (z13 : Int32) => (bnd (0 : Int32) (fun (z14 : Int32) => (jn (fun (w15 : (Nat → Int32)) => (bnd (0 : Int32) (fun (z17 : Int32) => (jn (fun (z18 : Int32) => (bnd (0 : Int32) (fun (z20 : Int32) => (lq2 (B_X12_could_173 z8 again62 z18 w15) 1000 z20 w10)))) (fun (J19 : Int32 → Option (Int32 × (Nat → Int32) × (Nat → Int32) × (Nat → Int32))) => (lq2 (B_X12_could_96 J19 i_p0_stirs w10) 1000 z17 z13)))))) (fun (J16 : (Nat → Int32) → Option (Int32 × (Nat → Int32) × (Nat → Int32) × (Nat → Int32))) => (lq2 (B_X12_could_72 J16) 1000 z14 w11))))))))
noncomputable def B_X12_could_29 (J6 : (Nat → Int32) → Option (Int32 × (Nat → Int32) × (Nat → Int32) × (Nat → Int32))) (v_p0_st : (Nat → Int32)) (again29 : Int32 → (Nat → Int32) → Option (Int32 × (Nat → Int32) × (Nat → Int32) × (Nat → Int32))) (z41 : Int32) (w42 : (Nat → Int32)) : Option (Int32 × (Nat → Int32) × (Nat → Int32) × (Nat → Int32)) := (if (49 : Int32) ≤ z41 then (J6 w42) else (bd1 (f_X12_stateNow v_p0_st) (fun (z44 : Int32) => (if z41 = z44 then (ck (ixB z41 49) (bnd (upd w42 (z41).toNatClampNeg (vp_nar .boolean (1 : Int32))) (fun (w47 : (Nat → Int32)) => (bnd (z41 + (1 : Int32)) (fun (z48 : Int32) => (again29 z48 w47)))))) else (ck (ixB z41 49) (bnd (upd w42 (z41).toNatClampNeg (vp_nar .boolean (0 : Int32))) (fun (w45 : (Nat → Int32)) => (bnd (z41 + (1 : Int32)) (fun (z46 : Int32) => (again29 z46 w45))))))))))
noncomputable def f_X12_could (i_p0_seats : Int32) (i_p0_stirs : Int32) (v_p0_st : (Nat → Int32)) (v_p0_goesOn : (Nat → Int32)) (v_p0_isThere : (Nat → Int32)) (v_p0_isThereThen : (Nat → Int32)) (x1 : Int32) : Option (Int32 × (Nat → Int32) × (Nat → Int32) × (Nat → Int32)) := (ck (ixB (31 : Int32) 152) (bd1 (f_X12_in (x1).toInt64 (0 : Int64) (((v_p0_st ((31 : Int32)).toNatClampNeg) - (1 : Int32))).toInt64) (fun (z1 : Int32) => (if z1 = 0 then (some ((-1 : Int32), v_p0_goesOn, v_p0_isThere, v_p0_isThereThen)) else (bd1 (f_X12_findHistories i_p0_seats i_p0_stirs v_p0_st v_p0_goesOn) (fun (w2 : (Nat → Int32)) => (bnd (0 : Int32) (fun (z3 : Int32) => (bnd (0 : Int32) (fun (z4 : Int32) => (jn (fun (w5 : (Nat → Int32)) => (bnd (0 : Int32) (fun (z7 : Int32) => (lq4 (B_X12_could_62 x1 w2 i_p0_stirs) 1000 z7 z3 w5 v_p0_isThereThen)))) (fun (J6 : (Nat → Int32) → Option (Int32 × (Nat → Int32) × (Nat → Int32) × (Nat → Int32))) => (lq2 (B_X12_could_29 J6 v_p0_st) 1000 z4 v_p0_isThere)))))))))))))
abbrev rm_X12_could : Room := { frames := 1, cells := 0, slots := 0, locals := 25 }
theorem inX12_could_X12 : ∀ w ∈ wsX120, w ∈ wsX12_could := by decide +kernel
theorem mwX12_could_1 : Cond.fieldLink RX12 7 "LadleKingsModel" "st" "[I" ∈ wsX12_could := by decide +kernel
theorem mwX12_could_2 : Cond.fieldLink RX12 63 "LadleKingsModel" "isThere" "[Z" ∈ wsX12_could := by decide +kernel
theorem mwX12_could_3 : Cond.fieldLink RX12 66 "LadleKingsModel" "isThereThen" "[Z" ∈ wsX12_could := by decide +kernel
theorem mwX12_could_4 : Cond.fieldLink RX12 103 "LadleKingsModel" "stirs" "I" ∈ wsX12_could := by decide +kernel
set_option maxHeartbeats 8000000 in
set_option maxRecDepth 100000 in
theorem c_X12_could (l : Launch) (D : va_G) (G : Nat → ClassId) (sz : Nat) (a_p0 : Nat) (a_p0_st : Nat) (a_p0_isKept : Nat) (a_p0_brings : Nat) (a_p0_need : Nat) (a_p0_draft : Nat) (a_p0_dStir : Nat) (a_p0_dNeed : Nat) (a_p0_tape : Nat) (a_p0_places : Nat) (a_p0_stirred : Nat) (a_p0_ways : Nat) (a_p0_waysThen : Nat) (a_p0_stays : Nat) (a_p0_fewest : Nat) (a_p0_bowls : Nat) (a_p0_has : Nat) (a_p0_goesOn : Nat) (a_p0_isThere : Nat) (a_p0_isThereThen : Nat) (a_p0_bestRow : Nat) (a_p0_lanes : Nat) (a_p0_sizes : Nat) (a_p0_cells : Nat) (i_p0_seats : Int32) (i_p0_stirs : Int32) (i_p0_dSeats : Int32) (i_p0_dStirs : Int32) (i_p0_told : Int32) (i_p0_highest : Int32) (i_p0_taped : Int32) (i_p0_pos : Int32) (i_p0_from : Int32) (i_p0_sort : Int32) (i_p0_value : Int32) (i_p0_fault : Int32) (i_p0_wrongAt : Int32) (i_p0_torn : Int32) (v_p0_st : (Nat → Int32)) (v_p0_goesOn : (Nat → Int32)) (v_p0_isThere : (Nat → Int32)) (v_p0_isThereThen : (Nat → Int32)) (x1 : Int32) (r : Int32) (o_v_p0_goesOn : (Nat → Int32)) (o_v_p0_isThere : (Nat → Int32)) (o_v_p0_isThereThen : (Nat → Int32)) (hf : f_X12_could i_p0_seats i_p0_stirs v_p0_st v_p0_goesOn v_p0_isThere v_p0_isThereThen x1 = some (r, o_v_p0_goesOn, o_v_p0_isThere, o_v_p0_isThereThen)) : Met l yX12_could wsX12_could rm_X12_could (pcG D G [.ref a_p0, .int x1] sz [(a_p0, .inr (12, [.ref a_p0_st, .ref a_p0_isKept, .int i_p0_seats, .int i_p0_stirs, .ref a_p0_brings, .ref a_p0_need, .ref a_p0_draft, .int i_p0_dSeats, .int i_p0_dStirs, .ref a_p0_dStir, .ref a_p0_dNeed, .int i_p0_told, .int i_p0_highest, .ref a_p0_tape, .int i_p0_taped, .int i_p0_pos, .int i_p0_from, .int i_p0_sort, .int i_p0_value, .int i_p0_fault, .int i_p0_wrongAt, .ref a_p0_places, .ref a_p0_stirred, .ref a_p0_ways, .ref a_p0_waysThen, .ref a_p0_stays, .ref a_p0_fewest, .ref a_p0_bowls, .ref a_p0_has, .ref a_p0_goesOn, .ref a_p0_isThere, .ref a_p0_isThereThen, .ref a_p0_bestRow, .ref a_p0_lanes, .ref a_p0_sizes, .ref a_p0_cells, .int i_p0_torn])), (a_p0_st, .inl (G 1, 152, .inl v_p0_st)), (a_p0_goesOn, .inl (G 1, 343, .inl v_p0_goesOn)), (a_p0_isThere, .inl (G 3, 49, .inl v_p0_isThere)), (a_p0_isThereThen, .inl (G 3, 49, .inl v_p0_isThereThen))]) (qcI D G r [(a_p0, .inr (12, [.ref a_p0_st, .ref a_p0_isKept, .int i_p0_seats, .int i_p0_stirs, .ref a_p0_brings, .ref a_p0_need, .ref a_p0_draft, .int i_p0_dSeats, .int i_p0_dStirs, .ref a_p0_dStir, .ref a_p0_dNeed, .int i_p0_told, .int i_p0_highest, .ref a_p0_tape, .int i_p0_taped, .int i_p0_pos, .int i_p0_from, .int i_p0_sort, .int i_p0_value, .int i_p0_fault, .int i_p0_wrongAt, .ref a_p0_places, .ref a_p0_stirred, .ref a_p0_ways, .ref a_p0_waysThen, .ref a_p0_stays, .ref a_p0_fewest, .ref a_p0_bowls, .ref a_p0_has, .ref a_p0_goesOn, .ref a_p0_isThere, .ref a_p0_isThereThen, .ref a_p0_bestRow, .ref a_p0_lanes, .ref a_p0_sizes, .ref a_p0_cells, .int i_p0_torn])), (a_p0_st, .inl (G 1, 152, .inl v_p0_st)), (a_p0_goesOn, .inl (G 1, 343, .inl o_v_p0_goesOn)), (a_p0_isThere, .inl (G 3, 49, .inl o_v_p0_isThere)), (a_p0_isThereThen, .inl (G 3, 49, .inl o_v_p0_isThereThen))] (va_A [(a_p0, .inr (12, [.ref a_p0_st, .ref a_p0_isKept, .int i_p0_seats, .int i_p0_stirs, .ref a_p0_brings, .ref a_p0_need, .ref a_p0_draft, .int i_p0_dSeats, .int i_p0_dStirs, .ref a_p0_dStir, .ref a_p0_dNeed, .int i_p0_told, .int i_p0_highest, .ref a_p0_tape, .int i_p0_taped, .int i_p0_pos, .int i_p0_from, .int i_p0_sort, .int i_p0_value, .int i_p0_fault, .int i_p0_wrongAt, .ref a_p0_places, .ref a_p0_stirred, .ref a_p0_ways, .ref a_p0_waysThen, .ref a_p0_stays, .ref a_p0_fewest, .ref a_p0_bowls, .ref a_p0_has, .ref a_p0_goesOn, .ref a_p0_isThere, .ref a_p0_isThereThen, .ref a_p0_bestRow, .ref a_p0_lanes, .ref a_p0_sizes, .ref a_p0_cells, .int i_p0_torn])), (a_p0_st, .inl (G 1, 152, .inl v_p0_st)), (a_p0_goesOn, .inl (G 1, 343, .inl v_p0_goesOn)), (a_p0_isThere, .inl (G 3, 49, .inl v_p0_isThere)), (a_p0_isThereThen, .inl (G 3, 49, .inl v_p0_isThereThen))] sz)) 0 0 (va_A [(a_p0, .inr (12, [.ref a_p0_st, .ref a_p0_isKept, .int i_p0_seats, .int i_p0_stirs, .ref a_p0_brings, .ref a_p0_need, .ref a_p0_draft, .int i_p0_dSeats, .int i_p0_dStirs, .ref a_p0_dStir, .ref a_p0_dNeed, .int i_p0_told, .int i_p0_highest, .ref a_p0_tape, .int i_p0_taped, .int i_p0_pos, .int i_p0_from, .int i_p0_sort, .int i_p0_value, .int i_p0_fault, .int i_p0_wrongAt, .ref a_p0_places, .ref a_p0_stirred, .ref a_p0_ways, .ref a_p0_waysThen, .ref a_p0_stays, .ref a_p0_fewest, .ref a_p0_bowls, .ref a_p0_has, .ref a_p0_goesOn, .ref a_p0_isThere, .ref a_p0_isThereThen, .ref a_p0_bestRow, .ref a_p0_lanes, .ref a_p0_sizes, .ref a_p0_cells, .int i_p0_torn])), (a_p0_st, .inl (G 1, 152, .inl v_p0_st)), (a_p0_goesOn, .inl (G 1, 343, .inl v_p0_goesOn)), (a_p0_isThere, .inl (G 3, 49, .inl v_p0_isThere)), (a_p0_isThereThen, .inl (G 3, 49, .inl v_p0_isThereThen))] sz) := by
  refine Met.ofW (cc := cX12_could) (maxL := 6) (ret := (some .int)) (by decide) rfl ?_
  intro p e s m args below meth c s₁ B hml hv
  obtain ⟨rfl, hsz, hP, hK, hD0⟩ := hv
  have hx := B.exec
  have hb := B.bytes
  have hr := B.returns
  have hts := atoms_spec (ws := wsX12_could) B.pre
  have hown : s.vm.findClass RX12 = some m.cls := findClass_of_methodNamed B.named
  have hlocks := B.notSynchronized
  subst hsz
  have hD := hD0.self (sz := s.heap.size)
  generalize hAe : va_A [(a_p0, .inr (12, [.ref a_p0_st, .ref a_p0_isKept, .int i_p0_seats, .int i_p0_stirs, .ref a_p0_brings, .ref a_p0_need, .ref a_p0_draft, .int i_p0_dSeats, .int i_p0_dStirs, .ref a_p0_dStir, .ref a_p0_dNeed, .int i_p0_told, .int i_p0_highest, .ref a_p0_tape, .int i_p0_taped, .int i_p0_pos, .int i_p0_from, .int i_p0_sort, .int i_p0_value, .int i_p0_fault, .int i_p0_wrongAt, .ref a_p0_places, .ref a_p0_stirred, .ref a_p0_ways, .ref a_p0_waysThen, .ref a_p0_stays, .ref a_p0_fewest, .ref a_p0_bowls, .ref a_p0_has, .ref a_p0_goesOn, .ref a_p0_isThere, .ref a_p0_isThereThen, .ref a_p0_bestRow, .ref a_p0_lanes, .ref a_p0_sizes, .ref a_p0_cells, .int i_p0_torn])), (a_p0_st, .inl (G 1, 152, .inl v_p0_st)), (a_p0_goesOn, .inl (G 1, 343, .inl v_p0_goesOn)), (a_p0_isThere, .inl (G 3, 49, .inl v_p0_isThere)), (a_p0_isThereThen, .inl (G 3, 49, .inl v_p0_isThereThen))] s.heap.size = A at hD ⊢
  have hA : ∀ q : Nat, s.heap.size ≤ q → A q := fun q h => by rw [← hAe]; exact Or.inr h
  clear hAe hD0
  have hS : va_S A s.heap s.heap [] := va_S.rf
  have hl := lv_entry ([.ref a_p0, .int x1]) (n := 6) (Nat.le_of_ble_eq_true rfl)
  rw [lg_entry_eq]
  generalize (lg_sl ([.ref a_p0, .int x1]) ++ List.replicate (6 - (lg_sl ([.ref a_p0, .int x1])).length) Slot.unset).toArray = ls at hl ⊢
  have hl : lv_has ls 6 [(0, .ref a_p0), (1, .int x1)] := hl
  refine W_nameQ (fun Q hQ => ?_)
  obtain ⟨H, hH⟩ : ∃ H, H = s.heap := ⟨_, rfl⟩
  replace hS : va_S A s.heap H [] := by rw [hH]; exact hS
  replace hP : va_P D vwCl [(a_p0, .inr (12, [.ref a_p0_st, .ref a_p0_isKept, .int i_p0_seats, .int i_p0_stirs, .ref a_p0_brings, .ref a_p0_need, .ref a_p0_draft, .int i_p0_dSeats, .int i_p0_dStirs, .ref a_p0_dStir, .ref a_p0_dNeed, .int i_p0_told, .int i_p0_highest, .ref a_p0_tape, .int i_p0_taped, .int i_p0_pos, .int i_p0_from, .int i_p0_sort, .int i_p0_value, .int i_p0_fault, .int i_p0_wrongAt, .ref a_p0_places, .ref a_p0_stirred, .ref a_p0_ways, .ref a_p0_waysThen, .ref a_p0_stays, .ref a_p0_fewest, .ref a_p0_bowls, .ref a_p0_has, .ref a_p0_goesOn, .ref a_p0_isThere, .ref a_p0_isThereThen, .ref a_p0_bestRow, .ref a_p0_lanes, .ref a_p0_sizes, .ref a_p0_cells, .int i_p0_torn])), (a_p0_st, .inl (G 1, 152, .inl v_p0_st)), (a_p0_goesOn, .inl (G 1, 343, .inl v_p0_goesOn)), (a_p0_isThere, .inl (G 3, 49, .inl v_p0_isThere)), (a_p0_isThereThen, .inl (G 3, 49, .inl v_p0_isThereThen))] H := by rw [hH]; exact hP
  rw [← hH]
  clear hH
  unfold f_X12_could at hf
  refine lv_iload_n hx hb dX12_could_0 rfl (lv_at hl 1 rfl) ?_
  refine lv_i2l hx hb dX12_could_1 rfl ?_
  refine lv_lconst (v := (0 : Int64)) hx hb dX12_could_2 (by decide) ?_
  refine lv_aload_n hx hb dX12_could_3 rfl (lv_at hl 0 rfl) ?_
  refine va_get (D := D) (ci := 12) (v := .ref a_p0_st) (C := RX12) (T := TX12) (N := 37) hx hb hts inX12_could_X12 hown hK hP 0 rfl rfl 0 (by decide) (hts _ mwX12_could_1) (fun _ h9 => h9) rfl dX12_could_4 ?_
  refine lv_bipush (v := (31 : Int32)) hx hb dX12_could_7 (by decide) ?_
  have hc := ck_c hf
  replace hf := ck_r hf
  refine va_iald hx hb hK hP 1 1 rfl rfl (ixB_in hc) dX12_could_9 ?_
  clear hc
  refine lv_iconst (v := (1 : Int32)) hx hb dX12_could_10 (by decide) ?_
  refine lv_isub hx hb dX12_could_11 ?_
  refine lv_i2l hx hb dX12_could_12 rfl ?_
  have hq := bd1_s hf
  clear hf
  obtain ⟨z1, hcall, hf⟩ := hq
  refine gcI (ws' := [(a_p0, .inr (12, [.ref a_p0_st, .ref a_p0_isKept, .int i_p0_seats, .int i_p0_stirs, .ref a_p0_brings, .ref a_p0_need, .ref a_p0_draft, .int i_p0_dSeats, .int i_p0_dStirs, .ref a_p0_dStir, .ref a_p0_dNeed, .int i_p0_told, .int i_p0_highest, .ref a_p0_tape, .int i_p0_taped, .int i_p0_pos, .int i_p0_from, .int i_p0_sort, .int i_p0_value, .int i_p0_fault, .int i_p0_wrongAt, .ref a_p0_places, .ref a_p0_stirred, .ref a_p0_ways, .ref a_p0_waysThen, .ref a_p0_stays, .ref a_p0_fewest, .ref a_p0_bowls, .ref a_p0_has, .ref a_p0_goesOn, .ref a_p0_isThere, .ref a_p0_isThereThen, .ref a_p0_bestRow, .ref a_p0_lanes, .ref a_p0_sizes, .ref a_p0_cells, .int i_p0_torn])), (a_p0_st, .inl (G 1, 152, .inl v_p0_st)), (a_p0_goesOn, .inl (G 1, 343, .inl v_p0_goesOn)), (a_p0_isThere, .inl (G 3, 49, .inl v_p0_isThere)), (a_p0_isThereThen, .inl (G 3, 49, .inl v_p0_isThereThen))]) (va_runS (As := [.long (x1).toInt64, .long (0 : Int64), .long (((v_p0_st ((31 : Int32)).toNatClampNeg) - (1 : Int32))).toInt64]) (rest := []) ⟨hx, hb, hml, hown, hts⟩ (c_X12_in (l := l) (D := D) (G := G) (sz := H.size) (x0 := (x1).toInt64) (x2 := (0 : Int64)) (x4 := (((v_p0_st ((31 : Int32)).toNatClampNeg) - (1 : Int32))).toInt64) (r := z1) (hf := hcall)) (va_cwS 3 hts gX12_could_X12_in rfl rfl rfl (by decide +kernel) ⟨Nat.le_of_ble_eq_true rfl, Nat.le_of_ble_eq_true rfl⟩) (preG_S (hP.sub [] rfl) (hD.sub [] rfl rfl) hK) rfl rfl hl.1 rfl (lv_room (Nat.le_of_ble_eq_true rfl)) dX12_could_13 ⟨Nat.le_of_ble_eq_true rfl, Nat.le_of_ble_eq_true rfl⟩) hP hD hS hA [] [0, 1, 2, 3, 4] [0, 1, 2, 3, 4] rfl rfl rfl (by decide) rfl rfl rfl (fun H locs hP hD hS => ?_)
  clear hcall
  refine lv_if_ne (tgt := 21) hx hb dX12_could_16 (by decide) (fun cc => ?_) (fun cc => ?_)
  ·
    replace hf := ite_f cc hf
    clear cc
    refine lv_aload_n hx hb dX12_could_21 rfl (lv_at hl 0 rfl) ?_
    have hq := bd1_s hf
    clear hf
    obtain ⟨w2, hcall, hf⟩ := hq
    refine gcV (ws' := [(a_p0, .inr (12, [.ref a_p0_st, .ref a_p0_isKept, .int i_p0_seats, .int i_p0_stirs, .ref a_p0_brings, .ref a_p0_need, .ref a_p0_draft, .int i_p0_dSeats, .int i_p0_dStirs, .ref a_p0_dStir, .ref a_p0_dNeed, .int i_p0_told, .int i_p0_highest, .ref a_p0_tape, .int i_p0_taped, .int i_p0_pos, .int i_p0_from, .int i_p0_sort, .int i_p0_value, .int i_p0_fault, .int i_p0_wrongAt, .ref a_p0_places, .ref a_p0_stirred, .ref a_p0_ways, .ref a_p0_waysThen, .ref a_p0_stays, .ref a_p0_fewest, .ref a_p0_bowls, .ref a_p0_has, .ref a_p0_goesOn, .ref a_p0_isThere, .ref a_p0_isThereThen, .ref a_p0_bestRow, .ref a_p0_lanes, .ref a_p0_sizes, .ref a_p0_cells, .int i_p0_torn])), (a_p0_st, .inl (G 1, 152, .inl v_p0_st)), (a_p0_goesOn, .inl (G 1, 343, .inl w2)), (a_p0_isThere, .inl (G 3, 49, .inl v_p0_isThere)), (a_p0_isThereThen, .inl (G 3, 49, .inl v_p0_isThereThen))]) (va_runV (As := []) (rest := []) ⟨hx, hb, hml, hown, hts⟩ (c_X12_findHistories (l := l) (D := D) (G := G) (sz := H.size) (a_p0 := a_p0) (a_p0_st := a_p0_st) (a_p0_isKept := a_p0_isKept) (a_p0_brings := a_p0_brings) (a_p0_need := a_p0_need) (a_p0_draft := a_p0_draft) (a_p0_dStir := a_p0_dStir) (a_p0_dNeed := a_p0_dNeed) (a_p0_tape := a_p0_tape) (a_p0_places := a_p0_places) (a_p0_stirred := a_p0_stirred) (a_p0_ways := a_p0_ways) (a_p0_waysThen := a_p0_waysThen) (a_p0_stays := a_p0_stays) (a_p0_fewest := a_p0_fewest) (a_p0_bowls := a_p0_bowls) (a_p0_has := a_p0_has) (a_p0_goesOn := a_p0_goesOn) (a_p0_isThere := a_p0_isThere) (a_p0_isThereThen := a_p0_isThereThen) (a_p0_bestRow := a_p0_bestRow) (a_p0_lanes := a_p0_lanes) (a_p0_sizes := a_p0_sizes) (a_p0_cells := a_p0_cells) (i_p0_seats := i_p0_seats) (i_p0_stirs := i_p0_stirs) (i_p0_dSeats := i_p0_dSeats) (i_p0_dStirs := i_p0_dStirs) (i_p0_told := i_p0_told) (i_p0_highest := i_p0_highest) (i_p0_taped := i_p0_taped) (i_p0_pos := i_p0_pos) (i_p0_from := i_p0_from) (i_p0_sort := i_p0_sort) (i_p0_value := i_p0_value) (i_p0_fault := i_p0_fault) (i_p0_wrongAt := i_p0_wrongAt) (i_p0_torn := i_p0_torn) (v_p0_st := v_p0_st) (v_p0_goesOn := v_p0_goesOn) (o_v_p0_goesOn := w2) (hf := hcall)) (cwV 0 hts gX12_could_X12_findHistories rfl rfl rfl (by decide +kernel) ⟨Nat.le_of_ble_eq_true rfl, Nat.le_of_ble_eq_true rfl⟩) (preG_V (ci := 12) (hP.sub [0, 1, 2] rfl) (hD.sub [0, 1, 2] rfl rfl) hK rfl rfl) rfl rfl hl.1 rfl (lv_room (Nat.le_of_ble_eq_true rfl)) dX12_could_22 ⟨Nat.le_of_ble_eq_true rfl, Nat.le_of_ble_eq_true rfl⟩) hP hD hS hA [0, 1, 2] [3, 4] [2, 3, 4, 0, 1] rfl rfl rfl (by decide) rfl rfl rfl (fun H locs hP hD hS => ?_)
    clear hcall
    refine lv_iconst (v := (0 : Int32)) hx hb dX12_could_25 (by decide) ?_
    refine lv_topi (fun z3 ez => ?_)
    replace hf := bnd_s hf ez
    clear ez
    refine lv_istore_n (lv' := [(2, .int z3), (0, .ref a_p0), (1, .int x1)]) hx hb dX12_could_26 rfl hl (by decide) rfl (fun ls hl => ?_)
    refine lv_iconst (v := (0 : Int32)) hx hb dX12_could_27 (by decide) ?_
    refine lv_topi (fun z4 ez => ?_)
    replace hf := bnd_s hf ez
    clear ez
    refine lv_istore_n (lv' := [(3, .int z4), (2, .int z3), (0, .ref a_p0), (1, .int x1)]) hx hb dX12_could_28 rfl hl (by decide) rfl (fun ls hl => ?_)
    have hq := jn_i hf
    clear hf
    obtain ⟨J6, eJ6, hf⟩ := hq
    have hJ6 : ∀ (w5 : (Nat → Int32)) (ls : Array Slot) (H : Heap) (locs : List Loc), lv_has ls 6 [(2, .int z3), (0, .ref a_p0), (1, .int x1)] → va_P D vwCl [(a_p0, .inr (12, [.ref a_p0_st, .ref a_p0_isKept, .int i_p0_seats, .int i_p0_stirs, .ref a_p0_brings, .ref a_p0_need, .ref a_p0_draft, .int i_p0_dSeats, .int i_p0_dStirs, .ref a_p0_dStir, .ref a_p0_dNeed, .int i_p0_told, .int i_p0_highest, .ref a_p0_tape, .int i_p0_taped, .int i_p0_pos, .int i_p0_from, .int i_p0_sort, .int i_p0_value, .int i_p0_fault, .int i_p0_wrongAt, .ref a_p0_places, .ref a_p0_stirred, .ref a_p0_ways, .ref a_p0_waysThen, .ref a_p0_stays, .ref a_p0_fewest, .ref a_p0_bowls, .ref a_p0_has, .ref a_p0_goesOn, .ref a_p0_isThere, .ref a_p0_isThereThen, .ref a_p0_bestRow, .ref a_p0_lanes, .ref a_p0_sizes, .ref a_p0_cells, .int i_p0_torn])), (a_p0_st, .inl (G 1, 152, .inl v_p0_st)), (a_p0_goesOn, .inl (G 1, 343, .inl w2)), (a_p0_isThere, .inl (G 3, 49, .inl w5)), (a_p0_isThereThen, .inl (G 3, 49, .inl v_p0_isThereThen))] H → va_D A [(a_p0, .inr (12, [.ref a_p0_st, .ref a_p0_isKept, .int i_p0_seats, .int i_p0_stirs, .ref a_p0_brings, .ref a_p0_need, .ref a_p0_draft, .int i_p0_dSeats, .int i_p0_dStirs, .ref a_p0_dStir, .ref a_p0_dNeed, .int i_p0_told, .int i_p0_highest, .ref a_p0_tape, .int i_p0_taped, .int i_p0_pos, .int i_p0_from, .int i_p0_sort, .int i_p0_value, .int i_p0_fault, .int i_p0_wrongAt, .ref a_p0_places, .ref a_p0_stirred, .ref a_p0_ways, .ref a_p0_waysThen, .ref a_p0_stays, .ref a_p0_fewest, .ref a_p0_bowls, .ref a_p0_has, .ref a_p0_goesOn, .ref a_p0_isThere, .ref a_p0_isThereThen, .ref a_p0_bestRow, .ref a_p0_lanes, .ref a_p0_sizes, .ref a_p0_cells, .int i_p0_torn])), (a_p0_st, .inl (G 1, 152, .inl v_p0_st)), (a_p0_goesOn, .inl (G 1, 343, .inl w2)), (a_p0_isThere, .inl (G 3, 49, .inl w5)), (a_p0_isThereThen, .inl (G 3, 49, .inl v_p0_isThereThen))] → va_S A s.heap H locs → J6 w5 = some (r, o_v_p0_goesOn, o_v_p0_isThere, o_v_p0_isThereThen) → W p l e rm_X12_could s m ([.ref a_p0, .int x1] : List Value).toArray below meth c H locs 0 0 Q (F0 m 60 ls []) := by
      clear hf hl hP hD hS
      intro w5 ls H locs hl hP hD hS hf
      replace hf := jn1_s eJ6 hf
      refine lv_iconst (v := (0 : Int32)) hx hb dX12_could_60 (by decide) ?_
      refine lv_topi (fun z7 ez => ?_)
      replace hf := bnd_s hf ez
      clear ez
      refine lv_istore_n (lv' := [(3, .int z7), (2, .int z3), (0, .ref a_p0), (1, .int x1)]) hx hb dX12_could_61 rfl hl (by decide) rfl (fun ls hl => ?_)
      have hq := lq4_i hf
      clear hf
      obtain ⟨B12, eB12, NB12, hf⟩ := hq
      have hB12 : ∀ (n : Nat) (z8 : Int32) (z9 : Int32) (w10 : (Nat → Int32)) (w11 : (Nat → Int32)) (ls : Array Slot) (H : Heap) (locs : List Loc), lv_has ls 6 [(3, .int z8), (2, .int z9), (0, .ref a_p0), (1, .int x1)] → va_P D vwCl [(a_p0, .inr (12, [.ref a_p0_st, .ref a_p0_isKept, .int i_p0_seats, .int i_p0_stirs, .ref a_p0_brings, .ref a_p0_need, .ref a_p0_draft, .int i_p0_dSeats, .int i_p0_dStirs, .ref a_p0_dStir, .ref a_p0_dNeed, .int i_p0_told, .int i_p0_highest, .ref a_p0_tape, .int i_p0_taped, .int i_p0_pos, .int i_p0_from, .int i_p0_sort, .int i_p0_value, .int i_p0_fault, .int i_p0_wrongAt, .ref a_p0_places, .ref a_p0_stirred, .ref a_p0_ways, .ref a_p0_waysThen, .ref a_p0_stays, .ref a_p0_fewest, .ref a_p0_bowls, .ref a_p0_has, .ref a_p0_goesOn, .ref a_p0_isThere, .ref a_p0_isThereThen, .ref a_p0_bestRow, .ref a_p0_lanes, .ref a_p0_sizes, .ref a_p0_cells, .int i_p0_torn])), (a_p0_st, .inl (G 1, 152, .inl v_p0_st)), (a_p0_goesOn, .inl (G 1, 343, .inl w2)), (a_p0_isThere, .inl (G 3, 49, .inl w10)), (a_p0_isThereThen, .inl (G 3, 49, .inl w11))] H → va_D A [(a_p0, .inr (12, [.ref a_p0_st, .ref a_p0_isKept, .int i_p0_seats, .int i_p0_stirs, .ref a_p0_brings, .ref a_p0_need, .ref a_p0_draft, .int i_p0_dSeats, .int i_p0_dStirs, .ref a_p0_dStir, .ref a_p0_dNeed, .int i_p0_told, .int i_p0_highest, .ref a_p0_tape, .int i_p0_taped, .int i_p0_pos, .int i_p0_from, .int i_p0_sort, .int i_p0_value, .int i_p0_fault, .int i_p0_wrongAt, .ref a_p0_places, .ref a_p0_stirred, .ref a_p0_ways, .ref a_p0_waysThen, .ref a_p0_stays, .ref a_p0_fewest, .ref a_p0_bowls, .ref a_p0_has, .ref a_p0_goesOn, .ref a_p0_isThere, .ref a_p0_isThereThen, .ref a_p0_bestRow, .ref a_p0_lanes, .ref a_p0_sizes, .ref a_p0_cells, .int i_p0_torn])), (a_p0_st, .inl (G 1, 152, .inl v_p0_st)), (a_p0_goesOn, .inl (G 1, 343, .inl w2)), (a_p0_isThere, .inl (G 3, 49, .inl w10)), (a_p0_isThereThen, .inl (G 3, 49, .inl w11))] → va_S A s.heap H locs → lq4 B12 n z8 z9 w10 w11 = some (r, o_v_p0_goesOn, o_v_p0_isThere, o_v_p0_isThereThen) → W p l e rm_X12_could s m ([.ref a_p0, .int x1] : List Value).toArray below meth c H locs 0 0 Q (F0 m 62 ls []) := by
        clear hf hl hP hD hS
        intro n
        induction n with
        | zero =>
          intro z8 z9 w10 w11 ls H locs hl hP hD hS hf
          exact (lq4_0 hf).elim
        | succ n ih62 =>
          intro z8 z9 w10 w11 ls H locs hl hP hD hS hf
          replace hf := lq4_s eB12 hf
          unfold B_X12_could_62 at hf
          refine lv_iload_n hx hb dX12_could_62 rfl (lv_at hl 0 rfl) ?_
          refine lv_iload_n hx hb dX12_could_63 rfl (lv_at hl 3 rfl) ?_
          refine lv_icmp_gt (tgt := 206) hx hb dX12_could_64 (by decide) (fun cc => ?_) (fun cc => ?_)
          ·
            replace hf := ite_t cc hf
            clear cc
            refine lv_iload_n hx hb dX12_could_206 rfl (lv_at hl 1 rfl) ?_
            obtain ⟨rfl, rfl, rfl, rfl⟩ := ou4 hf
            rw [hQ]
            exact W.iret hx hb hr (fun t ht hW => ⟨⟨_, (), rfl, rfl, by rw [ht]; exact hP, va_K.moved hW.alike hK, hD⟩, hS.F ht⟩) hS.2.2 dX12_could_207
          ·
            replace hf := ite_f cc hf
            clear cc
            refine lv_iconst (v := (0 : Int32)) hx hb dX12_could_67 (by decide) ?_
            refine lv_topi (fun z13 ez => ?_)
            replace hf := bnd_s hf ez
            clear ez
            refine lv_istore_n (lv' := [(2, .int z13), (3, .int z8), (0, .ref a_p0), (1, .int x1)]) hx hb dX12_could_68 rfl hl (by decide) rfl (fun ls hl => ?_)
            refine lv_iconst (v := (0 : Int32)) hx hb dX12_could_69 (by decide) ?_
            refine lv_topi (fun z14 ez => ?_)
            replace hf := bnd_s hf ez
            clear ez
            refine lv_istore (lv' := [(4, .int z14), (2, .int z13), (3, .int z8), (0, .ref a_p0), (1, .int x1)]) hx hb dX12_could_70 hl (by decide) rfl (fun ls hl => ?_)
            have hq := jn_i hf
            clear hf
            obtain ⟨J16, eJ16, hf⟩ := hq
            have hJ16 : ∀ (w15 : (Nat → Int32)) (ls : Array Slot) (H : Heap) (locs : List Loc), lv_has ls 6 [(2, .int z13), (3, .int z8), (0, .ref a_p0), (1, .int x1)] → va_P D vwCl [(a_p0, .inr (12, [.ref a_p0_st, .ref a_p0_isKept, .int i_p0_seats, .int i_p0_stirs, .ref a_p0_brings, .ref a_p0_need, .ref a_p0_draft, .int i_p0_dSeats, .int i_p0_dStirs, .ref a_p0_dStir, .ref a_p0_dNeed, .int i_p0_told, .int i_p0_highest, .ref a_p0_tape, .int i_p0_taped, .int i_p0_pos, .int i_p0_from, .int i_p0_sort, .int i_p0_value, .int i_p0_fault, .int i_p0_wrongAt, .ref a_p0_places, .ref a_p0_stirred, .ref a_p0_ways, .ref a_p0_waysThen, .ref a_p0_stays, .ref a_p0_fewest, .ref a_p0_bowls, .ref a_p0_has, .ref a_p0_goesOn, .ref a_p0_isThere, .ref a_p0_isThereThen, .ref a_p0_bestRow, .ref a_p0_lanes, .ref a_p0_sizes, .ref a_p0_cells, .int i_p0_torn])), (a_p0_st, .inl (G 1, 152, .inl v_p0_st)), (a_p0_goesOn, .inl (G 1, 343, .inl w2)), (a_p0_isThere, .inl (G 3, 49, .inl w10)), (a_p0_isThereThen, .inl (G 3, 49, .inl w15))] H → va_D A [(a_p0, .inr (12, [.ref a_p0_st, .ref a_p0_isKept, .int i_p0_seats, .int i_p0_stirs, .ref a_p0_brings, .ref a_p0_need, .ref a_p0_draft, .int i_p0_dSeats, .int i_p0_dStirs, .ref a_p0_dStir, .ref a_p0_dNeed, .int i_p0_told, .int i_p0_highest, .ref a_p0_tape, .int i_p0_taped, .int i_p0_pos, .int i_p0_from, .int i_p0_sort, .int i_p0_value, .int i_p0_fault, .int i_p0_wrongAt, .ref a_p0_places, .ref a_p0_stirred, .ref a_p0_ways, .ref a_p0_waysThen, .ref a_p0_stays, .ref a_p0_fewest, .ref a_p0_bowls, .ref a_p0_has, .ref a_p0_goesOn, .ref a_p0_isThere, .ref a_p0_isThereThen, .ref a_p0_bestRow, .ref a_p0_lanes, .ref a_p0_sizes, .ref a_p0_cells, .int i_p0_torn])), (a_p0_st, .inl (G 1, 152, .inl v_p0_st)), (a_p0_goesOn, .inl (G 1, 343, .inl w2)), (a_p0_isThere, .inl (G 3, 49, .inl w10)), (a_p0_isThereThen, .inl (G 3, 49, .inl w15))] → va_S A s.heap H locs → J16 w15 = some (r, o_v_p0_goesOn, o_v_p0_isThere, o_v_p0_isThereThen) → W p l e rm_X12_could s m ([.ref a_p0, .int x1] : List Value).toArray below meth c H locs 0 0 Q (F0 m 93 ls []) := by
              clear hf hl hP hD hS
              intro w15 ls H locs hl hP hD hS hf
              replace hf := jn1_s eJ16 hf
              refine lv_iconst (v := (0 : Int32)) hx hb dX12_could_93 (by decide) ?_
              refine lv_topi (fun z17 ez => ?_)
              replace hf := bnd_s hf ez
              clear ez
              refine lv_istore (lv' := [(4, .int z17), (2, .int z13), (3, .int z8), (0, .ref a_p0), (1, .int x1)]) hx hb dX12_could_94 hl (by decide) rfl (fun ls hl => ?_)
              have hq := jn_i hf
              clear hf
              obtain ⟨J19, eJ19, hf⟩ := hq
              have hJ19 : ∀ (z18 : Int32) (ls : Array Slot) (H : Heap) (locs : List Loc), lv_has ls 6 [(2, .int z18), (3, .int z8), (0, .ref a_p0), (1, .int x1)] → va_P D vwCl [(a_p0, .inr (12, [.ref a_p0_st, .ref a_p0_isKept, .int i_p0_seats, .int i_p0_stirs, .ref a_p0_brings, .ref a_p0_need, .ref a_p0_draft, .int i_p0_dSeats, .int i_p0_dStirs, .ref a_p0_dStir, .ref a_p0_dNeed, .int i_p0_told, .int i_p0_highest, .ref a_p0_tape, .int i_p0_taped, .int i_p0_pos, .int i_p0_from, .int i_p0_sort, .int i_p0_value, .int i_p0_fault, .int i_p0_wrongAt, .ref a_p0_places, .ref a_p0_stirred, .ref a_p0_ways, .ref a_p0_waysThen, .ref a_p0_stays, .ref a_p0_fewest, .ref a_p0_bowls, .ref a_p0_has, .ref a_p0_goesOn, .ref a_p0_isThere, .ref a_p0_isThereThen, .ref a_p0_bestRow, .ref a_p0_lanes, .ref a_p0_sizes, .ref a_p0_cells, .int i_p0_torn])), (a_p0_st, .inl (G 1, 152, .inl v_p0_st)), (a_p0_goesOn, .inl (G 1, 343, .inl w2)), (a_p0_isThere, .inl (G 3, 49, .inl w10)), (a_p0_isThereThen, .inl (G 3, 49, .inl w15))] H → va_D A [(a_p0, .inr (12, [.ref a_p0_st, .ref a_p0_isKept, .int i_p0_seats, .int i_p0_stirs, .ref a_p0_brings, .ref a_p0_need, .ref a_p0_draft, .int i_p0_dSeats, .int i_p0_dStirs, .ref a_p0_dStir, .ref a_p0_dNeed, .int i_p0_told, .int i_p0_highest, .ref a_p0_tape, .int i_p0_taped, .int i_p0_pos, .int i_p0_from, .int i_p0_sort, .int i_p0_value, .int i_p0_fault, .int i_p0_wrongAt, .ref a_p0_places, .ref a_p0_stirred, .ref a_p0_ways, .ref a_p0_waysThen, .ref a_p0_stays, .ref a_p0_fewest, .ref a_p0_bowls, .ref a_p0_has, .ref a_p0_goesOn, .ref a_p0_isThere, .ref a_p0_isThereThen, .ref a_p0_bestRow, .ref a_p0_lanes, .ref a_p0_sizes, .ref a_p0_cells, .int i_p0_torn])), (a_p0_st, .inl (G 1, 152, .inl v_p0_st)), (a_p0_goesOn, .inl (G 1, 343, .inl w2)), (a_p0_isThere, .inl (G 3, 49, .inl w10)), (a_p0_isThereThen, .inl (G 3, 49, .inl w15))] → va_S A s.heap H locs → J19 z18 = some (r, o_v_p0_goesOn, o_v_p0_isThere, o_v_p0_isThereThen) → W p l e rm_X12_could s m ([.ref a_p0, .int x1] : List Value).toArray below meth c H locs 0 0 Q (F0 m 170 ls []) := by
                clear hf hl hP hD hS
                intro z18 ls H locs hl hP hD hS hf
                replace hf := jn1_s eJ19 hf
                refine lv_iconst (v := (0 : Int32)) hx hb dX12_could_170 (by decide) ?_
                refine lv_topi (fun z20 ez => ?_)
                replace hf := bnd_s hf ez
                clear ez
                refine lv_istore (lv' := [(4, .int z20), (2, .int z18), (3, .int z8), (0, .ref a_p0), (1, .int x1)]) hx hb dX12_could_171 hl (by decide) rfl (fun ls hl => ?_)
                have hq := lq2_i hf
                clear hf
                obtain ⟨B23, eB23, NB23, hf⟩ := hq
                have hB23 : ∀ (n : Nat) (z21 : Int32) (w22 : (Nat → Int32)) (ls : Array Slot) (H : Heap) (locs : List Loc), lv_has ls 6 [(4, .int z21), (2, .int z18), (3, .int z8), (0, .ref a_p0), (1, .int x1)] → va_P D vwCl [(a_p0, .inr (12, [.ref a_p0_st, .ref a_p0_isKept, .int i_p0_seats, .int i_p0_stirs, .ref a_p0_brings, .ref a_p0_need, .ref a_p0_draft, .int i_p0_dSeats, .int i_p0_dStirs, .ref a_p0_dStir, .ref a_p0_dNeed, .int i_p0_told, .int i_p0_highest, .ref a_p0_tape, .int i_p0_taped, .int i_p0_pos, .int i_p0_from, .int i_p0_sort, .int i_p0_value, .int i_p0_fault, .int i_p0_wrongAt, .ref a_p0_places, .ref a_p0_stirred, .ref a_p0_ways, .ref a_p0_waysThen, .ref a_p0_stays, .ref a_p0_fewest, .ref a_p0_bowls, .ref a_p0_has, .ref a_p0_goesOn, .ref a_p0_isThere, .ref a_p0_isThereThen, .ref a_p0_bestRow, .ref a_p0_lanes, .ref a_p0_sizes, .ref a_p0_cells, .int i_p0_torn])), (a_p0_st, .inl (G 1, 152, .inl v_p0_st)), (a_p0_goesOn, .inl (G 1, 343, .inl w2)), (a_p0_isThere, .inl (G 3, 49, .inl w22)), (a_p0_isThereThen, .inl (G 3, 49, .inl w15))] H → va_D A [(a_p0, .inr (12, [.ref a_p0_st, .ref a_p0_isKept, .int i_p0_seats, .int i_p0_stirs, .ref a_p0_brings, .ref a_p0_need, .ref a_p0_draft, .int i_p0_dSeats, .int i_p0_dStirs, .ref a_p0_dStir, .ref a_p0_dNeed, .int i_p0_told, .int i_p0_highest, .ref a_p0_tape, .int i_p0_taped, .int i_p0_pos, .int i_p0_from, .int i_p0_sort, .int i_p0_value, .int i_p0_fault, .int i_p0_wrongAt, .ref a_p0_places, .ref a_p0_stirred, .ref a_p0_ways, .ref a_p0_waysThen, .ref a_p0_stays, .ref a_p0_fewest, .ref a_p0_bowls, .ref a_p0_has, .ref a_p0_goesOn, .ref a_p0_isThere, .ref a_p0_isThereThen, .ref a_p0_bestRow, .ref a_p0_lanes, .ref a_p0_sizes, .ref a_p0_cells, .int i_p0_torn])), (a_p0_st, .inl (G 1, 152, .inl v_p0_st)), (a_p0_goesOn, .inl (G 1, 343, .inl w2)), (a_p0_isThere, .inl (G 3, 49, .inl w22)), (a_p0_isThereThen, .inl (G 3, 49, .inl w15))] → va_S A s.heap H locs → lq2 B23 n z21 w22 = some (r, o_v_p0_goesOn, o_v_p0_isThere, o_v_p0_isThereThen) → W p l e rm_X12_could s m ([.ref a_p0, .int x1] : List Value).toArray below meth c H locs 0 0 Q (F0 m 173 ls []) := by
                  clear hf hl hP hD hS
                  intro n
                  induction n with
                  | zero =>
                    intro z21 w22 ls H locs hl hP hD hS hf
                    exact (lq2_0 hf).elim
                  | succ n ih173 =>
                    intro z21 w22 ls H locs hl hP hD hS hf
                    replace hf := lq2_s eB23 hf
                    unfold B_X12_could_173 at hf
                    refine lv_iload hx hb dX12_could_173 (lv_at hl 0 rfl) ?_
                    refine lv_bipush (v := (49 : Int32)) hx hb dX12_could_175 (by decide) ?_
                    refine lv_icmp_ge (tgt := 200) hx hb dX12_could_177 (by decide) (fun cc => ?_) (fun cc => ?_)
                    ·
                      replace hf := ite_t cc hf
                      clear cc
                      obtain ⟨z24, ez⟩ : ∃ y : Int32, y = (z8 + (1 : Int32)) := ⟨_, rfl⟩
                      replace hf := bnd_s hf ez
                      refine lv_iinc (v := z24) (lv' := [(3, .int z24), (4, .int z21), (2, .int z18), (0, .ref a_p0), (1, .int x1)]) hx hb dX12_could_200 hl (k := 2) rfl (by rw [ez]; rfl) (by decide) rfl (fun ls hl => ?_)
                      clear ez
                      refine lv_goto (tgt := 62) hx hb dX12_could_203 (by decide) ?_
                      exact ih62 _ _ _ _ _ _ _ (lv_sub hl [0, 2, 3, 4] rfl) hP hD hS hf
                    ·
                      replace hf := ite_f cc hf
                      clear cc
                      refine lv_aload_n hx hb dX12_could_180 rfl (lv_at hl 3 rfl) ?_
                      refine va_get (D := D) (ci := 12) (v := .ref a_p0_isThere) (C := RX12) (T := TX12) (N := 37) hx hb hts inX12_could_X12 hown hK hP 0 rfl rfl 30 (by decide) (hts _ mwX12_could_2) (fun _ h9 => h9) rfl dX12_could_181 ?_
                      refine lv_iload hx hb dX12_could_184 (lv_at hl 0 rfl) ?_
                      refine lv_aload_n hx hb dX12_could_186 rfl (lv_at hl 3 rfl) ?_
                      refine va_get (D := D) (ci := 12) (v := .ref a_p0_isThereThen) (C := RX12) (T := TX12) (N := 37) hx hb hts inX12_could_X12 hown hK hP 0 rfl rfl 31 (by decide) (hts _ mwX12_could_3) (fun _ h9 => h9) rfl dX12_could_187 ?_
                      refine lv_iload hx hb dX12_could_190 (lv_at hl 0 rfl) ?_
                      have hc := ck_c hf
                      replace hf := ck_r hf
                      refine va_zald hx hb hK hP 4 3 rfl rfl (ixB_in hc) dX12_could_192 ?_
                      clear hc
                      have hc := ck_c hf
                      replace hf := ck_r hf
                      refine gs_zast (wf := fun w25 => [(a_p0, .inr (12, [.ref a_p0_st, .ref a_p0_isKept, .int i_p0_seats, .int i_p0_stirs, .ref a_p0_brings, .ref a_p0_need, .ref a_p0_draft, .int i_p0_dSeats, .int i_p0_dStirs, .ref a_p0_dStir, .ref a_p0_dNeed, .int i_p0_told, .int i_p0_highest, .ref a_p0_tape, .int i_p0_taped, .int i_p0_pos, .int i_p0_from, .int i_p0_sort, .int i_p0_value, .int i_p0_fault, .int i_p0_wrongAt, .ref a_p0_places, .ref a_p0_stirred, .ref a_p0_ways, .ref a_p0_waysThen, .ref a_p0_stays, .ref a_p0_fewest, .ref a_p0_bowls, .ref a_p0_has, .ref a_p0_goesOn, .ref a_p0_isThere, .ref a_p0_isThereThen, .ref a_p0_bestRow, .ref a_p0_lanes, .ref a_p0_sizes, .ref a_p0_cells, .int i_p0_torn])), (a_p0_st, .inl (G 1, 152, .inl v_p0_st)), (a_p0_goesOn, .inl (G 1, 343, .inl w2)), (a_p0_isThere, .inl (G 3, 49, .inl w25)), (a_p0_isThereThen, .inl (G 3, 49, .inl w15))]) hx hb hK hP hD hS 3 3 rfl rfl (ixB_in hc) dX12_could_193 (fun _ => rfl) (fun w25 ez H locs hP hD hS => ?_)
                      replace hf := bnd_s hf ez
                      clear ez hc
                      obtain ⟨z26, ez⟩ : ∃ y : Int32, y = (z21 + (1 : Int32)) := ⟨_, rfl⟩
                      replace hf := bnd_s hf ez
                      refine lv_iinc (v := z26) (lv' := [(4, .int z26), (2, .int z18), (3, .int z8), (0, .ref a_p0), (1, .int x1)]) hx hb dX12_could_194 hl (k := 0) rfl (by rw [ez]; rfl) (by decide) rfl (fun ls hl => ?_)
                      clear ez
                      refine lv_goto (tgt := 173) hx hb dX12_could_197 (by decide) ?_
                      exact ih173 _ _ _ _ _ (lv_sub hl [0, 1, 2, 3, 4] rfl) hP hD hS hf
                exact hB23 _ _ _ _ _ _ (lv_sub hl [0, 1, 2, 3, 4] rfl) hP hD hS hf
              have hq := lq2_i hf
              clear hf
              obtain ⟨B29, eB29, NB29, hf⟩ := hq
              have hB29 : ∀ (n : Nat) (z27 : Int32) (z28 : Int32) (ls : Array Slot) (H : Heap) (locs : List Loc), lv_has ls 6 [(4, .int z27), (2, .int z28), (3, .int z8), (0, .ref a_p0), (1, .int x1)] → va_P D vwCl [(a_p0, .inr (12, [.ref a_p0_st, .ref a_p0_isKept, .int i_p0_seats, .int i_p0_stirs, .ref a_p0_brings, .ref a_p0_need, .ref a_p0_draft, .int i_p0_dSeats, .int i_p0_dStirs, .ref a_p0_dStir, .ref a_p0_dNeed, .int i_p0_told, .int i_p0_highest, .ref a_p0_tape, .int i_p0_taped, .int i_p0_pos, .int i_p0_from, .int i_p0_sort, .int i_p0_value, .int i_p0_fault, .int i_p0_wrongAt, .ref a_p0_places, .ref a_p0_stirred, .ref a_p0_ways, .ref a_p0_waysThen, .ref a_p0_stays, .ref a_p0_fewest, .ref a_p0_bowls, .ref a_p0_has, .ref a_p0_goesOn, .ref a_p0_isThere, .ref a_p0_isThereThen, .ref a_p0_bestRow, .ref a_p0_lanes, .ref a_p0_sizes, .ref a_p0_cells, .int i_p0_torn])), (a_p0_st, .inl (G 1, 152, .inl v_p0_st)), (a_p0_goesOn, .inl (G 1, 343, .inl w2)), (a_p0_isThere, .inl (G 3, 49, .inl w10)), (a_p0_isThereThen, .inl (G 3, 49, .inl w15))] H → va_D A [(a_p0, .inr (12, [.ref a_p0_st, .ref a_p0_isKept, .int i_p0_seats, .int i_p0_stirs, .ref a_p0_brings, .ref a_p0_need, .ref a_p0_draft, .int i_p0_dSeats, .int i_p0_dStirs, .ref a_p0_dStir, .ref a_p0_dNeed, .int i_p0_told, .int i_p0_highest, .ref a_p0_tape, .int i_p0_taped, .int i_p0_pos, .int i_p0_from, .int i_p0_sort, .int i_p0_value, .int i_p0_fault, .int i_p0_wrongAt, .ref a_p0_places, .ref a_p0_stirred, .ref a_p0_ways, .ref a_p0_waysThen, .ref a_p0_stays, .ref a_p0_fewest, .ref a_p0_bowls, .ref a_p0_has, .ref a_p0_goesOn, .ref a_p0_isThere, .ref a_p0_isThereThen, .ref a_p0_bestRow, .ref a_p0_lanes, .ref a_p0_sizes, .ref a_p0_cells, .int i_p0_torn])), (a_p0_st, .inl (G 1, 152, .inl v_p0_st)), (a_p0_goesOn, .inl (G 1, 343, .inl w2)), (a_p0_isThere, .inl (G 3, 49, .inl w10)), (a_p0_isThereThen, .inl (G 3, 49, .inl w15))] → va_S A s.heap H locs → lq2 B29 n z27 z28 = some (r, o_v_p0_goesOn, o_v_p0_isThere, o_v_p0_isThereThen) → W p l e rm_X12_could s m ([.ref a_p0, .int x1] : List Value).toArray below meth c H locs 0 0 Q (F0 m 96 ls []) := by
                clear hf hl hP hD hS
                intro n
                induction n with
                | zero =>
                  intro z27 z28 ls H locs hl hP hD hS hf
                  exact (lq2_0 hf).elim
                | succ n ih96 =>
                  intro z27 z28 ls H locs hl hP hD hS hf
                  replace hf := lq2_s eB29 hf
                  unfold B_X12_could_96 at hf
                  refine lv_iload hx hb dX12_could_96 (lv_at hl 0 rfl) ?_
                  refine lv_bipush (v := (49 : Int32)) hx hb dX12_could_98 (by decide) ?_
                  refine lv_icmp_ge (tgt := 170) hx hb dX12_could_100 (by decide) (fun cc => ?_) (fun cc => ?_)
                  ·
                    replace hf := ite_t cc hf
                    clear cc
                    exact hJ19 _ _ _ _ (lv_sub hl [1, 2, 3, 4] rfl) hP hD hS hf
                  ·
                    replace hf := ite_f cc hf
                    clear cc
                    refine lv_iconst (v := (0 : Int32)) hx hb dX12_could_103 (by decide) ?_
                    refine lv_topi (fun z30 ez => ?_)
                    replace hf := bnd_s hf ez
                    clear ez
                    refine lv_istore (lv' := [(5, .int z30), (4, .int z27), (2, .int z28), (3, .int z8), (0, .ref a_p0), (1, .int x1)]) hx hb dX12_could_104 hl (by decide) rfl (fun ls hl => ?_)
                    have hq := lq2_i hf
                    clear hf
                    obtain ⟨B33, eB33, NB33, hf⟩ := hq
                    have hB33 : ∀ (n : Nat) (z31 : Int32) (z32 : Int32) (ls : Array Slot) (H : Heap) (locs : List Loc), lv_has ls 6 [(5, .int z31), (4, .int z27), (2, .int z32), (3, .int z8), (0, .ref a_p0), (1, .int x1)] → va_P D vwCl [(a_p0, .inr (12, [.ref a_p0_st, .ref a_p0_isKept, .int i_p0_seats, .int i_p0_stirs, .ref a_p0_brings, .ref a_p0_need, .ref a_p0_draft, .int i_p0_dSeats, .int i_p0_dStirs, .ref a_p0_dStir, .ref a_p0_dNeed, .int i_p0_told, .int i_p0_highest, .ref a_p0_tape, .int i_p0_taped, .int i_p0_pos, .int i_p0_from, .int i_p0_sort, .int i_p0_value, .int i_p0_fault, .int i_p0_wrongAt, .ref a_p0_places, .ref a_p0_stirred, .ref a_p0_ways, .ref a_p0_waysThen, .ref a_p0_stays, .ref a_p0_fewest, .ref a_p0_bowls, .ref a_p0_has, .ref a_p0_goesOn, .ref a_p0_isThere, .ref a_p0_isThereThen, .ref a_p0_bestRow, .ref a_p0_lanes, .ref a_p0_sizes, .ref a_p0_cells, .int i_p0_torn])), (a_p0_st, .inl (G 1, 152, .inl v_p0_st)), (a_p0_goesOn, .inl (G 1, 343, .inl w2)), (a_p0_isThere, .inl (G 3, 49, .inl w10)), (a_p0_isThereThen, .inl (G 3, 49, .inl w15))] H → va_D A [(a_p0, .inr (12, [.ref a_p0_st, .ref a_p0_isKept, .int i_p0_seats, .int i_p0_stirs, .ref a_p0_brings, .ref a_p0_need, .ref a_p0_draft, .int i_p0_dSeats, .int i_p0_dStirs, .ref a_p0_dStir, .ref a_p0_dNeed, .int i_p0_told, .int i_p0_highest, .ref a_p0_tape, .int i_p0_taped, .int i_p0_pos, .int i_p0_from, .int i_p0_sort, .int i_p0_value, .int i_p0_fault, .int i_p0_wrongAt, .ref a_p0_places, .ref a_p0_stirred, .ref a_p0_ways, .ref a_p0_waysThen, .ref a_p0_stays, .ref a_p0_fewest, .ref a_p0_bowls, .ref a_p0_has, .ref a_p0_goesOn, .ref a_p0_isThere, .ref a_p0_isThereThen, .ref a_p0_bestRow, .ref a_p0_lanes, .ref a_p0_sizes, .ref a_p0_cells, .int i_p0_torn])), (a_p0_st, .inl (G 1, 152, .inl v_p0_st)), (a_p0_goesOn, .inl (G 1, 343, .inl w2)), (a_p0_isThere, .inl (G 3, 49, .inl w10)), (a_p0_isThereThen, .inl (G 3, 49, .inl w15))] → va_S A s.heap H locs → lq2 B33 n z31 z32 = some (r, o_v_p0_goesOn, o_v_p0_isThere, o_v_p0_isThereThen) → W p l e rm_X12_could s m ([.ref a_p0, .int x1] : List Value).toArray below meth c H locs 0 0 Q (F0 m 106 ls []) := by
                      clear hf hl hP hD hS
                      intro n
                      induction n with
                      | zero =>
                        intro z31 z32 ls H locs hl hP hD hS hf
                        exact (lq2_0 hf).elim
                      | succ n ih106 =>
                        intro z31 z32 ls H locs hl hP hD hS hf
                        replace hf := lq2_s eB33 hf
                        unfold B_X12_could_106 at hf
                        refine lv_iload hx hb dX12_could_106 (lv_at hl 0 rfl) ?_
                        refine lv_aload_n hx hb dX12_could_108 rfl (lv_at hl 4 rfl) ?_
                        refine va_get (D := D) (ci := 12) (v := .int i_p0_stirs) (C := RX12) (T := TX12) (N := 37) hx hb hts inX12_could_X12 hown hK hP 0 rfl rfl 3 (by decide) (hts _ mwX12_could_4) (fun _ h9 => h9) rfl dX12_could_109 ?_
                        refine lv_icmp_ge (tgt := 164) hx hb dX12_could_112 (by decide) (fun cc => ?_) (fun cc => ?_)
                        ·
                          replace hf := ite_t cc hf
                          clear cc
                          obtain ⟨z34, ez⟩ : ∃ y : Int32, y = (z27 + (1 : Int32)) := ⟨_, rfl⟩
                          replace hf := bnd_s hf ez
                          refine lv_iinc (v := z34) (lv' := [(4, .int z34), (5, .int z31), (2, .int z32), (3, .int z8), (0, .ref a_p0), (1, .int x1)]) hx hb dX12_could_164 hl (k := 1) rfl (by rw [ez]; rfl) (by decide) rfl (fun ls hl => ?_)
                          clear ez
                          refine lv_goto (tgt := 96) hx hb dX12_could_167 (by decide) ?_
                          exact ih96 _ _ _ _ _ (lv_sub hl [0, 2, 3, 4, 5] rfl) hP hD hS hf
                        ·
                          replace hf := ite_f cc hf
                          clear cc
                          refine lv_aload_n hx hb dX12_could_115 rfl (lv_at hl 4 rfl) ?_
                          refine va_get (D := D) (ci := 12) (v := .ref a_p0_isThere) (C := RX12) (T := TX12) (N := 37) hx hb hts inX12_could_X12 hown hK hP 0 rfl rfl 30 (by decide) (hts _ mwX12_could_2) (fun _ h9 => h9) rfl dX12_could_116 ?_
                          refine lv_iload hx hb dX12_could_119 (lv_at hl 1 rfl) ?_
                          have hc := ck_c hf
                          replace hf := ck_r hf
                          refine va_zald hx hb hK hP 3 3 rfl rfl (ixB_in hc) dX12_could_121 ?_
                          clear hc
                          refine lv_if_eq (tgt := 164) hx hb dX12_could_122 (by decide) (fun cc => ?_) (fun cc => ?_)
                          ·
                            replace hf := ite_t cc hf
                            clear cc
                            obtain ⟨z35, ez⟩ : ∃ y : Int32, y = (z27 + (1 : Int32)) := ⟨_, rfl⟩
                            replace hf := bnd_s hf ez
                            refine lv_iinc (v := z35) (lv' := [(4, .int z35), (5, .int z31), (2, .int z32), (3, .int z8), (0, .ref a_p0), (1, .int x1)]) hx hb dX12_could_164 hl (k := 1) rfl (by rw [ez]; rfl) (by decide) rfl (fun ls hl => ?_)
                            clear ez
                            refine lv_goto (tgt := 96) hx hb dX12_could_167 (by decide) ?_
                            exact ih96 _ _ _ _ _ (lv_sub hl [0, 2, 3, 4, 5] rfl) hP hD hS hf
                          ·
                            replace hf := ite_f cc hf
                            clear cc
                            refine lv_aload_n hx hb dX12_could_125 rfl (lv_at hl 4 rfl) ?_
                            refine lv_iload_n hx hb dX12_could_126 rfl (lv_at hl 3 rfl) ?_
                            refine lv_iload hx hb dX12_could_127 (lv_at hl 1 rfl) ?_
                            refine lv_iload hx hb dX12_could_129 (lv_at hl 0 rfl) ?_
                            cases hf
                    exact hB33 _ _ _ _ _ _ (lv_sub hl [0, 1, 2, 3, 4, 5] rfl) hP hD hS hf
              exact hB29 _ _ _ _ _ _ (lv_sub hl [0, 1, 2, 3, 4] rfl) hP hD hS hf
            have hq := lq2_i hf
            clear hf
            obtain ⟨B38, eB38, NB38, hf⟩ := hq
            have hB38 : ∀ (n : Nat) (z36 : Int32) (w37 : (Nat → Int32)) (ls : Array Slot) (H : Heap) (locs : List Loc), lv_has ls 6 [(4, .int z36), (2, .int z13), (3, .int z8), (0, .ref a_p0), (1, .int x1)] → va_P D vwCl [(a_p0, .inr (12, [.ref a_p0_st, .ref a_p0_isKept, .int i_p0_seats, .int i_p0_stirs, .ref a_p0_brings, .ref a_p0_need, .ref a_p0_draft, .int i_p0_dSeats, .int i_p0_dStirs, .ref a_p0_dStir, .ref a_p0_dNeed, .int i_p0_told, .int i_p0_highest, .ref a_p0_tape, .int i_p0_taped, .int i_p0_pos, .int i_p0_from, .int i_p0_sort, .int i_p0_value, .int i_p0_fault, .int i_p0_wrongAt, .ref a_p0_places, .ref a_p0_stirred, .ref a_p0_ways, .ref a_p0_waysThen, .ref a_p0_stays, .ref a_p0_fewest, .ref a_p0_bowls, .ref a_p0_has, .ref a_p0_goesOn, .ref a_p0_isThere, .ref a_p0_isThereThen, .ref a_p0_bestRow, .ref a_p0_lanes, .ref a_p0_sizes, .ref a_p0_cells, .int i_p0_torn])), (a_p0_st, .inl (G 1, 152, .inl v_p0_st)), (a_p0_goesOn, .inl (G 1, 343, .inl w2)), (a_p0_isThere, .inl (G 3, 49, .inl w10)), (a_p0_isThereThen, .inl (G 3, 49, .inl w37))] H → va_D A [(a_p0, .inr (12, [.ref a_p0_st, .ref a_p0_isKept, .int i_p0_seats, .int i_p0_stirs, .ref a_p0_brings, .ref a_p0_need, .ref a_p0_draft, .int i_p0_dSeats, .int i_p0_dStirs, .ref a_p0_dStir, .ref a_p0_dNeed, .int i_p0_told, .int i_p0_highest, .ref a_p0_tape, .int i_p0_taped, .int i_p0_pos, .int i_p0_from, .int i_p0_sort, .int i_p0_value, .int i_p0_fault, .int i_p0_wrongAt, .ref a_p0_places, .ref a_p0_stirred, .ref a_p0_ways, .ref a_p0_waysThen, .ref a_p0_stays, .ref a_p0_fewest, .ref a_p0_bowls, .ref a_p0_has, .ref a_p0_goesOn, .ref a_p0_isThere, .ref a_p0_isThereThen, .ref a_p0_bestRow, .ref a_p0_lanes, .ref a_p0_sizes, .ref a_p0_cells, .int i_p0_torn])), (a_p0_st, .inl (G 1, 152, .inl v_p0_st)), (a_p0_goesOn, .inl (G 1, 343, .inl w2)), (a_p0_isThere, .inl (G 3, 49, .inl w10)), (a_p0_isThereThen, .inl (G 3, 49, .inl w37))] → va_S A s.heap H locs → lq2 B38 n z36 w37 = some (r, o_v_p0_goesOn, o_v_p0_isThere, o_v_p0_isThereThen) → W p l e rm_X12_could s m ([.ref a_p0, .int x1] : List Value).toArray below meth c H locs 0 0 Q (F0 m 72 ls []) := by
              clear hf hl hP hD hS
              intro n
              induction n with
              | zero =>
                intro z36 w37 ls H locs hl hP hD hS hf
                exact (lq2_0 hf).elim
              | succ n ih72 =>
                intro z36 w37 ls H locs hl hP hD hS hf
                replace hf := lq2_s eB38 hf
                unfold B_X12_could_72 at hf
                refine lv_iload hx hb dX12_could_72 (lv_at hl 0 rfl) ?_
                refine lv_bipush (v := (49 : Int32)) hx hb dX12_could_74 (by decide) ?_
                refine lv_icmp_ge (tgt := 93) hx hb dX12_could_76 (by decide) (fun cc => ?_) (fun cc => ?_)
                ·
                  replace hf := ite_t cc hf
                  clear cc
                  exact hJ16 _ _ _ _ (lv_sub hl [1, 2, 3, 4] rfl) hP hD hS hf
                ·
                  replace hf := ite_f cc hf
                  clear cc
                  refine lv_aload_n hx hb dX12_could_79 rfl (lv_at hl 3 rfl) ?_
                  refine va_get (D := D) (ci := 12) (v := .ref a_p0_isThereThen) (C := RX12) (T := TX12) (N := 37) hx hb hts inX12_could_X12 hown hK hP 0 rfl rfl 31 (by decide) (hts _ mwX12_could_3) (fun _ h9 => h9) rfl dX12_could_80 ?_
                  refine lv_iload hx hb dX12_could_83 (lv_at hl 0 rfl) ?_
                  refine lv_iconst (v := (0 : Int32)) hx hb dX12_could_85 (by decide) ?_
                  have hc := ck_c hf
                  replace hf := ck_r hf
                  refine gs_zast (wf := fun w39 => [(a_p0, .inr (12, [.ref a_p0_st, .ref a_p0_isKept, .int i_p0_seats, .int i_p0_stirs, .ref a_p0_brings, .ref a_p0_need, .ref a_p0_draft, .int i_p0_dSeats, .int i_p0_dStirs, .ref a_p0_dStir, .ref a_p0_dNeed, .int i_p0_told, .int i_p0_highest, .ref a_p0_tape, .int i_p0_taped, .int i_p0_pos, .int i_p0_from, .int i_p0_sort, .int i_p0_value, .int i_p0_fault, .int i_p0_wrongAt, .ref a_p0_places, .ref a_p0_stirred, .ref a_p0_ways, .ref a_p0_waysThen, .ref a_p0_stays, .ref a_p0_fewest, .ref a_p0_bowls, .ref a_p0_has, .ref a_p0_goesOn, .ref a_p0_isThere, .ref a_p0_isThereThen, .ref a_p0_bestRow, .ref a_p0_lanes, .ref a_p0_sizes, .ref a_p0_cells, .int i_p0_torn])), (a_p0_st, .inl (G 1, 152, .inl v_p0_st)), (a_p0_goesOn, .inl (G 1, 343, .inl w2)), (a_p0_isThere, .inl (G 3, 49, .inl w10)), (a_p0_isThereThen, .inl (G 3, 49, .inl w39))]) hx hb hK hP hD hS 4 3 rfl rfl (ixB_in hc) dX12_could_86 (fun _ => rfl) (fun w39 ez H locs hP hD hS => ?_)
                  replace hf := bnd_s hf ez
                  clear ez hc
                  obtain ⟨z40, ez⟩ : ∃ y : Int32, y = (z36 + (1 : Int32)) := ⟨_, rfl⟩
                  replace hf := bnd_s hf ez
                  refine lv_iinc (v := z40) (lv' := [(4, .int z40), (2, .int z13), (3, .int z8), (0, .ref a_p0), (1, .int x1)]) hx hb dX12_could_87 hl (k := 0) rfl (by rw [ez]; rfl) (by decide) rfl (fun ls hl => ?_)
                  clear ez
                  refine lv_goto (tgt := 72) hx hb dX12_could_90 (by decide) ?_
                  exact ih72 _ _ _ _ _ (lv_sub hl [0, 1, 2, 3, 4] rfl) hP hD hS hf
            exact hB38 _ _ _ _ _ _ (lv_sub hl [0, 1, 2, 3, 4] rfl) hP hD hS hf
      exact hB12 _ _ _ _ _ _ _ _ (lv_sub hl [0, 1, 2, 3] rfl) hP hD hS hf
    have hq := lq2_i hf
    clear hf
    obtain ⟨B43, eB43, NB43, hf⟩ := hq
    have hB43 : ∀ (n : Nat) (z41 : Int32) (w42 : (Nat → Int32)) (ls : Array Slot) (H : Heap) (locs : List Loc), lv_has ls 6 [(3, .int z41), (2, .int z3), (0, .ref a_p0), (1, .int x1)] → va_P D vwCl [(a_p0, .inr (12, [.ref a_p0_st, .ref a_p0_isKept, .int i_p0_seats, .int i_p0_stirs, .ref a_p0_brings, .ref a_p0_need, .ref a_p0_draft, .int i_p0_dSeats, .int i_p0_dStirs, .ref a_p0_dStir, .ref a_p0_dNeed, .int i_p0_told, .int i_p0_highest, .ref a_p0_tape, .int i_p0_taped, .int i_p0_pos, .int i_p0_from, .int i_p0_sort, .int i_p0_value, .int i_p0_fault, .int i_p0_wrongAt, .ref a_p0_places, .ref a_p0_stirred, .ref a_p0_ways, .ref a_p0_waysThen, .ref a_p0_stays, .ref a_p0_fewest, .ref a_p0_bowls, .ref a_p0_has, .ref a_p0_goesOn, .ref a_p0_isThere, .ref a_p0_isThereThen, .ref a_p0_bestRow, .ref a_p0_lanes, .ref a_p0_sizes, .ref a_p0_cells, .int i_p0_torn])), (a_p0_st, .inl (G 1, 152, .inl v_p0_st)), (a_p0_goesOn, .inl (G 1, 343, .inl w2)), (a_p0_isThere, .inl (G 3, 49, .inl w42)), (a_p0_isThereThen, .inl (G 3, 49, .inl v_p0_isThereThen))] H → va_D A [(a_p0, .inr (12, [.ref a_p0_st, .ref a_p0_isKept, .int i_p0_seats, .int i_p0_stirs, .ref a_p0_brings, .ref a_p0_need, .ref a_p0_draft, .int i_p0_dSeats, .int i_p0_dStirs, .ref a_p0_dStir, .ref a_p0_dNeed, .int i_p0_told, .int i_p0_highest, .ref a_p0_tape, .int i_p0_taped, .int i_p0_pos, .int i_p0_from, .int i_p0_sort, .int i_p0_value, .int i_p0_fault, .int i_p0_wrongAt, .ref a_p0_places, .ref a_p0_stirred, .ref a_p0_ways, .ref a_p0_waysThen, .ref a_p0_stays, .ref a_p0_fewest, .ref a_p0_bowls, .ref a_p0_has, .ref a_p0_goesOn, .ref a_p0_isThere, .ref a_p0_isThereThen, .ref a_p0_bestRow, .ref a_p0_lanes, .ref a_p0_sizes, .ref a_p0_cells, .int i_p0_torn])), (a_p0_st, .inl (G 1, 152, .inl v_p0_st)), (a_p0_goesOn, .inl (G 1, 343, .inl w2)), (a_p0_isThere, .inl (G 3, 49, .inl w42)), (a_p0_isThereThen, .inl (G 3, 49, .inl v_p0_isThereThen))] → va_S A s.heap H locs → lq2 B43 n z41 w42 = some (r, o_v_p0_goesOn, o_v_p0_isThere, o_v_p0_isThereThen) → W p l e rm_X12_could s m ([.ref a_p0, .int x1] : List Value).toArray below meth c H locs 0 0 Q (F0 m 29 ls []) := by
      clear hf hl hP hD hS
      intro n
      induction n with
      | zero =>
        intro z41 w42 ls H locs hl hP hD hS hf
        exact (lq2_0 hf).elim
      | succ n ih29 =>
        intro z41 w42 ls H locs hl hP hD hS hf
        replace hf := lq2_s eB43 hf
        unfold B_X12_could_29 at hf
        refine lv_iload_n hx hb dX12_could_29 rfl (lv_at hl 0 rfl) ?_
        refine lv_bipush (v := (49 : Int32)) hx hb dX12_could_30 (by decide) ?_
        refine lv_icmp_ge (tgt := 60) hx hb dX12_could_32 (by decide) (fun cc => ?_) (fun cc => ?_)
        ·
          replace hf := ite_t cc hf
          clear cc
          exact hJ6 _ _ _ _ (lv_sub hl [1, 2, 3] rfl) hP hD hS hf
        ·
          replace hf := ite_f cc hf
          clear cc
          refine lv_aload_n hx hb dX12_could_35 rfl (lv_at hl 2 rfl) ?_
          refine va_get (D := D) (ci := 12) (v := .ref a_p0_isThere) (C := RX12) (T := TX12) (N := 37) hx hb hts inX12_could_X12 hown hK hP 0 rfl rfl 30 (by decide) (hts _ mwX12_could_2) (fun _ h9 => h9) rfl dX12_could_36 ?_
          refine lv_iload_n hx hb dX12_could_39 rfl (lv_at hl 0 rfl) ?_
          refine lv_iload_n hx hb dX12_could_40 rfl (lv_at hl 0 rfl) ?_
          refine lv_aload_n hx hb dX12_could_41 rfl (lv_at hl 2 rfl) ?_
          have hq := bd1_s hf
          clear hf
          obtain ⟨z44, hcall, hf⟩ := hq
          refine gcI (ws' := [(a_p0, .inr (12, [.ref a_p0_st, .ref a_p0_isKept, .int i_p0_seats, .int i_p0_stirs, .ref a_p0_brings, .ref a_p0_need, .ref a_p0_draft, .int i_p0_dSeats, .int i_p0_dStirs, .ref a_p0_dStir, .ref a_p0_dNeed, .int i_p0_told, .int i_p0_highest, .ref a_p0_tape, .int i_p0_taped, .int i_p0_pos, .int i_p0_from, .int i_p0_sort, .int i_p0_value, .int i_p0_fault, .int i_p0_wrongAt, .ref a_p0_places, .ref a_p0_stirred, .ref a_p0_ways, .ref a_p0_waysThen, .ref a_p0_stays, .ref a_p0_fewest, .ref a_p0_bowls, .ref a_p0_has, .ref a_p0_goesOn, .ref a_p0_isThere, .ref a_p0_isThereThen, .ref a_p0_bestRow, .ref a_p0_lanes, .ref a_p0_sizes, .ref a_p0_cells, .int i_p0_torn])), (a_p0_st, .inl (G 1, 152, .inl v_p0_st)), (a_p0_goesOn, .inl (G 1, 343, .inl w2)), (a_p0_isThere, .inl (G 3, 49, .inl w42)), (a_p0_isThereThen, .inl (G 3, 49, .inl v_p0_isThereThen))]) (va_runV (As := []) (rest := [.int z41, .int z41, .ref a_p0_isThere]) ⟨hx, hb, hml, hown, hts⟩ (c_X12_stateNow (l := l) (D := D) (G := G) (sz := H.size) (a_p0 := a_p0) (a_p0_st := a_p0_st) (a_p0_isKept := a_p0_isKept) (a_p0_brings := a_p0_brings) (a_p0_need := a_p0_need) (a_p0_draft := a_p0_draft) (a_p0_dStir := a_p0_dStir) (a_p0_dNeed := a_p0_dNeed) (a_p0_tape := a_p0_tape) (a_p0_places := a_p0_places) (a_p0_stirred := a_p0_stirred) (a_p0_ways := a_p0_ways) (a_p0_waysThen := a_p0_waysThen) (a_p0_stays := a_p0_stays) (a_p0_fewest := a_p0_fewest) (a_p0_bowls := a_p0_bowls) (a_p0_has := a_p0_has) (a_p0_goesOn := a_p0_goesOn) (a_p0_isThere := a_p0_isThere) (a_p0_isThereThen := a_p0_isThereThen) (a_p0_bestRow := a_p0_bestRow) (a_p0_lanes := a_p0_lanes) (a_p0_sizes := a_p0_sizes) (a_p0_cells := a_p0_cells) (i_p0_seats := i_p0_seats) (i_p0_stirs := i_p0_stirs) (i_p0_dSeats := i_p0_dSeats) (i_p0_dStirs := i_p0_dStirs) (i_p0_told := i_p0_told) (i_p0_highest := i_p0_highest) (i_p0_taped := i_p0_taped) (i_p0_pos := i_p0_pos) (i_p0_from := i_p0_from) (i_p0_sort := i_p0_sort) (i_p0_value := i_p0_value) (i_p0_fault := i_p0_fault) (i_p0_wrongAt := i_p0_wrongAt) (i_p0_torn := i_p0_torn) (v_p0_st := v_p0_st) (r := z44) (hf := hcall)) (cwV 0 hts gX12_could_X12_stateNow rfl rfl rfl (by decide +kernel) ⟨Nat.le_of_ble_eq_true rfl, Nat.le_of_ble_eq_true rfl⟩) (preG_V (ci := 12) (hP.sub [0, 1] rfl) (hD.sub [0, 1] rfl rfl) hK rfl rfl) rfl rfl hl.1 rfl (lv_room (Nat.le_of_ble_eq_true rfl)) dX12_could_42 ⟨Nat.le_of_ble_eq_true rfl, Nat.le_of_ble_eq_true rfl⟩) hP hD hS hA [0, 1] [2, 3, 4] [3, 4, 0, 1, 2] rfl rfl rfl (by decide) rfl rfl rfl (fun H locs hP hD hS => ?_)
          clear hcall
          refine lv_icmp_ne (tgt := 52) hx hb dX12_could_45 (by decide) (fun cc => ?_) (fun cc => ?_)
          ·
            replace hf := ite_f cc hf
            clear cc
            refine lv_iconst (v := (0 : Int32)) hx hb dX12_could_52 (by decide) ?_
            have hc := ck_c hf
            replace hf := ck_r hf
            refine gs_zast (wf := fun w45 => [(a_p0, .inr (12, [.ref a_p0_st, .ref a_p0_isKept, .int i_p0_seats, .int i_p0_stirs, .ref a_p0_brings, .ref a_p0_need, .ref a_p0_draft, .int i_p0_dSeats, .int i_p0_dStirs, .ref a_p0_dStir, .ref a_p0_dNeed, .int i_p0_told, .int i_p0_highest, .ref a_p0_tape, .int i_p0_taped, .int i_p0_pos, .int i_p0_from, .int i_p0_sort, .int i_p0_value, .int i_p0_fault, .int i_p0_wrongAt, .ref a_p0_places, .ref a_p0_stirred, .ref a_p0_ways, .ref a_p0_waysThen, .ref a_p0_stays, .ref a_p0_fewest, .ref a_p0_bowls, .ref a_p0_has, .ref a_p0_goesOn, .ref a_p0_isThere, .ref a_p0_isThereThen, .ref a_p0_bestRow, .ref a_p0_lanes, .ref a_p0_sizes, .ref a_p0_cells, .int i_p0_torn])), (a_p0_st, .inl (G 1, 152, .inl v_p0_st)), (a_p0_goesOn, .inl (G 1, 343, .inl w2)), (a_p0_isThere, .inl (G 3, 49, .inl w45)), (a_p0_isThereThen, .inl (G 3, 49, .inl v_p0_isThereThen))]) hx hb hK hP hD hS 3 3 rfl rfl (ixB_in hc) dX12_could_53 (fun _ => rfl) (fun w45 ez H locs hP hD hS => ?_)
            replace hf := bnd_s hf ez
            clear ez hc
            obtain ⟨z46, ez⟩ : ∃ y : Int32, y = (z41 + (1 : Int32)) := ⟨_, rfl⟩
            replace hf := bnd_s hf ez
            refine lv_iinc (v := z46) (lv' := [(3, .int z46), (2, .int z3), (0, .ref a_p0), (1, .int x1)]) hx hb dX12_could_54 hl (k := 0) rfl (by rw [ez]; rfl) (by decide) rfl (fun ls hl => ?_)
            clear ez
            refine lv_goto (tgt := 29) hx hb dX12_could_57 (by decide) ?_
            exact ih29 _ _ _ _ _ (lv_sub hl [0, 1, 2, 3] rfl) hP hD hS hf
          ·
            replace hf := ite_t cc hf
            clear cc
            refine lv_iconst (v := (1 : Int32)) hx hb dX12_could_48 (by decide) ?_
            refine lv_goto (tgt := 53) hx hb dX12_could_49 (by decide) ?_
            have hc := ck_c hf
            replace hf := ck_r hf
            refine gs_zast (wf := fun w47 => [(a_p0, .inr (12, [.ref a_p0_st, .ref a_p0_isKept, .int i_p0_seats, .int i_p0_stirs, .ref a_p0_brings, .ref a_p0_need, .ref a_p0_draft, .int i_p0_dSeats, .int i_p0_dStirs, .ref a_p0_dStir, .ref a_p0_dNeed, .int i_p0_told, .int i_p0_highest, .ref a_p0_tape, .int i_p0_taped, .int i_p0_pos, .int i_p0_from, .int i_p0_sort, .int i_p0_value, .int i_p0_fault, .int i_p0_wrongAt, .ref a_p0_places, .ref a_p0_stirred, .ref a_p0_ways, .ref a_p0_waysThen, .ref a_p0_stays, .ref a_p0_fewest, .ref a_p0_bowls, .ref a_p0_has, .ref a_p0_goesOn, .ref a_p0_isThere, .ref a_p0_isThereThen, .ref a_p0_bestRow, .ref a_p0_lanes, .ref a_p0_sizes, .ref a_p0_cells, .int i_p0_torn])), (a_p0_st, .inl (G 1, 152, .inl v_p0_st)), (a_p0_goesOn, .inl (G 1, 343, .inl w2)), (a_p0_isThere, .inl (G 3, 49, .inl w47)), (a_p0_isThereThen, .inl (G 3, 49, .inl v_p0_isThereThen))]) hx hb hK hP hD hS 3 3 rfl rfl (ixB_in hc) dX12_could_53 (fun _ => rfl) (fun w47 ez H locs hP hD hS => ?_)
            replace hf := bnd_s hf ez
            clear ez hc
            obtain ⟨z48, ez⟩ : ∃ y : Int32, y = (z41 + (1 : Int32)) := ⟨_, rfl⟩
            replace hf := bnd_s hf ez
            refine lv_iinc (v := z48) (lv' := [(3, .int z48), (2, .int z3), (0, .ref a_p0), (1, .int x1)]) hx hb dX12_could_54 hl (k := 0) rfl (by rw [ez]; rfl) (by decide) rfl (fun ls hl => ?_)
            clear ez
            refine lv_goto (tgt := 29) hx hb dX12_could_57 (by decide) ?_
            exact ih29 _ _ _ _ _ (lv_sub hl [0, 1, 2, 3] rfl) hP hD hS hf
    exact hB43 _ _ _ _ _ _ (lv_sub hl [0, 1, 2, 3] rfl) hP hD hS hf
  ·
    replace hf := ite_t cc hf
    clear cc
    refine lv_iconst (v := (-1 : Int32)) hx hb dX12_could_19 (by decide) ?_
    obtain ⟨rfl, rfl, rfl, rfl⟩ := ou4 hf
    rw [hQ]
    exact W.iret hx hb hr (fun t ht hW => ⟨⟨_, (), rfl, rfl, by rw [ht]; exact hP, va_K.moved hW.alike hK, hD⟩, hS.F ht⟩) hS.2.2 dX12_could_20
