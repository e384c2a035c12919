noncomputable def f_X11_crown (i_p0_rules_seats : Int32) (i_p0_state_king : Int32) (x1 : Int32) : Option (Int32 × Int32) := (bd1 (f_X6_hasSeat i_p0_rules_seats x1) (fun (z1 : Int32) => (if z1 = 0 then (some ((-1 : Int32), i_p0_state_king)) else (bnd i_p0_state_king (fun (z2 : Int32) => (bnd x1 (fun (z3 : Int32) => (some (z2, z3)))))))))
abbrev rm_X11_crown : Room := { frames := 1, cells := 0, slots := 0, locals := 21 }
theorem inX11_crown_X11 : ∀ w ∈ wsX110, w ∈ wsX11_crown := by decide +kernel
theorem mwX11_crown_1 : Cond.fieldLink RX11 10 "LadleKings" "rules" "LLadleKings$Rules;" ∈ wsX11_crown := by decide +kernel
theorem mwX11_crown_2 : Cond.fieldLink RX11 19 "LadleKings" "state" "LLadleKings$State;" ∈ wsX11_crown := by decide +kernel
theorem inX11_crown_X8 : ∀ w ∈ wsX80, w ∈ wsX11_crown := by decide +kernel
theorem mwX11_crown_4 : Cond.fieldLink RX11 136 "LadleKings$State" "king" "I" ∈ wsX11_crown := by decide +kernel
set_option maxHeartbeats 8000000 in
set_option maxRecDepth 100000 in
theorem c_X11_crown (l : Launch) (D : va_G) (G : Nat → ClassId) (sz : Nat) (a_p0 : Nat) (a_p0_rules : Nat) (a_p0_state : Nat) (a_p0_tape : Nat) (a_p0_reader : Nat) (a_p0_kitchen : Nat) (a_p0_luck : Nat) (a_p0_plans : Nat) (a_p0_coups : Nat) (a_p0_past : Nat) (a_p0_fairDays : Nat) (a_p0_images : Nat) (a_p0_imageHeld : Nat) (a_p0_sheets : Nat) (a_p0_rules_need : Nat) (a_p0_rules_kind : Nat) (a_p0_rules_first : Nat) (a_p0_rules_second : Nat) (a_p0_rules_after : Nat) (a_p0_state_pieces : Nat) (a_p0_state_friends : Nat) (a_p0_state_spoons : Nat) (a_p0_state_eaten : Nat) (a_p0_state_seen : Nat) (i_p0_latestFault : Int32) (i_p0_latestTear : Int32) (i_p0_rules_seats : Int32) (i_p0_rules_stirs : Int32) (i_p0_state_seenDays : Int32) (i_p0_state_bone : Int32) (i_p0_state_king : Int32) (i_p0_state_days : Int32) (x1 : Int32) (r : Int32) (o_i_p0_state_king : Int32) (hf : f_X11_crown i_p0_rules_seats i_p0_state_king x1 = some (r, o_i_p0_state_king)) : Met l yX11_crown wsX11_crown rm_X11_crown (pcG D G [.ref a_p0, .int x1] sz [(a_p0, .inr (11, [.ref a_p0_rules, .ref a_p0_state, .ref a_p0_tape, .ref a_p0_reader, .ref a_p0_kitchen, .ref a_p0_luck, .ref a_p0_plans, .ref a_p0_coups, .ref a_p0_past, .ref a_p0_fairDays, .ref a_p0_images, .ref a_p0_imageHeld, .ref a_p0_sheets, .int i_p0_latestFault, .int i_p0_latestTear])), (a_p0_rules, .inr (6, [.int i_p0_rules_seats, .int i_p0_rules_stirs, .ref a_p0_rules_need, .ref a_p0_rules_kind, .ref a_p0_rules_first, .ref a_p0_rules_second, .ref a_p0_rules_after])), (a_p0_state, .inr (8, [.ref a_p0_state_pieces, .ref a_p0_state_friends, .ref a_p0_state_spoons, .ref a_p0_state_eaten, .ref a_p0_state_seen, .int i_p0_state_seenDays, .int i_p0_state_bone, .int i_p0_state_king, .int i_p0_state_days]))]) (qcI D G r [(a_p0, .inr (11, [.ref a_p0_rules, .ref a_p0_state, .ref a_p0_tape, .ref a_p0_reader, .ref a_p0_kitchen, .ref a_p0_luck, .ref a_p0_plans, .ref a_p0_coups, .ref a_p0_past, .ref a_p0_fairDays, .ref a_p0_images, .ref a_p0_imageHeld, .ref a_p0_sheets, .int i_p0_latestFault, .int i_p0_latestTear])), (a_p0_rules, .inr (6, [.int i_p0_rules_seats, .int i_p0_rules_stirs, .ref a_p0_rules_need, .ref a_p0_rules_kind, .ref a_p0_rules_first, .ref a_p0_rules_second, .ref a_p0_rules_after])), (a_p0_state, .inr (8, [.ref a_p0_state_pieces, .ref a_p0_state_friends, .ref a_p0_state_spoons, .ref a_p0_state_eaten, .ref a_p0_state_seen, .int i_p0_state_seenDays, .int i_p0_state_bone, .int o_i_p0_state_king, .int i_p0_state_days]))] (va_A [(a_p0, .inr (11, [.ref a_p0_rules, .ref a_p0_state, .ref a_p0_tape, .ref a_p0_reader, .ref a_p0_kitchen, .ref a_p0_luck, .ref a_p0_plans, .ref a_p0_coups, .ref a_p0_past, .ref a_p0_fairDays, .ref a_p0_images, .ref a_p0_imageHeld, .ref a_p0_sheets, .int i_p0_latestFault, .int i_p0_latestTear])), (a_p0_rules, .inr (6, [.int i_p0_rules_seats, .int i_p0_rules_stirs, .ref a_p0_rules_need, .ref a_p0_rules_kind, .ref a_p0_rules_first, .ref a_p0_rules_second, .ref a_p0_rules_after])), (a_p0_state, .inr (8, [.ref a_p0_state_pieces, .ref a_p0_state_friends, .ref a_p0_state_spoons, .ref a_p0_state_eaten, .ref a_p0_state_seen, .int i_p0_state_seenDays, .int i_p0_state_bone, .int i_p0_state_king, .int i_p0_state_days]))] sz)) 0 0 (va_A [(a_p0, .inr (11, [.ref a_p0_rules, .ref a_p0_state, .ref a_p0_tape, .ref a_p0_reader, .ref a_p0_kitchen, .ref a_p0_luck, .ref a_p0_plans, .ref a_p0_coups, .ref a_p0_past, .ref a_p0_fairDays, .ref a_p0_images, .ref a_p0_imageHeld, .ref a_p0_sheets, .int i_p0_latestFault, .int i_p0_latestTear])), (a_p0_rules, .inr (6, [.int i_p0_rules_seats, .int i_p0_rules_stirs, .ref a_p0_rules_need, .ref a_p0_rules_kind, .ref a_p0_rules_first, .ref a_p0_rules_second, .ref a_p0_rules_after])), (a_p0_state, .inr (8, [.ref a_p0_state_pieces, .ref a_p0_state_friends, .ref a_p0_state_spoons, .ref a_p0_state_eaten, .ref a_p0_state_seen, .int i_p0_state_seenDays, .int i_p0_state_bone, .int i_p0_state_king, .int i_p0_state_days]))] sz) := by
  refine Met.ofW (cc := cX11_crown) (maxL := 3) (ret := (some .int)) (by decide) rfl ?_
  intro p e s m args below meth c s₁ B hml hv
  obtain ⟨rfl, hsz, hP, hK, hD0⟩ := hv
  have hx := B.exec
  have hb := B.bytes
  have hr := B.returns
  have hts := atoms_spec (ws := wsX11_crown) B.pre
  have hown : s.vm.findClass RX11 = some m.cls := findClass_of_methodNamed B.named
  have hlocks := B.notSynchronized
  subst hsz
  have hD := hD0.self (sz := s.heap.size)
  generalize hAe : va_A [(a_p0, .inr (11, [.ref a_p0_rules, .ref a_p0_state, .ref a_p0_tape, .ref a_p0_reader, .ref a_p0_kitchen, .ref a_p0_luck, .ref a_p0_plans, .ref a_p0_coups, .ref a_p0_past, .ref a_p0_fairDays, .ref a_p0_images, .ref a_p0_imageHeld, .ref a_p0_sheets, .int i_p0_latestFault, .int i_p0_latestTear])), (a_p0_rules, .inr (6, [.int i_p0_rules_seats, .int i_p0_rules_stirs, .ref a_p0_rules_need, .ref a_p0_rules_kind, .ref a_p0_rules_first, .ref a_p0_rules_second, .ref a_p0_rules_after])), (a_p0_state, .inr (8, [.ref a_p0_state_pieces, .ref a_p0_state_friends, .ref a_p0_state_spoons, .ref a_p0_state_eaten, .ref a_p0_state_seen, .int i_p0_state_seenDays, .int i_p0_state_bone, .int i_p0_state_king, .int i_p0_state_days]))] s.heap.size = A at hD ⊢
  have hA : ∀ q : Nat, s.heap.size ≤ q → A q := fun q h => by rw [← hAe]; exact Or.inr h
  clear hAe hD0
  have hS : va_S A s.heap s.heap [] := va_S.rf
  have hl := lv_entry ([.ref a_p0, .int x1]) (n := 3) (Nat.le_of_ble_eq_true rfl)
  rw [lg_entry_eq]
  generalize (lg_sl ([.ref a_p0, .int x1]) ++ List.replicate (3 - (lg_sl ([.ref a_p0, .int x1])).length) Slot.unset).toArray = ls at hl ⊢
  have hl : lv_has ls 3 [(0, .ref a_p0), (1, .int x1)] := hl
  refine W_nameQ (fun Q hQ => ?_)
  obtain ⟨H, hH⟩ : ∃ H, H = s.heap := ⟨_, rfl⟩
  replace hS : va_S A s.heap H [] := by rw [hH]; exact hS
  replace hP : va_P D vwCl [(a_p0, .inr (11, [.ref a_p0_rules, .ref a_p0_state, .ref a_p0_tape, .ref a_p0_reader, .ref a_p0_kitchen, .ref a_p0_luck, .ref a_p0_plans, .ref a_p0_coups, .ref a_p0_past, .ref a_p0_fairDays, .ref a_p0_images, .ref a_p0_imageHeld, .ref a_p0_sheets, .int i_p0_latestFault, .int i_p0_latestTear])), (a_p0_rules, .inr (6, [.int i_p0_rules_seats, .int i_p0_rules_stirs, .ref a_p0_rules_need, .ref a_p0_rules_kind, .ref a_p0_rules_first, .ref a_p0_rules_second, .ref a_p0_rules_after])), (a_p0_state, .inr (8, [.ref a_p0_state_pieces, .ref a_p0_state_friends, .ref a_p0_state_spoons, .ref a_p0_state_eaten, .ref a_p0_state_seen, .int i_p0_state_seenDays, .int i_p0_state_bone, .int i_p0_state_king, .int i_p0_state_days]))] H := by rw [hH]; exact hP
  rw [← hH]
  clear hH
  unfold f_X11_crown at hf
  refine lv_aload_n hx hb dX11_crown_0 rfl (lv_at hl 0 rfl) ?_
  refine va_get (D := D) (ci := 11) (v := .ref a_p0_rules) (C := RX11) (T := TX11) (N := 15) hx hb hts inX11_crown_X11 hown hK hP 0 rfl rfl 0 (by decide) (hts _ mwX11_crown_1) (fun _ h9 => h9) rfl dX11_crown_1 ?_
  refine lv_iload_n hx hb dX11_crown_4 rfl (lv_at hl 1 rfl) ?_
  have hq := bd1_s hf
  clear hf
  obtain ⟨z1, hcall, hf⟩ := hq
  refine gcI (ws' := [(a_p0, .inr (11, [.ref a_p0_rules, .ref a_p0_state, .ref a_p0_tape, .ref a_p0_reader, .ref a_p0_kitchen, .ref a_p0_luck, .ref a_p0_plans, .ref a_p0_coups, .ref a_p0_past, .ref a_p0_fairDays, .ref a_p0_images, .ref a_p0_imageHeld, .ref a_p0_sheets, .int i_p0_latestFault, .int i_p0_latestTear])), (a_p0_rules, .inr (6, [.int i_p0_rules_seats, .int i_p0_rules_stirs, .ref a_p0_rules_need, .ref a_p0_rules_kind, .ref a_p0_rules_first, .ref a_p0_rules_second, .ref a_p0_rules_after])), (a_p0_state, .inr (8, [.ref a_p0_state_pieces, .ref a_p0_state_friends, .ref a_p0_state_spoons, .ref a_p0_state_eaten, .ref a_p0_state_seen, .int i_p0_state_seenDays, .int i_p0_state_bone, .int i_p0_state_king, .int i_p0_state_days]))]) (va_runV (As := [.int x1]) (rest := []) ⟨hx, hb, hml, hown, hts⟩ (c_X6_hasSeat (l := l) (D := D) (G := G) (sz := H.size) (a_p0 := a_p0_rules) (a_p0_need := a_p0_rules_need) (a_p0_kind := a_p0_rules_kind) (a_p0_first := a_p0_rules_first) (a_p0_second := a_p0_rules_second) (a_p0_after := a_p0_rules_after) (i_p0_seats := i_p0_rules_seats) (i_p0_stirs := i_p0_rules_stirs) (x1 := x1) (r := z1) (hf := hcall)) (cwV 1 hts gX11_crown_X6_hasSeat rfl rfl rfl (by decide +kernel) ⟨Nat.le_of_ble_eq_true rfl, Nat.le_of_ble_eq_true rfl⟩) (preG_V (ci := 6) (hP.sub [1] rfl) (hD.sub [1] rfl rfl) hK rfl rfl) rfl rfl hl.1 rfl (lv_room (Nat.le_of_ble_eq_true rfl)) dX11_crown_5 ⟨Nat.le_of_ble_eq_true rfl, Nat.le_of_ble_eq_true rfl⟩) hP hD hS hA [1] [0, 2] [0, 2, 1] rfl rfl rfl (by decide) rfl rfl rfl (fun H locs hP hD hS => ?_)
  clear hcall
  refine lv_if_ne (tgt := 13) hx hb dX11_crown_8 (by decide) (fun cc => ?_) (fun cc => ?_)
  ·
    replace hf := ite_f cc hf
    clear cc
    refine lv_aload_n hx hb dX11_crown_13 rfl (lv_at hl 0 rfl) ?_
    refine va_get (D := D) (ci := 11) (v := .ref a_p0_state) (C := RX11) (T := TX11) (N := 15) hx hb hts inX11_crown_X11 hown hK hP 0 rfl rfl 1 (by decide) (hts _ mwX11_crown_2) (fun _ h9 => h9) rfl dX11_crown_14 ?_
    refine va_get (D := D) (ci := 8) (v := .int i_p0_state_king) (C := RX8) (T := TX8) (N := 9) hx hb hts inX11_crown_X8 hown hK hP 2 rfl rfl 7 (by decide) (hts _ mwX11_crown_4) (fun _ h9 => h9) rfl dX11_crown_17 ?_
    refine lv_topi (fun z2 ez => ?_)
    replace hf := bnd_s hf ez
    clear ez
    refine lv_istore_n (lv' := [(2, .int z2), (0, .ref a_p0), (1, .int x1)]) hx hb dX11_crown_20 rfl hl (by decide) rfl (fun ls hl => ?_)
    refine lv_aload_n hx hb dX11_crown_21 rfl (lv_at hl 1 rfl) ?_
    refine va_get (D := D) (ci := 11) (v := .ref a_p0_state) (C := RX11) (T := TX11) (N := 15) hx hb hts inX11_crown_X11 hown hK hP 0 rfl rfl 1 (by decide) (hts _ mwX11_crown_2) (fun _ h9 => h9) rfl dX11_crown_22 ?_
    refine lv_iload_n hx hb dX11_crown_25 rfl (lv_at hl 2 rfl) ?_
    refine lv_topi (fun z3 ez => ?_)
    replace hf := bnd_s hf ez
    clear ez
    refine va_put (D := D) (ci := 8) (v := .int z3) (ty := .int) (C := RX8) (T := TX8) (N := 9) hx hb hts inX11_crown_X8 tyX8 tyX8_ok nmX8 hown hK hP hD hS 2 rfl rfl 7 (by decide) (hts _ mwX11_crown_4) (fun _ h9 => h9) rfl (by decide +kernel) rfl rfl (Nat.le_of_ble_eq_true rfl) dX11_crown_26 (fun H locs hP hD hS => ?_)
    have hP : va_P D vwCl [(a_p0, .inr (11, [.ref a_p0_rules, .ref a_p0_state, .ref a_p0_tape, .ref a_p0_reader, .ref a_p0_kitchen, .ref a_p0_luck, .ref a_p0_plans, .ref a_p0_coups, .ref a_p0_past, .ref a_p0_fairDays, .ref a_p0_images, .ref a_p0_imageHeld, .ref a_p0_sheets, .int i_p0_latestFault, .int i_p0_latestTear])), (a_p0_rules, .inr (6, [.int i_p0_rules_seats, .int i_p0_rules_stirs, .ref a_p0_rules_need, .ref a_p0_rules_kind, .ref a_p0_rules_first, .ref a_p0_rules_second, .ref a_p0_rules_after])), (a_p0_state, .inr (8, [.ref a_p0_state_pieces, .ref a_p0_state_friends, .ref a_p0_state_spoons, .ref a_p0_state_eaten, .ref a_p0_state_seen, .int i_p0_state_seenDays, .int i_p0_state_bone, .int z3, .int i_p0_state_days]))] H := hP
    have hD : va_D A [(a_p0, .inr (11, [.ref a_p0_rules, .ref a_p0_state, .ref a_p0_tape, .ref a_p0_reader, .ref a_p0_kitchen, .ref a_p0_luck, .ref a_p0_plans, .ref a_p0_coups, .ref a_p0_past, .ref a_p0_fairDays, .ref a_p0_images, .ref a_p0_imageHeld, .ref a_p0_sheets, .int i_p0_latestFault, .int i_p0_latestTear])), (a_p0_rules, .inr (6, [.int i_p0_rules_seats, .int i_p0_rules_stirs, .ref a_p0_rules_need, .ref a_p0_rules_kind, .ref a_p0_rules_first, .ref a_p0_rules_second, .ref a_p0_rules_after])), (a_p0_state, .inr (8, [.ref a_p0_state_pieces, .ref a_p0_state_friends, .ref a_p0_state_spoons, .ref a_p0_state_eaten, .ref a_p0_state_seen, .int i_p0_state_seenDays, .int i_p0_state_bone, .int z3, .int i_p0_state_days]))] := hD
    refine lv_iload_n hx hb dX11_crown_29 rfl (lv_at hl 0 rfl) ?_
    obtain ⟨rfl, rfl⟩ := ou2 hf
    rw [hQ]
    exact W.iret hx hb hr (fun t ht hW => ⟨⟨_, (), rfl, rfl, by rw [ht]; exact hP, va_K.moved hW.alike hK, hD⟩, hS.F ht⟩) hS.2.2 dX11_crown_30
  ·
    replace hf := ite_t cc hf
    clear cc
    refine lv_iconst (v := (-1 : Int32)) hx hb dX11_crown_11 (by decide) ?_
    obtain ⟨rfl, rfl⟩ := ou2 hf
    rw [hQ]
    exact W.iret hx hb hr (fun t ht hW => ⟨⟨_, (), rfl, rfl, by rw [ht]; exact hP, va_K.moved hW.alike hK, hD⟩, hS.F ht⟩) hS.2.2 dX11_crown_12

noncomputable def f_X11_fill (i_p0_rules_seats : Int32) (v_p0_state_pieces : (Nat → Int32)) (x1 : Int32) (x2 : Int32) : Option (Int32 × (Nat → Int32)) := (bd1 (f_X6_hasSeat i_p0_rules_seats x1) (fun (z1 : Int32) => (if z1 = 0 then (some ((-1 : Int32), v_p0_state_pieces)) else (if x2 < 0 then (some ((-1 : Int32), v_p0_state_pieces)) else (if x2 ≤ (9 : Int32) then (ck (ixB x1 7) (bnd (v_p0_state_pieces (x1).toNatClampNeg) (fun (z2 : Int32) => (ck (ixB x1 7) (bnd (upd v_p0_state_pieces (x1).toNatClampNeg x2) (fun (w3 : (Nat → Int32)) => (some (z2, w3)))))))) else (some ((-1 : Int32), v_p0_state_pieces)))))))
abbrev rm_X11_fill : Room := { frames := 1, cells := 0, slots := 0, locals := 21 }
theorem inX11_fill_X11 : ∀ w ∈ wsX110, w ∈ wsX11_fill := by decide +kernel
theorem mwX11_fill_1 : Cond.fieldLink RX11 10 "LadleKings" "rules" "LLadleKings$Rules;" ∈ wsX11_fill := by decide +kernel
theorem mwX11_fill_2 : Cond.fieldLink RX11 19 "LadleKings" "state" "LLadleKings$State;" ∈ wsX11_fill := by decide +kernel
theorem inX11_fill_X8 : ∀ w ∈ wsX80, w ∈ wsX11_fill := by decide +kernel
theorem mwX11_fill_4 : Cond.fieldLink RX11 149 "LadleKings$State" "pieces" "[I" ∈ wsX11_fill := by decide +kernel
set_option maxHeartbeats 8000000 in
set_option maxRecDepth 100000 in
theorem c_X11_fill (l : Launch) (D : va_G) (G : Nat → ClassId) (sz : Nat) (a_p0 : Nat) (a_p0_rules : Nat) (a_p0_state : Nat) (a_p0_tape : Nat) (a_p0_reader : Nat) (a_p0_kitchen : Nat) (a_p0_luck : Nat) (a_p0_plans : Nat) (a_p0_coups : Nat) (a_p0_past : Nat) (a_p0_fairDays : Nat) (a_p0_images : Nat) (a_p0_imageHeld : Nat) (a_p0_sheets : Nat) (a_p0_rules_need : Nat) (a_p0_rules_kind : Nat) (a_p0_rules_first : Nat) (a_p0_rules_second : Nat) (a_p0_rules_after : Nat) (a_p0_state_pieces : Nat) (a_p0_state_friends : Nat) (a_p0_state_spoons : Nat) (a_p0_state_eaten : Nat) (a_p0_state_seen : Nat) (i_p0_latestFault : Int32) (i_p0_latestTear : Int32) (i_p0_rules_seats : Int32) (i_p0_rules_stirs : Int32) (i_p0_state_seenDays : Int32) (i_p0_state_bone : Int32) (i_p0_state_king : Int32) (i_p0_state_days : Int32) (v_p0_state_pieces : (Nat → Int32)) (x1 : Int32) (x2 : Int32) (r : Int32) (o_v_p0_state_pieces : (Nat → Int32)) (hf : f_X11_fill i_p0_rules_seats v_p0_state_pieces x1 x2 = some (r, o_v_p0_state_pieces)) : Met l yX11_fill wsX11_fill rm_X11_fill (pcG D G [.ref a_p0, .int x1, .int x2] sz [(a_p0, .inr (11, [.ref a_p0_rules, .ref a_p0_state, .ref a_p0_tape, .ref a_p0_reader, .ref a_p0_kitchen, .ref a_p0_luck, .ref a_p0_plans, .ref a_p0_coups, .ref a_p0_past, .ref a_p0_fairDays, .ref a_p0_images, .ref a_p0_imageHeld, .ref a_p0_sheets, .int i_p0_latestFault, .int i_p0_latestTear])), (a_p0_rules, .inr (6, [.int i_p0_rules_seats, .int i_p0_rules_stirs, .ref a_p0_rules_need, .ref a_p0_rules_kind, .ref a_p0_rules_first, .ref a_p0_rules_second, .ref a_p0_rules_after])), (a_p0_state, .inr (8, [.ref a_p0_state_pieces, .ref a_p0_state_friends, .ref a_p0_state_spoons, .ref a_p0_state_eaten, .ref a_p0_state_seen, .int i_p0_state_seenDays, .int i_p0_state_bone, .int i_p0_state_king, .int i_p0_state_days])), (a_p0_state_pieces, .inl (G 1, 7, .inl v_p0_state_pieces))]) (qcI D G r [(a_p0, .inr (11, [.ref a_p0_rules, .ref a_p0_state, .ref a_p0_tape, .ref a_p0_reader, .ref a_p0_kitchen, .ref a_p0_luck, .ref a_p0_plans, .ref a_p0_coups, .ref a_p0_past, .ref a_p0_fairDays, .ref a_p0_images, .ref a_p0_imageHeld, .ref a_p0_sheets, .int i_p0_latestFault, .int i_p0_latestTear])), (a_p0_rules, .inr (6, [.int i_p0_rules_seats, .int i_p0_rules_stirs, .ref a_p0_rules_need, .ref a_p0_rules_kind, .ref a_p0_rules_first, .ref a_p0_rules_second, .ref a_p0_rules_after])), (a_p0_state, .inr (8, [.ref a_p0_state_pieces, .ref a_p0_state_friends, .ref a_p0_state_spoons, .ref a_p0_state_eaten, .ref a_p0_state_seen, .int i_p0_state_seenDays, .int i_p0_state_bone, .int i_p0_state_king, .int i_p0_state_days])), (a_p0_state_pieces, .inl (G 1, 7, .inl o_v_p0_state_pieces))] (va_A [(a_p0, .inr (11, [.ref a_p0_rules, .ref a_p0_state, .ref a_p0_tape, .ref a_p0_reader, .ref a_p0_kitchen, .ref a_p0_luck, .ref a_p0_plans, .ref a_p0_coups, .ref a_p0_past, .ref a_p0_fairDays, .ref a_p0_images, .ref a_p0_imageHeld, .ref a_p0_sheets, .int i_p0_latestFault, .int i_p0_latestTear])), (a_p0_rules, .inr (6, [.int i_p0_rules_seats, .int i_p0_rules_stirs, .ref a_p0_rules_need, .ref a_p0_rules_kind, .ref a_p0_rules_first, .ref a_p0_rules_second, .ref a_p0_rules_after])), (a_p0_state, .inr (8, [.ref a_p0_state_pieces, .ref a_p0_state_friends, .ref a_p0_state_spoons, .ref a_p0_state_eaten, .ref a_p0_state_seen, .int i_p0_state_seenDays, .int i_p0_state_bone, .int i_p0_state_king, .int i_p0_state_days])), (a_p0_state_pieces, .inl (G 1, 7, .inl v_p0_state_pieces))] sz)) 0 0 (va_A [(a_p0, .inr (11, [.ref a_p0_rules, .ref a_p0_state, .ref a_p0_tape, .ref a_p0_reader, .ref a_p0_kitchen, .ref a_p0_luck, .ref a_p0_plans, .ref a_p0_coups, .ref a_p0_past, .ref a_p0_fairDays, .ref a_p0_images, .ref a_p0_imageHeld, .ref a_p0_sheets, .int i_p0_latestFault, .int i_p0_latestTear])), (a_p0_rules, .inr (6, [.int i_p0_rules_seats, .int i_p0_rules_stirs, .ref a_p0_rules_need, .ref a_p0_rules_kind, .ref a_p0_rules_first, .ref a_p0_rules_second, .ref a_p0_rules_after])), (a_p0_state, .inr (8, [.ref a_p0_state_pieces, .ref a_p0_state_friends, .ref a_p0_state_spoons, .ref a_p0_state_eaten, .ref a_p0_state_seen, .int i_p0_state_seenDays, .int i_p0_state_bone, .int i_p0_state_king, .int i_p0_state_days])), (a_p0_state_pieces, .inl (G 1, 7, .inl v_p0_state_pieces))] sz) := by
  refine Met.ofW (cc := cX11_fill) (maxL := 4) (ret := (some .int)) (by decide) rfl ?_
  intro p e s m args below meth c s₁ B hml hv
  obtain ⟨rfl, hsz, hP, hK, hD0⟩ := hv
  have hx := B.exec
  have hb := B.bytes
  have hr := B.returns
  have hts := atoms_spec (ws := wsX11_fill) B.pre
  have hown : s.vm.findClass RX11 = some m.cls := findClass_of_methodNamed B.named
  have hlocks := B.notSynchronized
  subst hsz
  have hD := hD0.self (sz := s.heap.size)
  generalize hAe : va_A [(a_p0, .inr (11, [.ref a_p0_rules, .ref a_p0_state, .ref a_p0_tape, .ref a_p0_reader, .ref a_p0_kitchen, .ref a_p0_luck, .ref a_p0_plans, .ref a_p0_coups, .ref a_p0_past, .ref a_p0_fairDays, .ref a_p0_images, .ref a_p0_imageHeld, .ref a_p0_sheets, .int i_p0_latestFault, .int i_p0_latestTear])), (a_p0_rules, .inr (6, [.int i_p0_rules_seats, .int i_p0_rules_stirs, .ref a_p0_rules_need, .ref a_p0_rules_kind, .ref a_p0_rules_first, .ref a_p0_rules_second, .ref a_p0_rules_after])), (a_p0_state, .inr (8, [.ref a_p0_state_pieces, .ref a_p0_state_friends, .ref a_p0_state_spoons, .ref a_p0_state_eaten, .ref a_p0_state_seen, .int i_p0_state_seenDays, .int i_p0_state_bone, .int i_p0_state_king, .int i_p0_state_days])), (a_p0_state_pieces, .inl (G 1, 7, .inl v_p0_state_pieces))] s.heap.size = A at hD ⊢
  have hA : ∀ q : Nat, s.heap.size ≤ q → A q := fun q h => by rw [← hAe]; exact Or.inr h
  clear hAe hD0
  have hS : va_S A s.heap s.heap [] := va_S.rf
  have hl := lv_entry ([.ref a_p0, .int x1, .int x2]) (n := 4) (Nat.le_of_ble_eq_true rfl)
  rw [lg_entry_eq]
  generalize (lg_sl ([.ref a_p0, .int x1, .int x2]) ++ List.replicate (4 - (lg_sl ([.ref a_p0, .int x1, .int x2])).length) Slot.unset).toArray = ls at hl ⊢
  have hl : lv_has ls 4 [(0, .ref a_p0), (1, .int x1), (2, .int x2)] := hl
  refine W_nameQ (fun Q hQ => ?_)
  obtain ⟨H, hH⟩ : ∃ H, H = s.heap := ⟨_, rfl⟩
  replace hS : va_S A s.heap H [] := by rw [hH]; exact hS
  replace hP : va_P D vwCl [(a_p0, .inr (11, [.ref a_p0_rules, .ref a_p0_state, .ref a_p0_tape, .ref a_p0_reader, .ref a_p0_kitchen, .ref a_p0_luck, .ref a_p0_plans, .ref a_p0_coups, .ref a_p0_past, .ref a_p0_fairDays, .ref a_p0_images, .ref a_p0_imageHeld, .ref a_p0_sheets, .int i_p0_latestFault, .int i_p0_latestTear])), (a_p0_rules, .inr (6, [.int i_p0_rules_seats, .int i_p0_rules_stirs, .ref a_p0_rules_need, .ref a_p0_rules_kind, .ref a_p0_rules_first, .ref a_p0_rules_second, .ref a_p0_rules_after])), (a_p0_state, .inr (8, [.ref a_p0_state_pieces, .ref a_p0_state_friends, .ref a_p0_state_spoons, .ref a_p0_state_eaten, .ref a_p0_state_seen, .int i_p0_state_seenDays, .int i_p0_state_bone, .int i_p0_state_king, .int i_p0_state_days])), (a_p0_state_pieces, .inl (G 1, 7, .inl v_p0_state_pieces))] H := by rw [hH]; exact hP
  rw [← hH]
  clear hH
  unfold f_X11_fill at hf
  refine lv_aload_n hx hb dX11_fill_0 rfl (lv_at hl 0 rfl) ?_
  refine va_get (D := D) (ci := 11) (v := .ref a_p0_rules) (C := RX11) (T := TX11) (N := 15) hx hb hts inX11_fill_X11 hown hK hP 0 rfl rfl 0 (by decide) (hts _ mwX11_fill_1) (fun _ h9 => h9) rfl dX11_fill_1 ?_
  refine lv_iload_n hx hb dX11_fill_4 rfl (lv_at hl 1 rfl) ?_
  have hq := bd1_s hf
  clear hf
  obtain ⟨z1, hcall, hf⟩ := hq
  refine gcI (ws' := [(a_p0, .inr (11, [.ref a_p0_rules, .ref a_p0_state, .ref a_p0_tape, .ref a_p0_reader, .ref a_p0_kitchen, .ref a_p0_luck, .ref a_p0_plans, .ref a_p0_coups, .ref a_p0_past, .ref a_p0_fairDays, .ref a_p0_images, .ref a_p0_imageHeld, .ref a_p0_sheets, .int i_p0_latestFault, .int i_p0_latestTear])), (a_p0_rules, .inr (6, [.int i_p0_rules_seats, .int i_p0_rules_stirs, .ref a_p0_rules_need, .ref a_p0_rules_kind, .ref a_p0_rules_first, .ref a_p0_rules_second, .ref a_p0_rules_after])), (a_p0_state, .inr (8, [.ref a_p0_state_pieces, .ref a_p0_state_friends, .ref a_p0_state_spoons, .ref a_p0_state_eaten, .ref a_p0_state_seen, .int i_p0_state_seenDays, .int i_p0_state_bone, .int i_p0_state_king, .int i_p0_state_days])), (a_p0_state_pieces, .inl (G 1, 7, .inl v_p0_state_pieces))]) (va_runV (As := [.int x1]) (rest := []) ⟨hx, hb, hml, hown, hts⟩ (c_X6_hasSeat (l := l) (D := D) (G := G) (sz := H.size) (a_p0 := a_p0_rules) (a_p0_need := a_p0_rules_need) (a_p0_kind := a_p0_rules_kind) (a_p0_first := a_p0_rules_first) (a_p0_second := a_p0_rules_second) (a_p0_after := a_p0_rules_after) (i_p0_seats := i_p0_rules_seats) (i_p0_stirs := i_p0_rules_stirs) (x1 := x1) (r := z1) (hf := hcall)) (cwV 1 hts gX11_fill_X6_hasSeat rfl rfl rfl (by decide +kernel) ⟨Nat.le_of_ble_eq_true rfl, Nat.le_of_ble_eq_true rfl⟩) (preG_V (ci := 6) (hP.sub [1] rfl) (hD.sub [1] rfl rfl) hK rfl rfl) rfl rfl hl.1 rfl (lv_room (Nat.le_of_ble_eq_true rfl)) dX11_fill_5 ⟨Nat.le_of_ble_eq_true rfl, Nat.le_of_ble_eq_true rfl⟩) hP hD hS hA [1] [0, 2, 3] [0, 3, 1, 2] rfl rfl rfl (by decide) rfl rfl rfl (fun H locs hP hD hS => ?_)
  clear hcall
  refine lv_if_eq (tgt := 21) hx hb dX11_fill_8 (by decide) (fun cc => ?_) (fun cc => ?_)
  ·
    replace hf := ite_t cc hf
    clear cc
    refine lv_iconst (v := (-1 : Int32)) hx hb dX11_fill_21 (by decide) ?_
    obtain ⟨rfl, rfl⟩ := ou2 hf
    rw [hQ]
    exact W.iret hx hb hr (fun t ht hW => ⟨⟨_, (), rfl, rfl, by rw [ht]; exact hP, va_K.moved hW.alike hK, hD⟩, hS.F ht⟩) hS.2.2 dX11_fill_22
  ·
    replace hf := ite_f cc hf
    clear cc
    refine lv_iload_n hx hb dX11_fill_11 rfl (lv_at hl 2 rfl) ?_
    refine lv_if_lt (tgt := 21) hx hb dX11_fill_12 (by decide) (fun cc => ?_) (fun cc => ?_)
    ·
      replace hf := ite_t cc hf
      clear cc
      refine lv_iconst (v := (-1 : Int32)) hx hb dX11_fill_21 (by decide) ?_
      obtain ⟨rfl, rfl⟩ := ou2 hf
      rw [hQ]
      exact W.iret hx hb hr (fun t ht hW => ⟨⟨_, (), rfl, rfl, by rw [ht]; exact hP, va_K.moved hW.alike hK, hD⟩, hS.F ht⟩) hS.2.2 dX11_fill_22
    ·
      replace hf := ite_f cc hf
      clear cc
      refine lv_iload_n hx hb dX11_fill_15 rfl (lv_at hl 2 rfl) ?_
      refine lv_bipush (v := (9 : Int32)) hx hb dX11_fill_16 (by decide) ?_
      refine lv_icmp_le (tgt := 23) hx hb dX11_fill_18 (by decide) (fun cc => ?_) (fun cc => ?_)
      ·
        replace hf := ite_t cc hf
        clear cc
        refine lv_aload_n hx hb dX11_fill_23 rfl (lv_at hl 0 rfl) ?_
        refine va_get (D := D) (ci := 11) (v := .ref a_p0_state) (C := RX11) (T := TX11) (N := 15) hx hb hts inX11_fill_X11 hown hK hP 0 rfl rfl 1 (by decide) (hts _ mwX11_fill_2) (fun _ h9 => h9) rfl dX11_fill_24 ?_
        refine va_get (D := D) (ci := 8) (v := .ref a_p0_state_pieces) (C := RX8) (T := TX8) (N := 9) hx hb hts inX11_fill_X8 hown hK hP 2 rfl rfl 0 (by decide) (hts _ mwX11_fill_4) (fun _ h9 => h9) rfl dX11_fill_27 ?_
        refine lv_iload_n hx hb dX11_fill_30 rfl (lv_at hl 1 rfl) ?_
        have hc := ck_c hf
        replace hf := ck_r hf
        refine va_iald hx hb hK hP 3 1 rfl rfl (ixB_in hc) dX11_fill_31 ?_
        clear hc
        refine lv_topi (fun z2 ez => ?_)
        replace hf := bnd_s hf ez
        clear ez
        refine lv_istore_n (lv' := [(3, .int z2), (0, .ref a_p0), (1, .int x1), (2, .int x2)]) hx hb dX11_fill_32 rfl hl (by decide) rfl (fun ls hl => ?_)
        refine lv_aload_n hx hb dX11_fill_33 rfl (lv_at hl 1 rfl) ?_
        refine va_get (D := D) (ci := 11) (v := .ref a_p0_state) (C := RX11) (T := TX11) (N := 15) hx hb hts inX11_fill_X11 hown hK hP 0 rfl rfl 1 (by decide) (hts _ mwX11_fill_2) (fun _ h9 => h9) rfl dX11_fill_34 ?_
        refine va_get (D := D) (ci := 8) (v := .ref a_p0_state_pieces) (C := RX8) (T := TX8) (N := 9) hx hb hts inX11_fill_X8 hown hK hP 2 rfl rfl 0 (by decide) (hts _ mwX11_fill_4) (fun _ h9 => h9) rfl dX11_fill_37 ?_
        refine lv_iload_n hx hb dX11_fill_40 rfl (lv_at hl 2 rfl) ?_
        refine lv_iload_n hx hb dX11_fill_41 rfl (lv_at hl 3 rfl) ?_
        have hc := ck_c hf
        replace hf := ck_r hf
        refine gs_iast (wf := fun w3 => [(a_p0, .inr (11, [.ref a_p0_rules, .ref a_p0_state, .ref a_p0_tape, .ref a_p0_reader, .ref a_p0_kitchen, .ref a_p0_luck, .ref a_p0_plans, .ref a_p0_coups, .ref a_p0_past, .ref a_p0_fairDays, .ref a_p0_images, .ref a_p0_imageHeld, .ref a_p0_sheets, .int i_p0_latestFault, .int i_p0_latestTear])), (a_p0_rules, .inr (6, [.int i_p0_rules_seats, .int i_p0_rules_stirs, .ref a_p0_rules_need, .ref a_p0_rules_kind, .ref a_p0_rules_first, .ref a_p0_rules_second, .ref a_p0_rules_after])), (a_p0_state, .inr (8, [.ref a_p0_state_pieces, .ref a_p0_state_friends, .ref a_p0_state_spoons, .ref a_p0_state_eaten, .ref a_p0_state_seen, .int i_p0_state_seenDays, .int i_p0_state_bone, .int i_p0_state_king, .int i_p0_state_days])), (a_p0_state_pieces, .inl (G 1, 7, .inl w3))]) hx hb hK hP hD hS 3 1 rfl rfl (ixB_in hc) dX11_fill_42 (fun _ => rfl) (fun w3 ez H locs hP hD hS => ?_)
        replace hf := bnd_s hf ez
        clear ez hc
        refine lv_iload_n hx hb dX11_fill_43 rfl (lv_at hl 0 rfl) ?_
        obtain ⟨rfl, rfl⟩ := ou2 hf
        rw [hQ]
        exact W.iret hx hb hr (fun t ht hW => ⟨⟨_, (), rfl, rfl, by rw [ht]; exact hP, va_K.moved hW.alike hK, hD⟩, hS.F ht⟩) hS.2.2 dX11_fill_44
      ·
        replace hf := ite_f cc hf
        clear cc
        refine lv_iconst (v := (-1 : Int32)) hx hb dX11_fill_21 (by decide) ?_
        obtain ⟨rfl, rfl⟩ := ou2 hf
        rw [hQ]
        exact W.iret hx hb hr (fun t ht hW => ⟨⟨_, (), rfl, rfl, by rw [ht]; exact hP, va_K.moved hW.alike hK, hD⟩, hS.F ht⟩) hS.2.2 dX11_fill_22

noncomputable def f_X11_bowl (i_p0_rules_seats : Int32) (i_p0_rules_stirs : Int32) (x1 : Int32) (x2 : Int32) (x3 : Int32) : Option (Int32) := (bd1 (f_X6_hasSeat i_p0_rules_seats x1) (fun (z1 : Int32) => (if z1 = 0 then (some (-1 : Int32)) else (bd1 (f_X6_hasSeat i_p0_rules_seats x2) (fun (z2 : Int32) => (if z2 = 0 then (some (-1 : Int32)) else (bd1 (f_X6_hasStir i_p0_rules_stirs x3) (fun (z3 : Int32) => (if z3 = 0 then (some (-1 : Int32)) else none)))))))))
abbrev rm_X11_bowl : Room := { frames := 1, cells := 0, slots := 0, locals := 21 }
theorem inX11_bowl_X11 : ∀ w ∈ wsX110, w ∈ wsX11_bowl := by decide +kernel
theorem mwX11_bowl_1 : Cond.fieldLink RX11 10 "LadleKings" "rules" "LLadleKings$Rules;" ∈ wsX11_bowl := by decide +kernel
theorem mwX11_bowl_2 : Cond.fieldLink RX11 44 "LadleKings" "kitchen" "LLadleKings$Kitchen;" ∈ wsX11_bowl := by decide +kernel
set_option maxHeartbeats 8000000 in
set_option maxRecDepth 100000 in
theorem c_X11_bowl (l : Launch) (D : va_G) (G : Nat → ClassId) (sz : Nat) (a_p0 : Nat) (a_p0_rules : Nat) (a_p0_state : Nat) (a_p0_tape : Nat) (a_p0_reader : Nat) (a_p0_kitchen : Nat) (a_p0_luck : Nat) (a_p0_plans : Nat) (a_p0_coups : Nat) (a_p0_past : Nat) (a_p0_fairDays : Nat) (a_p0_images : Nat) (a_p0_imageHeld : Nat) (a_p0_sheets : Nat) (a_p0_rules_need : Nat) (a_p0_rules_kind : Nat) (a_p0_rules_first : Nat) (a_p0_rules_second : Nat) (a_p0_rules_after : Nat) (i_p0_latestFault : Int32) (i_p0_latestTear : Int32) (i_p0_rules_seats : Int32) (i_p0_rules_stirs : Int32) (x1 : Int32) (x2 : Int32) (x3 : Int32) (r : Int32) (hf : f_X11_bowl i_p0_rules_seats i_p0_rules_stirs x1 x2 x3 = some r) : Met l yX11_bowl wsX11_bowl rm_X11_bowl (pcG D G [.ref a_p0, .int x1, .int x2, .int x3] sz [(a_p0, .inr (11, [.ref a_p0_rules, .ref a_p0_state, .ref a_p0_tape, .ref a_p0_reader, .ref a_p0_kitchen, .ref a_p0_luck, .ref a_p0_plans, .ref a_p0_coups, .ref a_p0_past, .ref a_p0_fairDays, .ref a_p0_images, .ref a_p0_imageHeld, .ref a_p0_sheets, .int i_p0_latestFault, .int i_p0_latestTear])), (a_p0_rules, .inr (6, [.int i_p0_rules_seats, .int i_p0_rules_stirs, .ref a_p0_rules_need, .ref a_p0_rules_kind, .ref a_p0_rules_first, .ref a_p0_rules_second, .ref a_p0_rules_after]))]) (qcI D G r [(a_p0, .inr (11, [.ref a_p0_rules, .ref a_p0_state, .ref a_p0_tape, .ref a_p0_reader, .ref a_p0_kitchen, .ref a_p0_luck, .ref a_p0_plans, .ref a_p0_coups, .ref a_p0_past, .ref a_p0_fairDays, .ref a_p0_images, .ref a_p0_imageHeld, .ref a_p0_sheets, .int i_p0_latestFault, .int i_p0_latestTear])), (a_p0_rules, .inr (6, [.int i_p0_rules_seats, .int i_p0_rules_stirs, .ref a_p0_rules_need, .ref a_p0_rules_kind, .ref a_p0_rules_first, .ref a_p0_rules_second, .ref a_p0_rules_after]))] (va_A [(a_p0, .inr (11, [.ref a_p0_rules, .ref a_p0_state, .ref a_p0_tape, .ref a_p0_reader, .ref a_p0_kitchen, .ref a_p0_luck, .ref a_p0_plans, .ref a_p0_coups, .ref a_p0_past, .ref a_p0_fairDays, .ref a_p0_images, .ref a_p0_imageHeld, .ref a_p0_sheets, .int i_p0_latestFault, .int i_p0_latestTear])), (a_p0_rules, .inr (6, [.int i_p0_rules_seats, .int i_p0_rules_stirs, .ref a_p0_rules_need, .ref a_p0_rules_kind, .ref a_p0_rules_first, .ref a_p0_rules_second, .ref a_p0_rules_after]))] sz)) 0 0 (va_A [(a_p0, .inr (11, [.ref a_p0_rules, .ref a_p0_state, .ref a_p0_tape, .ref a_p0_reader, .ref a_p0_kitchen, .ref a_p0_luck, .ref a_p0_plans, .ref a_p0_coups, .ref a_p0_past, .ref a_p0_fairDays, .ref a_p0_images, .ref a_p0_imageHeld, .ref a_p0_sheets, .int i_p0_latestFault, .int i_p0_latestTear])), (a_p0_rules, .inr (6, [.int i_p0_rules_seats, .int i_p0_rules_stirs, .ref a_p0_rules_need, .ref a_p0_rules_kind, .ref a_p0_rules_first, .ref a_p0_rules_second, .ref a_p0_rules_after]))] sz) := by
  refine Met.ofW (cc := cX11_bowl) (maxL := 4) (ret := (some .int)) (by decide) rfl ?_
  intro p e s m args below meth c s₁ B hml hv
  obtain ⟨rfl, hsz, hP, hK, hD0⟩ := hv
  have hx := B.exec
  have hb := B.bytes
  have hr := B.returns
  have hts := atoms_spec (ws := wsX11_bowl) B.pre
  have hown : s.vm.findClass RX11 = some m.cls := findClass_of_methodNamed B.named
  have hlocks := B.notSynchronized
  subst hsz
  have hD := hD0.self (sz := s.heap.size)
  generalize hAe : va_A [(a_p0, .inr (11, [.ref a_p0_rules, .ref a_p0_state, .ref a_p0_tape, .ref a_p0_reader, .ref a_p0_kitchen, .ref a_p0_luck, .ref a_p0_plans, .ref a_p0_coups, .ref a_p0_past, .ref a_p0_fairDays, .ref a_p0_images, .ref a_p0_imageHeld, .ref a_p0_sheets, .int i_p0_latestFault, .int i_p0_latestTear])), (a_p0_rules, .inr (6, [.int i_p0_rules_seats, .int i_p0_rules_stirs, .ref a_p0_rules_need, .ref a_p0_rules_kind, .ref a_p0_rules_first, .ref a_p0_rules_second, .ref a_p0_rules_after]))] s.heap.size = A at hD ⊢
  have hA : ∀ q : Nat, s.heap.size ≤ q → A q := fun q h => by rw [← hAe]; exact Or.inr h
  clear hAe hD0
  have hS : va_S A s.heap s.heap [] := va_S.rf
  have hl := lv_entry ([.ref a_p0, .int x1, .int x2, .int x3]) (n := 4) (Nat.le_of_ble_eq_true rfl)
  rw [lg_entry_eq]
  generalize (lg_sl ([.ref a_p0, .int x1, .int x2, .int x3]) ++ List.replicate (4 - (lg_sl ([.ref a_p0, .int x1, .int x2, .int x3])).length) Slot.unset).toArray = ls at hl ⊢
  have hl : lv_has ls 4 [(0, .ref a_p0), (1, .int x1), (2, .int x2), (3, .int x3)] := hl
  refine W_nameQ (fun Q hQ => ?_)
  obtain ⟨H, hH⟩ : ∃ H, H = s.heap := ⟨_, rfl⟩
  replace hS : va_S A s.heap H [] := by rw [hH]; exact hS
  replace hP : va_P D vwCl [(a_p0, .inr (11, [.ref a_p0_rules, .ref a_p0_state, .ref a_p0_tape, .ref a_p0_reader, .ref a_p0_kitchen, .ref a_p0_luck, .ref a_p0_plans, .ref a_p0_coups, .ref a_p0_past, .ref a_p0_fairDays, .ref a_p0_images, .ref a_p0_imageHeld, .ref a_p0_sheets, .int i_p0_latestFault, .int i_p0_latestTear])), (a_p0_rules, .inr (6, [.int i_p0_rules_seats, .int i_p0_rules_stirs, .ref a_p0_rules_need, .ref a_p0_rules_kind, .ref a_p0_rules_first, .ref a_p0_rules_second, .ref a_p0_rules_after]))] H := by rw [hH]; exact hP
  rw [← hH]
  clear hH
  unfold f_X11_bowl at hf
  refine lv_aload_n hx hb dX11_bowl_0 rfl (lv_at hl 0 rfl) ?_
  refine va_get (D := D) (ci := 11) (v := .ref a_p0_rules) (C := RX11) (T := TX11) (N := 15) hx hb hts inX11_bowl_X11 hown hK hP 0 rfl rfl 0 (by decide) (hts _ mwX11_bowl_1) (fun _ h9 => h9) rfl dX11_bowl_1 ?_
  refine lv_iload_n hx hb dX11_bowl_4 rfl (lv_at hl 1 rfl) ?_
  have hq := bd1_s hf
  clear hf
  obtain ⟨z1, hcall, hf⟩ := hq
  refine gcI (ws' := [(a_p0, .inr (11, [.ref a_p0_rules, .ref a_p0_state, .ref a_p0_tape, .ref a_p0_reader, .ref a_p0_kitchen, .ref a_p0_luck, .ref a_p0_plans, .ref a_p0_coups, .ref a_p0_past, .ref a_p0_fairDays, .ref a_p0_images, .ref a_p0_imageHeld, .ref a_p0_sheets, .int i_p0_latestFault, .int i_p0_latestTear])), (a_p0_rules, .inr (6, [.int i_p0_rules_seats, .int i_p0_rules_stirs, .ref a_p0_rules_need, .ref a_p0_rules_kind, .ref a_p0_rules_first, .ref a_p0_rules_second, .ref a_p0_rules_after]))]) (va_runV (As := [.int x1]) (rest := []) ⟨hx, hb, hml, hown, hts⟩ (c_X6_hasSeat (l := l) (D := D) (G := G) (sz := H.size) (a_p0 := a_p0_rules) (a_p0_need := a_p0_rules_need) (a_p0_kind := a_p0_rules_kind) (a_p0_first := a_p0_rules_first) (a_p0_second := a_p0_rules_second) (a_p0_after := a_p0_rules_after) (i_p0_seats := i_p0_rules_seats) (i_p0_stirs := i_p0_rules_stirs) (x1 := x1) (r := z1) (hf := hcall)) (cwV 1 hts gX11_bowl_X6_hasSeat rfl rfl rfl (by decide +kernel) ⟨Nat.le_of_ble_eq_true rfl, Nat.le_of_ble_eq_true rfl⟩) (preG_V (ci := 6) (hP.sub [1] rfl) (hD.sub [1] rfl rfl) hK rfl rfl) rfl rfl hl.1 rfl (lv_room (Nat.le_of_ble_eq_true rfl)) dX11_bowl_5 ⟨Nat.le_of_ble_eq_true rfl, Nat.le_of_ble_eq_true rfl⟩) hP hD hS hA [1] [0] [0, 1] rfl rfl rfl (by decide) rfl rfl rfl (fun H locs hP hD hS => ?_)
  clear hcall
  refine lv_if_eq (tgt := 33) hx hb dX11_bowl_8 (by decide) (fun cc => ?_) (fun cc => ?_)
  ·
    replace hf := ite_t cc hf
    clear cc
    refine lv_iconst (v := (-1 : Int32)) hx hb dX11_bowl_33 (by decide) ?_
    obtain rfl := ou1 hf
    rw [hQ]
    exact W.iret hx hb hr (fun t ht hW => ⟨⟨_, (), rfl, rfl, by rw [ht]; exact hP, va_K.moved hW.alike hK, hD⟩, hS.F ht⟩) hS.2.2 dX11_bowl_34
  ·
    replace hf := ite_f cc hf
    clear cc
    refine lv_aload_n hx hb dX11_bowl_11 rfl (lv_at hl 0 rfl) ?_
    refine va_get (D := D) (ci := 11) (v := .ref a_p0_rules) (C := RX11) (T := TX11) (N := 15) hx hb hts inX11_bowl_X11 hown hK hP 0 rfl rfl 0 (by decide) (hts _ mwX11_bowl_1) (fun _ h9 => h9) rfl dX11_bowl_12 ?_
    refine lv_iload_n hx hb dX11_bowl_15 rfl (lv_at hl 2 rfl) ?_
    have hq := bd1_s hf
    clear hf
    obtain ⟨z2, hcall, hf⟩ := hq
    refine gcI (ws' := [(a_p0, .inr (11, [.ref a_p0_rules, .ref a_p0_state, .ref a_p0_tape, .ref a_p0_reader, .ref a_p0_kitchen, .ref a_p0_luck, .ref a_p0_plans, .ref a_p0_coups, .ref a_p0_past, .ref a_p0_fairDays, .ref a_p0_images, .ref a_p0_imageHeld, .ref a_p0_sheets, .int i_p0_latestFault, .int i_p0_latestTear])), (a_p0_rules, .inr (6, [.int i_p0_rules_seats, .int i_p0_rules_stirs, .ref a_p0_rules_need, .ref a_p0_rules_kind, .ref a_p0_rules_first, .ref a_p0_rules_second, .ref a_p0_rules_after]))]) (va_runV (As := [.int x2]) (rest := []) ⟨hx, hb, hml, hown, hts⟩ (c_X6_hasSeat (l := l) (D := D) (G := G) (sz := H.size) (a_p0 := a_p0_rules) (a_p0_need := a_p0_rules_need) (a_p0_kind := a_p0_rules_kind) (a_p0_first := a_p0_rules_first) (a_p0_second := a_p0_rules_second) (a_p0_after := a_p0_rules_after) (i_p0_seats := i_p0_rules_seats) (i_p0_stirs := i_p0_rules_stirs) (x1 := x2) (r := z2) (hf := hcall)) (cwV 1 hts gX11_bowl_X6_hasSeat rfl rfl rfl (by decide +kernel) ⟨Nat.le_of_ble_eq_true rfl, Nat.le_of_ble_eq_true rfl⟩) (preG_V (ci := 6) (hP.sub [1] rfl) (hD.sub [1] rfl rfl) hK rfl rfl) rfl rfl hl.1 rfl (lv_room (Nat.le_of_ble_eq_true rfl)) dX11_bowl_16 ⟨Nat.le_of_ble_eq_true rfl, Nat.le_of_ble_eq_true rfl⟩) hP hD hS hA [1] [0] [0, 1] rfl rfl rfl (by decide) rfl rfl rfl (fun H locs hP hD hS => ?_)
    clear hcall
    refine lv_if_eq (tgt := 33) hx hb dX11_bowl_19 (by decide) (fun cc => ?_) (fun cc => ?_)
    ·
      replace hf := ite_t cc hf
      clear cc
      refine lv_iconst (v := (-1 : Int32)) hx hb dX11_bowl_33 (by decide) ?_
      obtain rfl := ou1 hf
      rw [hQ]
      exact W.iret hx hb hr (fun t ht hW => ⟨⟨_, (), rfl, rfl, by rw [ht]; exact hP, va_K.moved hW.alike hK, hD⟩, hS.F ht⟩) hS.2.2 dX11_bowl_34
    ·
      replace hf := ite_f cc hf
      clear cc
      refine lv_aload_n hx hb dX11_bowl_22 rfl (lv_at hl 0 rfl) ?_
      refine va_get (D := D) (ci := 11) (v := .ref a_p0_rules) (C := RX11) (T := TX11) (N := 15) hx hb hts inX11_bowl_X11 hown hK hP 0 rfl rfl 0 (by decide) (hts _ mwX11_bowl_1) (fun _ h9 => h9) rfl dX11_bowl_23 ?_
      refine lv_iload_n hx hb dX11_bowl_26 rfl (lv_at hl 3 rfl) ?_
      have hq := bd1_s hf
      clear hf
      obtain ⟨z3, hcall, hf⟩ := hq
      refine gcI (ws' := [(a_p0, .inr (11, [.ref a_p0_rules, .ref a_p0_state, .ref a_p0_tape, .ref a_p0_reader, .ref a_p0_kitchen, .ref a_p0_luck, .ref a_p0_plans, .ref a_p0_coups, .ref a_p0_past, .ref a_p0_fairDays, .ref a_p0_images, .ref a_p0_imageHeld, .ref a_p0_sheets, .int i_p0_latestFault, .int i_p0_latestTear])), (a_p0_rules, .inr (6, [.int i_p0_rules_seats, .int i_p0_rules_stirs, .ref a_p0_rules_need, .ref a_p0_rules_kind, .ref a_p0_rules_first, .ref a_p0_rules_second, .ref a_p0_rules_after]))]) (va_runV (As := [.int x3]) (rest := []) ⟨hx, hb, hml, hown, hts⟩ (c_X6_hasStir (l := l) (D := D) (G := G) (sz := H.size) (a_p0 := a_p0_rules) (a_p0_need := a_p0_rules_need) (a_p0_kind := a_p0_rules_kind) (a_p0_first := a_p0_rules_first) (a_p0_second := a_p0_rules_second) (a_p0_after := a_p0_rules_after) (i_p0_seats := i_p0_rules_seats) (i_p0_stirs := i_p0_rules_stirs) (x1 := x3) (r := z3) (hf := hcall)) (cwV 1 hts gX11_bowl_X6_hasStir rfl rfl rfl (by decide +kernel) ⟨Nat.le_of_ble_eq_true rfl, Nat.le_of_ble_eq_true rfl⟩) (preG_V (ci := 6) (hP.sub [1] rfl) (hD.sub [1] rfl rfl) hK rfl rfl) rfl rfl hl.1 rfl (lv_room (Nat.le_of_ble_eq_true rfl)) dX11_bowl_27 ⟨Nat.le_of_ble_eq_true rfl, Nat.le_of_ble_eq_true rfl⟩) hP hD hS hA [1] [0] [0, 1] rfl rfl rfl (by decide) rfl rfl rfl (fun H locs hP hD hS => ?_)
      clear hcall
      refine lv_if_ne (tgt := 35) hx hb dX11_bowl_30 (by decide) (fun cc => ?_) (fun cc => ?_)
      ·
        replace hf := ite_f cc hf
        clear cc
        refine lv_aload_n hx hb dX11_bowl_35 rfl (lv_at hl 0 rfl) ?_
        refine va_get (D := D) (ci := 11) (v := .ref a_p0_kitchen) (C := RX11) (T := TX11) (N := 15) hx hb hts inX11_bowl_X11 hown hK hP 0 rfl rfl 4 (by decide) (hts _ mwX11_bowl_2) (fun _ h9 => h9) rfl dX11_bowl_36 ?_
        refine lv_iload_n hx hb dX11_bowl_39 rfl (lv_at hl 1 rfl) ?_
        cases hf
      ·
        replace hf := ite_t cc hf
        clear cc
        refine lv_iconst (v := (-1 : Int32)) hx hb dX11_bowl_33 (by decide) ?_
        obtain rfl := ou1 hf
        rw [hQ]
        exact W.iret hx hb hr (fun t ht hW => ⟨⟨_, (), rfl, rfl, by rw [ht]; exact hP, va_K.moved hW.alike hK, hD⟩, hS.F ht⟩) hS.2.2 dX11_bowl_34

noncomputable def f_X11_ladle (i_p0_rules_seats : Int32) (i_p0_rules_stirs : Int32) (x1 : Int32) (x2 : Int32) (x3 : Int32) : Option (Int32) := (bd1 (f_X6_hasSeat i_p0_rules_seats x1) (fun (z1 : Int32) => (if z1 = 0 then (some (-1 : Int32)) else (bd1 (f_X6_hasSeat i_p0_rules_seats x2) (fun (z2 : Int32) => (if z2 = 0 then (some (-1 : Int32)) else (bd1 (f_X6_hasStir i_p0_rules_stirs x3) (fun (z3 : Int32) => (if z3 = 0 then (some (-1 : Int32)) else none)))))))))
abbrev rm_X11_ladle : Room := { frames := 1, cells := 0, slots := 0, locals := 21 }
theorem inX11_ladle_X11 : ∀ w ∈ wsX110, w ∈ wsX11_ladle := by decide +kernel
theorem mwX11_ladle_1 : Cond.fieldLink RX11 10 "LadleKings" "rules" "LLadleKings$Rules;" ∈ wsX11_ladle := by decide +kernel
theorem mwX11_ladle_2 : Cond.fieldLink RX11 44 "LadleKings" "kitchen" "LLadleKings$Kitchen;" ∈ wsX11_ladle := by decide +kernel
set_option maxHeartbeats 8000000 in
set_option maxRecDepth 100000 in
theorem c_X11_ladle (l : Launch) (D : va_G) (G : Nat → ClassId) (sz : Nat) (a_p0 : Nat) (a_p0_rules : Nat) (a_p0_state : Nat) (a_p0_tape : Nat) (a_p0_reader : Nat) (a_p0_kitchen : Nat) (a_p0_luck : Nat) (a_p0_plans : Nat) (a_p0_coups : Nat) (a_p0_past : Nat) (a_p0_fairDays : Nat) (a_p0_images : Nat) (a_p0_imageHeld : Nat) (a_p0_sheets : Nat) (a_p0_rules_need : Nat) (a_p0_rules_kind : Nat) (a_p0_rules_first : Nat) (a_p0_rules_second : Nat) (a_p0_rules_after : Nat) (i_p0_latestFault : Int32) (i_p0_latestTear : Int32) (i_p0_rules_seats : Int32) (i_p0_rules_stirs : Int32) (x1 : Int32) (x2 : Int32) (x3 : Int32) (r : Int32) (hf : f_X11_ladle i_p0_rules_seats i_p0_rules_stirs x1 x2 x3 = some r) : Met l yX11_ladle wsX11_ladle rm_X11_ladle (pcG D G [.ref a_p0, .int x1, .int x2, .int x3] sz [(a_p0, .inr (11, [.ref a_p0_rules, .ref a_p0_state, .ref a_p0_tape, .ref a_p0_reader, .ref a_p0_kitchen, .ref a_p0_luck, .ref a_p0_plans, .ref a_p0_coups, .ref a_p0_past, .ref a_p0_fairDays, .ref a_p0_images, .ref a_p0_imageHeld, .ref a_p0_sheets, .int i_p0_latestFault, .int i_p0_latestTear])), (a_p0_rules, .inr (6, [.int i_p0_rules_seats, .int i_p0_rules_stirs, .ref a_p0_rules_need, .ref a_p0_rules_kind, .ref a_p0_rules_first, .ref a_p0_rules_second, .ref a_p0_rules_after]))]) (qcI D G r [(a_p0, .inr (11, [.ref a_p0_rules, .ref a_p0_state, .ref a_p0_tape, .ref a_p0_reader, .ref a_p0_kitchen, .ref a_p0_luck, .ref a_p0_plans, .ref a_p0_coups, .ref a_p0_past, .ref a_p0_fairDays, .ref a_p0_images, .ref a_p0_imageHeld, .ref a_p0_sheets, .int i_p0_latestFault, .int i_p0_latestTear])), (a_p0_rules, .inr (6, [.int i_p0_rules_seats, .int i_p0_rules_stirs, .ref a_p0_rules_need, .ref a_p0_rules_kind, .ref a_p0_rules_first, .ref a_p0_rules_second, .ref a_p0_rules_after]))] (va_A [(a_p0, .inr (11, [.ref a_p0_rules, .ref a_p0_state, .ref a_p0_tape, .ref a_p0_reader, .ref a_p0_kitchen, .ref a_p0_luck, .ref a_p0_plans, .ref a_p0_coups, .ref a_p0_past, .ref a_p0_fairDays, .ref a_p0_images, .ref a_p0_imageHeld, .ref a_p0_sheets, .int i_p0_latestFault, .int i_p0_latestTear])), (a_p0_rules, .inr (6, [.int i_p0_rules_seats, .int i_p0_rules_stirs, .ref a_p0_rules_need, .ref a_p0_rules_kind, .ref a_p0_rules_first, .ref a_p0_rules_second, .ref a_p0_rules_after]))] sz)) 0 0 (va_A [(a_p0, .inr (11, [.ref a_p0_rules, .ref a_p0_state, .ref a_p0_tape, .ref a_p0_reader, .ref a_p0_kitchen, .ref a_p0_luck, .ref a_p0_plans, .ref a_p0_coups, .ref a_p0_past, .ref a_p0_fairDays, .ref a_p0_images, .ref a_p0_imageHeld, .ref a_p0_sheets, .int i_p0_latestFault, .int i_p0_latestTear])), (a_p0_rules, .inr (6, [.int i_p0_rules_seats, .int i_p0_rules_stirs, .ref a_p0_rules_need, .ref a_p0_rules_kind, .ref a_p0_rules_first, .ref a_p0_rules_second, .ref a_p0_rules_after]))] sz) := by
  refine Met.ofW (cc := cX11_ladle) (maxL := 4) (ret := (some .int)) (by decide) rfl ?_
  intro p e s m args below meth c s₁ B hml hv
  obtain ⟨rfl, hsz, hP, hK, hD0⟩ := hv
  have hx := B.exec
  have hb := B.bytes
  have hr := B.returns
  have hts := atoms_spec (ws := wsX11_ladle) B.pre
  have hown : s.vm.findClass RX11 = some m.cls := findClass_of_methodNamed B.named
  have hlocks := B.notSynchronized
  subst hsz
  have hD := hD0.self (sz := s.heap.size)
  generalize hAe : va_A [(a_p0, .inr (11, [.ref a_p0_rules, .ref a_p0_state, .ref a_p0_tape, .ref a_p0_reader, .ref a_p0_kitchen, .ref a_p0_luck, .ref a_p0_plans, .ref a_p0_coups, .ref a_p0_past, .ref a_p0_fairDays, .ref a_p0_images, .ref a_p0_imageHeld, .ref a_p0_sheets, .int i_p0_latestFault, .int i_p0_latestTear])), (a_p0_rules, .inr (6, [.int i_p0_rules_seats, .int i_p0_rules_stirs, .ref a_p0_rules_need, .ref a_p0_rules_kind, .ref a_p0_rules_first, .ref a_p0_rules_second, .ref a_p0_rules_after]))] s.heap.size = A at hD ⊢
  have hA : ∀ q : Nat, s.heap.size ≤ q → A q := fun q h => by rw [← hAe]; exact Or.inr h
  clear hAe hD0
  have hS : va_S A s.heap s.heap [] := va_S.rf
  have hl := lv_entry ([.ref a_p0, .int x1, .int x2, .int x3]) (n := 4) (Nat.le_of_ble_eq_true rfl)
  rw [lg_entry_eq]
  generalize (lg_sl ([.ref a_p0, .int x1, .int x2, .int x3]) ++ List.replicate (4 - (lg_sl ([.ref a_p0, .int x1, .int x2, .int x3])).length) Slot.unset).toArray = ls at hl ⊢
  have hl : lv_has ls 4 [(0, .ref a_p0), (1, .int x1), (2, .int x2), (3, .int x3)] := hl
  refine W_nameQ (fun Q hQ => ?_)
  obtain ⟨H, hH⟩ : ∃ H, H = s.heap := ⟨_, rfl⟩
  replace hS : va_S A s.heap H [] := by rw [hH]; exact hS
  replace hP : va_P D vwCl [(a_p0, .inr (11, [.ref a_p0_rules, .ref a_p0_state, .ref a_p0_tape, .ref a_p0_reader, .ref a_p0_kitchen, .ref a_p0_luck, .ref a_p0_plans, .ref a_p0_coups, .ref a_p0_past, .ref a_p0_fairDays, .ref a_p0_images, .ref a_p0_imageHeld, .ref a_p0_sheets, .int i_p0_latestFault, .int i_p0_latestTear])), (a_p0_rules, .inr (6, [.int i_p0_rules_seats, .int i_p0_rules_stirs, .ref a_p0_rules_need, .ref a_p0_rules_kind, .ref a_p0_rules_first, .ref a_p0_rules_second, .ref a_p0_rules_after]))] H := by rw [hH]; exact hP
  rw [← hH]
  clear hH
  unfold f_X11_ladle at hf
  refine lv_aload_n hx hb dX11_ladle_0 rfl (lv_at hl 0 rfl) ?_
  refine va_get (D := D) (ci := 11) (v := .ref a_p0_rules) (C := RX11) (T := TX11) (N := 15) hx hb hts inX11_ladle_X11 hown hK hP 0 rfl rfl 0 (by decide) (hts _ mwX11_ladle_1) (fun _ h9 => h9) rfl dX11_ladle_1 ?_
  refine lv_iload_n hx hb dX11_ladle_4 rfl (lv_at hl 1 rfl) ?_
  have hq := bd1_s hf
  clear hf
  obtain ⟨z1, hcall, hf⟩ := hq
  refine gcI (ws' := [(a_p0, .inr (11, [.ref a_p0_rules, .ref a_p0_state, .ref a_p0_tape, .ref a_p0_reader, .ref a_p0_kitchen, .ref a_p0_luck, .ref a_p0_plans, .ref a_p0_coups, .ref a_p0_past, .ref a_p0_fairDays, .ref a_p0_images, .ref a_p0_imageHeld, .ref a_p0_sheets, .int i_p0_latestFault, .int i_p0_latestTear])), (a_p0_rules, .inr (6, [.int i_p0_rules_seats, .int i_p0_rules_stirs, .ref a_p0_rules_need, .ref a_p0_rules_kind, .ref a_p0_rules_first, .ref a_p0_rules_second, .ref a_p0_rules_after]))]) (va_runV (As := [.int x1]) (rest := []) ⟨hx, hb, hml, hown, hts⟩ (c_X6_hasSeat (l := l) (D := D) (G := G) (sz := H.size) (a_p0 := a_p0_rules) (a_p0_need := a_p0_rules_need) (a_p0_kind := a_p0_rules_kind) (a_p0_first := a_p0_rules_first) (a_p0_second := a_p0_rules_second) (a_p0_after := a_p0_rules_after) (i_p0_seats := i_p0_rules_seats) (i_p0_stirs := i_p0_rules_stirs) (x1 := x1) (r := z1) (hf := hcall)) (cwV 1 hts gX11_ladle_X6_hasSeat rfl rfl rfl (by decide +kernel) ⟨Nat.le_of_ble_eq_true rfl, Nat.le_of_ble_eq_true rfl⟩) (preG_V (ci := 6) (hP.sub [1] rfl) (hD.sub [1] rfl rfl) hK rfl rfl) rfl rfl hl.1 rfl (lv_room (Nat.le_of_ble_eq_true rfl)) dX11_ladle_5 ⟨Nat.le_of_ble_eq_true rfl, Nat.le_of_ble_eq_true rfl⟩) hP hD hS hA [1] [0] [0, 1] rfl rfl rfl (by decide) rfl rfl rfl (fun H locs hP hD hS => ?_)
  clear hcall
  refine lv_if_eq (tgt := 33) hx hb dX11_ladle_8 (by decide) (fun cc => ?_) (fun cc => ?_)
  ·
    replace hf := ite_t cc hf
    clear cc
    refine lv_iconst (v := (-1 : Int32)) hx hb dX11_ladle_33 (by decide) ?_
    obtain rfl := ou1 hf
    rw [hQ]
    exact W.iret hx hb hr (fun t ht hW => ⟨⟨_, (), rfl, rfl, by rw [ht]; exact hP, va_K.moved hW.alike hK, hD⟩, hS.F ht⟩) hS.2.2 dX11_ladle_34
  ·
    replace hf := ite_f cc hf
    clear cc
    refine lv_aload_n hx hb dX11_ladle_11 rfl (lv_at hl 0 rfl) ?_
    refine va_get (D := D) (ci := 11) (v := .ref a_p0_rules) (C := RX11) (T := TX11) (N := 15) hx hb hts inX11_ladle_X11 hown hK hP 0 rfl rfl 0 (by decide) (hts _ mwX11_ladle_1) (fun _ h9 => h9) rfl dX11_ladle_12 ?_
    refine lv_iload_n hx hb dX11_ladle_15 rfl (lv_at hl 2 rfl) ?_
    have hq := bd1_s hf
    clear hf
    obtain ⟨z2, hcall, hf⟩ := hq
    refine gcI (ws' := [(a_p0, .inr (11, [.ref a_p0_rules, .ref a_p0_state, .ref a_p0_tape, .ref a_p0_reader, .ref a_p0_kitchen, .ref a_p0_luck, .ref a_p0_plans, .ref a_p0_coups, .ref a_p0_past, .ref a_p0_fairDays, .ref a_p0_images, .ref a_p0_imageHeld, .ref a_p0_sheets, .int i_p0_latestFault, .int i_p0_latestTear])), (a_p0_rules, .inr (6, [.int i_p0_rules_seats, .int i_p0_rules_stirs, .ref a_p0_rules_need, .ref a_p0_rules_kind, .ref a_p0_rules_first, .ref a_p0_rules_second, .ref a_p0_rules_after]))]) (va_runV (As := [.int x2]) (rest := []) ⟨hx, hb, hml, hown, hts⟩ (c_X6_hasSeat (l := l) (D := D) (G := G) (sz := H.size) (a_p0 := a_p0_rules) (a_p0_need := a_p0_rules_need) (a_p0_kind := a_p0_rules_kind) (a_p0_first := a_p0_rules_first) (a_p0_second := a_p0_rules_second) (a_p0_after := a_p0_rules_after) (i_p0_seats := i_p0_rules_seats) (i_p0_stirs := i_p0_rules_stirs) (x1 := x2) (r := z2) (hf := hcall)) (cwV 1 hts gX11_ladle_X6_hasSeat rfl rfl rfl (by decide +kernel) ⟨Nat.le_of_ble_eq_true rfl, Nat.le_of_ble_eq_true rfl⟩) (preG_V (ci := 6) (hP.sub [1] rfl) (hD.sub [1] rfl rfl) hK rfl rfl) rfl rfl hl.1 rfl (lv_room (Nat.le_of_ble_eq_true rfl)) dX11_ladle_16 ⟨Nat.le_of_ble_eq_true rfl, Nat.le_of_ble_eq_true rfl⟩) hP hD hS hA [1] [0] [0, 1] rfl rfl rfl (by decide) rfl rfl rfl (fun H locs hP hD hS => ?_)
    clear hcall
    refine lv_if_eq (tgt := 33) hx hb dX11_ladle_19 (by decide) (fun cc => ?_) (fun cc => ?_)
    ·
      replace hf := ite_t cc hf
      clear cc
      refine lv_iconst (v := (-1 : Int32)) hx hb dX11_ladle_33 (by decide) ?_
      obtain rfl := ou1 hf
      rw [hQ]
      exact W.iret hx hb hr (fun t ht hW => ⟨⟨_, (), rfl, rfl, by rw [ht]; exact hP, va_K.moved hW.alike hK, hD⟩, hS.F ht⟩) hS.2.2 dX11_ladle_34
    ·
      replace hf := ite_f cc hf
      clear cc
      refine lv_aload_n hx hb dX11_ladle_22 rfl (lv_at hl 0 rfl) ?_
      refine va_get (D := D) (ci := 11) (v := .ref a_p0_rules) (C := RX11) (T := TX11) (N := 15) hx hb hts inX11_ladle_X11 hown hK hP 0 rfl rfl 0 (by decide) (hts _ mwX11_ladle_1) (fun _ h9 => h9) rfl dX11_ladle_23 ?_
      refine lv_iload_n hx hb dX11_ladle_26 rfl (lv_at hl 3 rfl) ?_
      have hq := bd1_s hf
      clear hf
      obtain ⟨z3, hcall, hf⟩ := hq
      refine gcI (ws' := [(a_p0, .inr (11, [.ref a_p0_rules, .ref a_p0_state, .ref a_p0_tape, .ref a_p0_reader, .ref a_p0_kitchen, .ref a_p0_luck, .ref a_p0_plans, .ref a_p0_coups, .ref a_p0_past, .ref a_p0_fairDays, .ref a_p0_images, .ref a_p0_imageHeld, .ref a_p0_sheets, .int i_p0_latestFault, .int i_p0_latestTear])), (a_p0_rules, .inr (6, [.int i_p0_rules_seats, .int i_p0_rules_stirs, .ref a_p0_rules_need, .ref a_p0_rules_kind, .ref a_p0_rules_first, .ref a_p0_rules_second, .ref a_p0_rules_after]))]) (va_runV (As := [.int x3]) (rest := []) ⟨hx, hb, hml, hown, hts⟩ (c_X6_hasStir (l := l) (D := D) (G := G) (sz := H.size) (a_p0 := a_p0_rules) (a_p0_need := a_p0_rules_need) (a_p0_kind := a_p0_rules_kind) (a_p0_first := a_p0_rules_first) (a_p0_second := a_p0_rules_second) (a_p0_after := a_p0_rules_after) (i_p0_seats := i_p0_rules_seats) (i_p0_stirs := i_p0_rules_stirs) (x1 := x3) (r := z3) (hf := hcall)) (cwV 1 hts gX11_ladle_X6_hasStir rfl rfl rfl (by decide +kernel) ⟨Nat.le_of_ble_eq_true rfl, Nat.le_of_ble_eq_true rfl⟩) (preG_V (ci := 6) (hP.sub [1] rfl) (hD.sub [1] rfl rfl) hK rfl rfl) rfl rfl hl.1 rfl (lv_room (Nat.le_of_ble_eq_true rfl)) dX11_ladle_27 ⟨Nat.le_of_ble_eq_true rfl, Nat.le_of_ble_eq_true rfl⟩) hP hD hS hA [1] [0] [0, 1] rfl rfl rfl (by decide) rfl rfl rfl (fun H locs hP hD hS => ?_)
      clear hcall
      refine lv_if_ne (tgt := 35) hx hb dX11_ladle_30 (by decide) (fun cc => ?_) (fun cc => ?_)
      ·
        replace hf := ite_f cc hf
        clear cc
        refine lv_aload_n hx hb dX11_ladle_35 rfl (lv_at hl 0 rfl) ?_
        refine va_get (D := D) (ci := 11) (v := .ref a_p0_kitchen) (C := RX11) (T := TX11) (N := 15) hx hb hts inX11_ladle_X11 hown hK hP 0 rfl rfl 4 (by decide) (hts _ mwX11_ladle_2) (fun _ h9 => h9) rfl dX11_ladle_36 ?_
        refine lv_iload_n hx hb dX11_ladle_39 rfl (lv_at hl 1 rfl) ?_
        cases hf
      ·
        replace hf := ite_t cc hf
        clear cc
        refine lv_iconst (v := (-1 : Int32)) hx hb dX11_ladle_33 (by decide) ?_
        obtain rfl := ou1 hf
        rw [hQ]
        exact W.iret hx hb hr (fun t ht hW => ⟨⟨_, (), rfl, rfl, by rw [ht]; exact hP, va_K.moved hW.alike hK, hD⟩, hS.F ht⟩) hS.2.2 dX11_ladle_34

noncomputable def f_X11_next (i_p0_rules_seats : Int32) (i_p0_rules_stirs : Int32) (x1 : Int32) (x2 : Int32) : Option (Int32) := (bd1 (f_X6_hasSeat i_p0_rules_seats x1) (fun (z1 : Int32) => (if z1 = 0 then (some (-1 : Int32)) else (bd1 (f_X6_hasStir i_p0_rules_stirs x2) (fun (z2 : Int32) => (if z2 = 0 then (some (-1 : Int32)) else none))))))
abbrev rm_X11_next : Room := { frames := 1, cells := 0, slots := 0, locals := 21 }
theorem inX11_next_X11 : ∀ w ∈ wsX110, w ∈ wsX11_next := by decide +kernel
theorem mwX11_next_1 : Cond.fieldLink RX11 10 "LadleKings" "rules" "LLadleKings$Rules;" ∈ wsX11_next := by decide +kernel
theorem mwX11_next_2 : Cond.fieldLink RX11 44 "LadleKings" "kitchen" "LLadleKings$Kitchen;" ∈ wsX11_next := by decide +kernel
set_option maxHeartbeats 8000000 in
set_option maxRecDepth 100000 in
theorem c_X11_next (l : Launch) (D : va_G) (G : Nat → ClassId) (sz : Nat) (a_p0 : Nat) (a_p0_rules : Nat) (a_p0_state : Nat) (a_p0_tape : Nat) (a_p0_reader : Nat) (a_p0_kitchen : Nat) (a_p0_luck : Nat) (a_p0_plans : Nat) (a_p0_coups : Nat) (a_p0_past : Nat) (a_p0_fairDays : Nat) (a_p0_images : Nat) (a_p0_imageHeld : Nat) (a_p0_sheets : Nat) (a_p0_rules_need : Nat) (a_p0_rules_kind : Nat) (a_p0_rules_first : Nat) (a_p0_rules_second : Nat) (a_p0_rules_after : Nat) (i_p0_latestFault : Int32) (i_p0_latestTear : Int32) (i_p0_rules_seats : Int32) (i_p0_rules_stirs : Int32) (x1 : Int32) (x2 : Int32) (r : Int32) (hf : f_X11_next i_p0_rules_seats i_p0_rules_stirs x1 x2 = some r) : Met l yX11_next wsX11_next rm_X11_next (pcG D G [.ref a_p0, .int x1, .int x2] sz [(a_p0, .inr (11, [.ref a_p0_rules, .ref a_p0_state, .ref a_p0_tape, .ref a_p0_reader, .ref a_p0_kitchen, .ref a_p0_luck, .ref a_p0_plans, .ref a_p0_coups, .ref a_p0_past, .ref a_p0_fairDays, .ref a_p0_images, .ref a_p0_imageHeld, .ref a_p0_sheets, .int i_p0_latestFault, .int i_p0_latestTear])), (a_p0_rules, .inr (6, [.int i_p0_rules_seats, .int i_p0_rules_stirs, .ref a_p0_rules_need, .ref a_p0_rules_kind, .ref a_p0_rules_first, .ref a_p0_rules_second, .ref a_p0_rules_after]))]) (qcI D G r [(a_p0, .inr (11, [.ref a_p0_rules, .ref a_p0_state, .ref a_p0_tape, .ref a_p0_reader, .ref a_p0_kitchen, .ref a_p0_luck, .ref a_p0_plans, .ref a_p0_coups, .ref a_p0_past, .ref a_p0_fairDays, .ref a_p0_images, .ref a_p0_imageHeld, .ref a_p0_sheets, .int i_p0_latestFault, .int i_p0_latestTear])), (a_p0_rules, .inr (6, [.int i_p0_rules_seats, .int i_p0_rules_stirs, .ref a_p0_rules_need, .ref a_p0_rules_kind, .ref a_p0_rules_first, .ref a_p0_rules_second, .ref a_p0_rules_after]))] (va_A [(a_p0, .inr (11, [.ref a_p0_rules, .ref a_p0_state, .ref a_p0_tape, .ref a_p0_reader, .ref a_p0_kitchen, .ref a_p0_luck, .ref a_p0_plans, .ref a_p0_coups, .ref a_p0_past, .ref a_p0_fairDays, .ref a_p0_images, .ref a_p0_imageHeld, .ref a_p0_sheets, .int i_p0_latestFault, .int i_p0_latestTear])), (a_p0_rules, .inr (6, [.int i_p0_rules_seats, .int i_p0_rules_stirs, .ref a_p0_rules_need, .ref a_p0_rules_kind, .ref a_p0_rules_first, .ref a_p0_rules_second, .ref a_p0_rules_after]))] sz)) 0 0 (va_A [(a_p0, .inr (11, [.ref a_p0_rules, .ref a_p0_state, .ref a_p0_tape, .ref a_p0_reader, .ref a_p0_kitchen, .ref a_p0_luck, .ref a_p0_plans, .ref a_p0_coups, .ref a_p0_past, .ref a_p0_fairDays, .ref a_p0_images, .ref a_p0_imageHeld, .ref a_p0_sheets, .int i_p0_latestFault, .int i_p0_latestTear])), (a_p0_rules, .inr (6, [.int i_p0_rules_seats, .int i_p0_rules_stirs, .ref a_p0_rules_need, .ref a_p0_rules_kind, .ref a_p0_rules_first, .ref a_p0_rules_second, .ref a_p0_rules_after]))] sz) := by
  refine Met.ofW (cc := cX11_next) (maxL := 3) (ret := (some .int)) (by decide) rfl ?_
  intro p e s m args below meth c s₁ B hml hv
  obtain ⟨rfl, hsz, hP, hK, hD0⟩ := hv
  have hx := B.exec
  have hb := B.bytes
  have hr := B.returns
  have hts := atoms_spec (ws := wsX11_next) B.pre
  have hown : s.vm.findClass RX11 = some m.cls := findClass_of_methodNamed B.named
  have hlocks := B.notSynchronized
  subst hsz
  have hD := hD0.self (sz := s.heap.size)
  generalize hAe : va_A [(a_p0, .inr (11, [.ref a_p0_rules, .ref a_p0_state, .ref a_p0_tape, .ref a_p0_reader, .ref a_p0_kitchen, .ref a_p0_luck, .ref a_p0_plans, .ref a_p0_coups, .ref a_p0_past, .ref a_p0_fairDays, .ref a_p0_images, .ref a_p0_imageHeld, .ref a_p0_sheets, .int i_p0_latestFault, .int i_p0_latestTear])), (a_p0_rules, .inr (6, [.int i_p0_rules_seats, .int i_p0_rules_stirs, .ref a_p0_rules_need, .ref a_p0_rules_kind, .ref a_p0_rules_first, .ref a_p0_rules_second, .ref a_p0_rules_after]))] s.heap.size = A at hD ⊢
  have hA : ∀ q : Nat, s.heap.size ≤ q → A q := fun q h => by rw [← hAe]; exact Or.inr h
  clear hAe hD0
  have hS : va_S A s.heap s.heap [] := va_S.rf
  have hl := lv_entry ([.ref a_p0, .int x1, .int x2]) (n := 3) (Nat.le_of_ble_eq_true rfl)
  rw [lg_entry_eq]
  generalize (lg_sl ([.ref a_p0, .int x1, .int x2]) ++ List.replicate (3 - (lg_sl ([.ref a_p0, .int x1, .int x2])).length) Slot.unset).toArray = ls at hl ⊢
  have hl : lv_has ls 3 [(0, .ref a_p0), (1, .int x1), (2, .int x2)] := hl
  refine W_nameQ (fun Q hQ => ?_)
  obtain ⟨H, hH⟩ : ∃ H, H = s.heap := ⟨_, rfl⟩
  replace hS : va_S A s.heap H [] := by rw [hH]; exact hS
  replace hP : va_P D vwCl [(a_p0, .inr (11, [.ref a_p0_rules, .ref a_p0_state, .ref a_p0_tape, .ref a_p0_reader, .ref a_p0_kitchen, .ref a_p0_luck, .ref a_p0_plans, .ref a_p0_coups, .ref a_p0_past, .ref a_p0_fairDays, .ref a_p0_images, .ref a_p0_imageHeld, .ref a_p0_sheets, .int i_p0_latestFault, .int i_p0_latestTear])), (a_p0_rules, .inr (6, [.int i_p0_rules_seats, .int i_p0_rules_stirs, .ref a_p0_rules_need, .ref a_p0_rules_kind, .ref a_p0_rules_first, .ref a_p0_rules_second, .ref a_p0_rules_after]))] H := by rw [hH]; exact hP
  rw [← hH]
  clear hH
  unfold f_X11_next at hf
  refine lv_aload_n hx hb dX11_next_0 rfl (lv_at hl 0 rfl) ?_
  refine va_get (D := D) (ci := 11) (v := .ref a_p0_rules) (C := RX11) (T := TX11) (N := 15) hx hb hts inX11_next_X11 hown hK hP 0 rfl rfl 0 (by decide) (hts _ mwX11_next_1) (fun _ h9 => h9) rfl dX11_next_1 ?_
  refine lv_iload_n hx hb dX11_next_4 rfl (lv_at hl 1 rfl) ?_
  have hq := bd1_s hf
  clear hf
  obtain ⟨z1, hcall, hf⟩ := hq
  refine gcI (ws' := [(a_p0, .inr (11, [.ref a_p0_rules, .ref a_p0_state, .ref a_p0_tape, .ref a_p0_reader, .ref a_p0_kitchen, .ref a_p0_luck, .ref a_p0_plans, .ref a_p0_coups, .ref a_p0_past, .ref a_p0_fairDays, .ref a_p0_images, .ref a_p0_imageHeld, .ref a_p0_sheets, .int i_p0_latestFault, .int i_p0_latestTear])), (a_p0_rules, .inr (6, [.int i_p0_rules_seats, .int i_p0_rules_stirs, .ref a_p0_rules_need, .ref a_p0_rules_kind, .ref a_p0_rules_first, .ref a_p0_rules_second, .ref a_p0_rules_after]))]) (va_runV (As := [.int x1]) (rest := []) ⟨hx, hb, hml, hown, hts⟩ (c_X6_hasSeat (l := l) (D := D) (G := G) (sz := H.size) (a_p0 := a_p0_rules) (a_p0_need := a_p0_rules_need) (a_p0_kind := a_p0_rules_kind) (a_p0_first := a_p0_rules_first) (a_p0_second := a_p0_rules_second) (a_p0_after := a_p0_rules_after) (i_p0_seats := i_p0_rules_seats) (i_p0_stirs := i_p0_rules_stirs) (x1 := x1) (r := z1) (hf := hcall)) (cwV 1 hts gX11_next_X6_hasSeat rfl rfl rfl (by decide +kernel) ⟨Nat.le_of_ble_eq_true rfl, Nat.le_of_ble_eq_true rfl⟩) (preG_V (ci := 6) (hP.sub [1] rfl) (hD.sub [1] rfl rfl) hK rfl rfl) rfl rfl hl.1 rfl (lv_room (Nat.le_of_ble_eq_true rfl)) dX11_next_5 ⟨Nat.le_of_ble_eq_true rfl, Nat.le_of_ble_eq_true rfl⟩) hP hD hS hA [1] [0] [0, 1] rfl rfl rfl (by decide) rfl rfl rfl (fun H locs hP hD hS => ?_)
  clear hcall
  refine lv_if_eq (tgt := 22) hx hb dX11_next_8 (by decide) (fun cc => ?_) (fun cc => ?_)
  ·
    replace hf := ite_t cc hf
    clear cc
    refine lv_iconst (v := (-1 : Int32)) hx hb dX11_next_22 (by decide) ?_
    obtain rfl := ou1 hf
    rw [hQ]
    exact W.iret hx hb hr (fun t ht hW => ⟨⟨_, (), rfl, rfl, by rw [ht]; exact hP, va_K.moved hW.alike hK, hD⟩, hS.F ht⟩) hS.2.2 dX11_next_23
  ·
    replace hf := ite_f cc hf
    clear cc
    refine lv_aload_n hx hb dX11_next_11 rfl (lv_at hl 0 rfl) ?_
    refine va_get (D := D) (ci := 11) (v := .ref a_p0_rules) (C := RX11) (T := TX11) (N := 15) hx hb hts inX11_next_X11 hown hK hP 0 rfl rfl 0 (by decide) (hts _ mwX11_next_1) (fun _ h9 => h9) rfl dX11_next_12 ?_
    refine lv_iload_n hx hb dX11_next_15 rfl (lv_at hl 2 rfl) ?_
    have hq := bd1_s hf
    clear hf
    obtain ⟨z2, hcall, hf⟩ := hq
    refine gcI (ws' := [(a_p0, .inr (11, [.ref a_p0_rules, .ref a_p0_state, .ref a_p0_tape, .ref a_p0_reader, .ref a_p0_kitchen, .ref a_p0_luck, .ref a_p0_plans, .ref a_p0_coups, .ref a_p0_past, .ref a_p0_fairDays, .ref a_p0_images, .ref a_p0_imageHeld, .ref a_p0_sheets, .int i_p0_latestFault, .int i_p0_latestTear])), (a_p0_rules, .inr (6, [.int i_p0_rules_seats, .int i_p0_rules_stirs, .ref a_p0_rules_need, .ref a_p0_rules_kind, .ref a_p0_rules_first, .ref a_p0_rules_second, .ref a_p0_rules_after]))]) (va_runV (As := [.int x2]) (rest := []) ⟨hx, hb, hml, hown, hts⟩ (c_X6_hasStir (l := l) (D := D) (G := G) (sz := H.size) (a_p0 := a_p0_rules) (a_p0_need := a_p0_rules_need) (a_p0_kind := a_p0_rules_kind) (a_p0_first := a_p0_rules_first) (a_p0_second := a_p0_rules_second) (a_p0_after := a_p0_rules_after) (i_p0_seats := i_p0_rules_seats) (i_p0_stirs := i_p0_rules_stirs) (x1 := x2) (r := z2) (hf := hcall)) (cwV 1 hts gX11_next_X6_hasStir rfl rfl rfl (by decide +kernel) ⟨Nat.le_of_ble_eq_true rfl, Nat.le_of_ble_eq_true rfl⟩) (preG_V (ci := 6) (hP.sub [1] rfl) (hD.sub [1] rfl rfl) hK rfl rfl) rfl rfl hl.1 rfl (lv_room (Nat.le_of_ble_eq_true rfl)) dX11_next_16 ⟨Nat.le_of_ble_eq_true rfl, Nat.le_of_ble_eq_true rfl⟩) hP hD hS hA [1] [0] [0, 1] rfl rfl rfl (by decide) rfl rfl rfl (fun H locs hP hD hS => ?_)
    clear hcall
    refine lv_if_ne (tgt := 24) hx hb dX11_next_19 (by decide) (fun cc => ?_) (fun cc => ?_)
    ·
      replace hf := ite_f cc hf
      clear cc
      refine lv_aload_n hx hb dX11_next_24 rfl (lv_at hl 0 rfl) ?_
      refine va_get (D := D) (ci := 11) (v := .ref a_p0_kitchen) (C := RX11) (T := TX11) (N := 15) hx hb hts inX11_next_X11 hown hK hP 0 rfl rfl 4 (by decide) (hts _ mwX11_next_2) (fun _ h9 => h9) rfl dX11_next_25 ?_
      refine lv_iload_n hx hb dX11_next_28 rfl (lv_at hl 1 rfl) ?_
      cases hf
    ·
      replace hf := ite_t cc hf
      clear cc
      refine lv_iconst (v := (-1 : Int32)) hx hb dX11_next_22 (by decide) ?_
      obtain rfl := ou1 hf
      rw [hQ]
      exact W.iret hx hb hr (fun t ht hW => ⟨⟨_, (), rfl, rfl, by rw [ht]; exact hP, va_K.moved hW.alike hK, hD⟩, hS.F ht⟩) hS.2.2 dX11_next_23

noncomputable def f_X11_day (i_p0_rules_stirs : Int32) (i_p0_state_days : Int32) (x1 : Int32) : Option (Int32) := (bd1 (f_X6_hasStir i_p0_rules_stirs x1) (fun (z1 : Int32) => (if z1 = 0 then (some (-1 : Int32)) else (if i_p0_state_days < (999 : Int32) then none else (some (-3 : Int32))))))
abbrev rm_X11_day : Room := { frames := 1, cells := 0, slots := 0, locals := 21 }
theorem inX11_day_X11 : ∀ w ∈ wsX110, w ∈ wsX11_day := by decide +kernel
theorem mwX11_day_1 : Cond.fieldLink RX11 10 "LadleKings" "rules" "LLadleKings$Rules;" ∈ wsX11_day := by decide +kernel
theorem mwX11_day_2 : Cond.fieldLink RX11 19 "LadleKings" "state" "LLadleKings$State;" ∈ wsX11_day := by decide +kernel
theorem inX11_day_X8 : ∀ w ∈ wsX80, w ∈ wsX11_day := by decide +kernel
theorem mwX11_day_4 : Cond.fieldLink RX11 139 "LadleKings$State" "days" "I" ∈ wsX11_day := by decide +kernel
theorem mwX11_day_5 : Cond.fieldLink RX11 44 "LadleKings" "kitchen" "LLadleKings$Kitchen;" ∈ wsX11_day := by decide +kernel
set_option maxHeartbeats 8000000 in
set_option maxRecDepth 100000 in
theorem c_X11_day (l : Launch) (D : va_G) (G : Nat → ClassId) (sz : Nat) (a_p0 : Nat) (a_p0_rules : Nat) (a_p0_state : Nat) (a_p0_tape : Nat) (a_p0_reader : Nat) (a_p0_kitchen : Nat) (a_p0_luck : Nat) (a_p0_plans : Nat) (a_p0_coups : Nat) (a_p0_past : Nat) (a_p0_fairDays : Nat) (a_p0_images : Nat) (a_p0_imageHeld : Nat) (a_p0_sheets : Nat) (a_p0_rules_need : Nat) (a_p0_rules_kind : Nat) (a_p0_rules_first : Nat) (a_p0_rules_second : Nat) (a_p0_rules_after : Nat) (a_p0_state_pieces : Nat) (a_p0_state_friends : Nat) (a_p0_state_spoons : Nat) (a_p0_state_eaten : Nat) (a_p0_state_seen : Nat) (i_p0_latestFault : Int32) (i_p0_latestTear : Int32) (i_p0_rules_seats : Int32) (i_p0_rules_stirs : Int32) (i_p0_state_seenDays : Int32) (i_p0_state_bone : Int32) (i_p0_state_king : Int32) (i_p0_state_days : Int32) (x1 : Int32) (r : Int32) (hf : f_X11_day i_p0_rules_stirs i_p0_state_days x1 = some r) : Met l yX11_day wsX11_day rm_X11_day (pcG D G [.ref a_p0, .int x1] sz [(a_p0, .inr (11, [.ref a_p0_rules, .ref a_p0_state, .ref a_p0_tape, .ref a_p0_reader, .ref a_p0_kitchen, .ref a_p0_luck, .ref a_p0_plans, .ref a_p0_coups, .ref a_p0_past, .ref a_p0_fairDays, .ref a_p0_images, .ref a_p0_imageHeld, .ref a_p0_sheets, .int i_p0_latestFault, .int i_p0_latestTear])), (a_p0_rules, .inr (6, [.int i_p0_rules_seats, .int i_p0_rules_stirs, .ref a_p0_rules_need, .ref a_p0_rules_kind, .ref a_p0_rules_first, .ref a_p0_rules_second, .ref a_p0_rules_after])), (a_p0_state, .inr (8, [.ref a_p0_state_pieces, .ref a_p0_state_friends, .ref a_p0_state_spoons, .ref a_p0_state_eaten, .ref a_p0_state_seen, .int i_p0_state_seenDays, .int i_p0_state_bone, .int i_p0_state_king, .int i_p0_state_days]))]) (qcI D G r [(a_p0, .inr (11, [.ref a_p0_rules, .ref a_p0_state, .ref a_p0_tape, .ref a_p0_reader, .ref a_p0_kitchen, .ref a_p0_luck, .ref a_p0_plans, .ref a_p0_coups, .ref a_p0_past, .ref a_p0_fairDays, .ref a_p0_images, .ref a_p0_imageHeld, .ref a_p0_sheets, .int i_p0_latestFault, .int i_p0_latestTear])), (a_p0_rules, .inr (6, [.int i_p0_rules_seats, .int i_p0_rules_stirs, .ref a_p0_rules_need, .ref a_p0_rules_kind, .ref a_p0_rules_first, .ref a_p0_rules_second, .ref a_p0_rules_after])), (a_p0_state, .inr (8, [.ref a_p0_state_pieces, .ref a_p0_state_friends, .ref a_p0_state_spoons, .ref a_p0_state_eaten, .ref a_p0_state_seen, .int i_p0_state_seenDays, .int i_p0_state_bone, .int i_p0_state_king, .int i_p0_state_days]))] (va_A [(a_p0, .inr (11, [.ref a_p0_rules, .ref a_p0_state, .ref a_p0_tape, .ref a_p0_reader, .ref a_p0_kitchen, .ref a_p0_luck, .ref a_p0_plans, .ref a_p0_coups, .ref a_p0_past, .ref a_p0_fairDays, .ref a_p0_images, .ref a_p0_imageHeld, .ref a_p0_sheets, .int i_p0_latestFault, .int i_p0_latestTear])), (a_p0_rules, .inr (6, [.int i_p0_rules_seats, .int i_p0_rules_stirs, .ref a_p0_rules_need, .ref a_p0_rules_kind, .ref a_p0_rules_first, .ref a_p0_rules_second, .ref a_p0_rules_after])), (a_p0_state, .inr (8, [.ref a_p0_state_pieces, .ref a_p0_state_friends, .ref a_p0_state_spoons, .ref a_p0_state_eaten, .ref a_p0_state_seen, .int i_p0_state_seenDays, .int i_p0_state_bone, .int i_p0_state_king, .int i_p0_state_days]))] sz)) 0 0 (va_A [(a_p0, .inr (11, [.ref a_p0_rules, .ref a_p0_state, .ref a_p0_tape, .ref a_p0_reader, .ref a_p0_kitchen, .ref a_p0_luck, .ref a_p0_plans, .ref a_p0_coups, .ref a_p0_past, .ref a_p0_fairDays, .ref a_p0_images, .ref a_p0_imageHeld, .ref a_p0_sheets, .int i_p0_latestFault, .int i_p0_latestTear])), (a_p0_rules, .inr (6, [.int i_p0_rules_seats, .int i_p0_rules_stirs, .ref a_p0_rules_need, .ref a_p0_rules_kind, .ref a_p0_rules_first, .ref a_p0_rules_second, .ref a_p0_rules_after])), (a_p0_state, .inr (8, [.ref a_p0_state_pieces, .ref a_p0_state_friends, .ref a_p0_state_spoons, .ref a_p0_state_eaten, .ref a_p0_state_seen, .int i_p0_state_seenDays, .int i_p0_state_bone, .int i_p0_state_king, .int i_p0_state_days]))] sz) := by
  refine Met.ofW (cc := cX11_day) (maxL := 2) (ret := (some .int)) (by decide) rfl ?_
  intro p e s m args below meth c s₁ B hml hv
  obtain ⟨rfl, hsz, hP, hK, hD0⟩ := hv
  have hx := B.exec
  have hb := B.bytes
  have hr := B.returns
  have hts := atoms_spec (ws := wsX11_day) B.pre
  have hown : s.vm.findClass RX11 = some m.cls := findClass_of_methodNamed B.named
  have hlocks := B.notSynchronized
  subst hsz
  have hD := hD0.self (sz := s.heap.size)
  generalize hAe : va_A [(a_p0, .inr (11, [.ref a_p0_rules, .ref a_p0_state, .ref a_p0_tape, .ref a_p0_reader, .ref a_p0_kitchen, .ref a_p0_luck, .ref a_p0_plans, .ref a_p0_coups, .ref a_p0_past, .ref a_p0_fairDays, .ref a_p0_images, .ref a_p0_imageHeld, .ref a_p0_sheets, .int i_p0_latestFault, .int i_p0_latestTear])), (a_p0_rules, .inr (6, [.int i_p0_rules_seats, .int i_p0_rules_stirs, .ref a_p0_rules_need, .ref a_p0_rules_kind, .ref a_p0_rules_first, .ref a_p0_rules_second, .ref a_p0_rules_after])), (a_p0_state, .inr (8, [.ref a_p0_state_pieces, .ref a_p0_state_friends, .ref a_p0_state_spoons, .ref a_p0_state_eaten, .ref a_p0_state_seen, .int i_p0_state_seenDays, .int i_p0_state_bone, .int i_p0_state_king, .int i_p0_state_days]))] s.heap.size = A at hD ⊢
  have hA : ∀ q : Nat, s.heap.size ≤ q → A q := fun q h => by rw [← hAe]; exact Or.inr h
  clear hAe hD0
  have hS : va_S A s.heap s.heap [] := va_S.rf
  have hl := lv_entry ([.ref a_p0, .int x1]) (n := 2) (Nat.le_of_ble_eq_true rfl)
  rw [lg_entry_eq]
  generalize (lg_sl ([.ref a_p0, .int x1]) ++ List.replicate (2 - (lg_sl ([.ref a_p0, .int x1])).length) Slot.unset).toArray = ls at hl ⊢
  have hl : lv_has ls 2 [(0, .ref a_p0), (1, .int x1)] := hl
  refine W_nameQ (fun Q hQ => ?_)
  obtain ⟨H, hH⟩ : ∃ H, H = s.heap := ⟨_, rfl⟩
  replace hS : va_S A s.heap H [] := by rw [hH]; exact hS
  replace hP : va_P D vwCl [(a_p0, .inr (11, [.ref a_p0_rules, .ref a_p0_state, .ref a_p0_tape, .ref a_p0_reader, .ref a_p0_kitchen, .ref a_p0_luck, .ref a_p0_plans, .ref a_p0_coups, .ref a_p0_past, .ref a_p0_fairDays, .ref a_p0_images, .ref a_p0_imageHeld, .ref a_p0_sheets, .int i_p0_latestFault, .int i_p0_latestTear])), (a_p0_rules, .inr (6, [.int i_p0_rules_seats, .int i_p0_rules_stirs, .ref a_p0_rules_need, .ref a_p0_rules_kind, .ref a_p0_rules_first, .ref a_p0_rules_second, .ref a_p0_rules_after])), (a_p0_state, .inr (8, [.ref a_p0_state_pieces, .ref a_p0_state_friends, .ref a_p0_state_spoons, .ref a_p0_state_eaten, .ref a_p0_state_seen, .int i_p0_state_seenDays, .int i_p0_state_bone, .int i_p0_state_king, .int i_p0_state_days]))] H := by rw [hH]; exact hP
  rw [← hH]
  clear hH
  unfold f_X11_day at hf
  refine lv_aload_n hx hb dX11_day_0 rfl (lv_at hl 0 rfl) ?_
  refine va_get (D := D) (ci := 11) (v := .ref a_p0_rules) (C := RX11) (T := TX11) (N := 15) hx hb hts inX11_day_X11 hown hK hP 0 rfl rfl 0 (by decide) (hts _ mwX11_day_1) (fun _ h9 => h9) rfl dX11_day_1 ?_
  refine lv_iload_n hx hb dX11_day_4 rfl (lv_at hl 1 rfl) ?_
  have hq := bd1_s hf
  clear hf
  obtain ⟨z1, hcall, hf⟩ := hq
  refine gcI (ws' := [(a_p0, .inr (11, [.ref a_p0_rules, .ref a_p0_state, .ref a_p0_tape, .ref a_p0_reader, .ref a_p0_kitchen, .ref a_p0_luck, .ref a_p0_plans, .ref a_p0_coups, .ref a_p0_past, .ref a_p0_fairDays, .ref a_p0_images, .ref a_p0_imageHeld, .ref a_p0_sheets, .int i_p0_latestFault, .int i_p0_latestTear])), (a_p0_rules, .inr (6, [.int i_p0_rules_seats, .int i_p0_rules_stirs, .ref a_p0_rules_need, .ref a_p0_rules_kind, .ref a_p0_rules_first, .ref a_p0_rules_second, .ref a_p0_rules_after])), (a_p0_state, .inr (8, [.ref a_p0_state_pieces, .ref a_p0_state_friends, .ref a_p0_state_spoons, .ref a_p0_state_eaten, .ref a_p0_state_seen, .int i_p0_state_seenDays, .int i_p0_state_bone, .int i_p0_state_king, .int i_p0_state_days]))]) (va_runV (As := [.int x1]) (rest := []) ⟨hx, hb, hml, hown, hts⟩ (c_X6_hasStir (l := l) (D := D) (G := G) (sz := H.size) (a_p0 := a_p0_rules) (a_p0_need := a_p0_rules_need) (a_p0_kind := a_p0_rules_kind) (a_p0_first := a_p0_rules_first) (a_p0_second := a_p0_rules_second) (a_p0_after := a_p0_rules_after) (i_p0_seats := i_p0_rules_seats) (i_p0_stirs := i_p0_rules_stirs) (x1 := x1) (r := z1) (hf := hcall)) (cwV 1 hts gX11_day_X6_hasStir rfl rfl rfl (by decide +kernel) ⟨Nat.le_of_ble_eq_true rfl, Nat.le_of_ble_eq_true rfl⟩) (preG_V (ci := 6) (hP.sub [1] rfl) (hD.sub [1] rfl rfl) hK rfl rfl) rfl rfl hl.1 rfl (lv_room (Nat.le_of_ble_eq_true rfl)) dX11_day_5 ⟨Nat.le_of_ble_eq_true rfl, Nat.le_of_ble_eq_true rfl⟩) hP hD hS hA [1] [0, 2] [0, 2, 1] rfl rfl rfl (by decide) rfl rfl rfl (fun H locs hP hD hS => ?_)
  clear hcall
  refine lv_if_ne (tgt := 13) hx hb dX11_day_8 (by decide) (fun cc => ?_) (fun cc => ?_)
  ·
    replace hf := ite_f cc hf
    clear cc
    refine lv_aload_n hx hb dX11_day_13 rfl (lv_at hl 0 rfl) ?_
    refine va_get (D := D) (ci := 11) (v := .ref a_p0_state) (C := RX11) (T := TX11) (N := 15) hx hb hts inX11_day_X11 hown hK hP 0 rfl rfl 1 (by decide) (hts _ mwX11_day_2) (fun _ h9 => h9) rfl dX11_day_14 ?_
    refine va_get (D := D) (ci := 8) (v := .int i_p0_state_days) (C := RX8) (T := TX8) (N := 9) hx hb hts inX11_day_X8 hown hK hP 2 rfl rfl 8 (by decide) (hts _ mwX11_day_4) (fun _ h9 => h9) rfl dX11_day_17 ?_
    refine lv_sipush (v := (999 : Int32)) hx hb dX11_day_20 (by decide) ?_
    refine lv_icmp_lt (tgt := 29) hx hb dX11_day_23 (by decide) (fun cc => ?_) (fun cc => ?_)
    ·
      replace hf := ite_t cc hf
      clear cc
      refine lv_aload_n hx hb dX11_day_29 rfl (lv_at hl 0 rfl) ?_
      refine va_get (D := D) (ci := 11) (v := .ref a_p0_kitchen) (C := RX11) (T := TX11) (N := 15) hx hb hts inX11_day_X11 hown hK hP 0 rfl rfl 4 (by decide) (hts _ mwX11_day_5) (fun _ h9 => h9) rfl dX11_day_30 ?_
      refine lv_iload_n hx hb dX11_day_33 rfl (lv_at hl 1 rfl) ?_
      cases hf
    ·
      replace hf := ite_f cc hf
      clear cc
      refine lv_bipush (v := (-3 : Int32)) hx hb dX11_day_26 (by decide) ?_
      obtain rfl := ou1 hf
      rw [hQ]
      exact W.iret hx hb hr (fun t ht hW => ⟨⟨_, (), rfl, rfl, by rw [ht]; exact hP, va_K.moved hW.alike hK, hD⟩, hS.F ht⟩) hS.2.2 dX11_day_28
  ·
    replace hf := ite_t cc hf
    clear cc
    refine lv_iconst (v := (-1 : Int32)) hx hb dX11_day_11 (by decide) ?_
    obtain rfl := ou1 hf
    rw [hQ]
    exact W.iret hx hb hr (fun t ht hW => ⟨⟨_, (), rfl, rfl, by rw [ht]; exact hP, va_K.moved hW.alike hK, hD⟩, hS.F ht⟩) hS.2.2 dX11_day_12

noncomputable def B_X11_hungry_4 (i_p0_rules_seats : Int32) (v_p0_rules_need : (Nat → Int32)) (i_p0_state_days : Int32) (v_p0_state_eaten : (Nat → Int32)) (again4 : Int32 → Int32 → Option (Int32)) (z3 : Int32) (z4 : Int32) : Option (Int32) := (if i_p0_rules_seats ≤ z3 then (some z4) else (ck (ixB z3 7) (ck (ixB z3 7) (if ((v_p0_rules_need (z3).toNatClampNeg) * i_p0_state_days) ≤ (v_p0_state_eaten (z3).toNatClampNeg) then (bnd (z3 + (1 : Int32)) (fun (z6 : Int32) => (again4 z6 z4))) else (bnd (z4 ||| ((1 : Int32) <<< (z3 &&& 31))) (fun (z7 : Int32) => (bnd (z3 + (1 : Int32)) (fun (z8 : Int32) => (again4 z8 z7)))))))))
noncomputable def f_X11_hungry (i_p0_rules_seats : Int32) (v_p0_rules_need : (Nat → Int32)) (i_p0_state_days : Int32) (v_p0_state_eaten : (Nat → Int32)) : Option (Int32) := (bnd (0 : Int32) (fun (z1 : Int32) => (bnd (0 : Int32) (fun (z2 : Int32) => (lq2 (B_X11_hungry_4 i_p0_rules_seats v_p0_rules_need i_p0_state_days v_p0_state_eaten) 1000 z2 z1)))))
abbrev rm_X11_hungry : Room := { frames := 0, cells := 0, slots := 0, locals := 0 }
theorem inX11_hungry_X11 : ∀ w ∈ wsX110, w ∈ wsX11_hungry := by decide +kernel
theorem mwX11_hungry_1 : Cond.fieldLink RX11 10 "LadleKings" "rules" "LLadleKings$Rules;" ∈ wsX11_hungry := by decide +kernel
theorem inX11_hungry_X6 : ∀ w ∈ wsX60, w ∈ wsX11_hungry := by decide +kernel
theorem mwX11_hungry_3 : Cond.fieldLink RX11 130 "LadleKings$Rules" "seats" "I" ∈ wsX11_hungry := by decide +kernel
theorem mwX11_hungry_4 : Cond.fieldLink RX11 19 "LadleKings" "state" "LLadleKings$State;" ∈ wsX11_hungry := by decide +kernel
theorem inX11_hungry_X8 : ∀ w ∈ wsX80, w ∈ wsX11_hungry := by decide +kernel
theorem mwX11_hungry_6 : Cond.fieldLink RX11 162 "LadleKings$State" "eaten" "[I" ∈ wsX11_hungry := by decide +kernel
theorem mwX11_hungry_7 : Cond.fieldLink RX11 159 "LadleKings$Rules" "need" "[I" ∈ wsX11_hungry := by decide +kernel
theorem mwX11_hungry_8 : Cond.fieldLink RX11 139 "LadleKings$State" "days" "I" ∈ wsX11_hungry := by decide +kernel
set_option maxHeartbeats 8000000 in
set_option maxRecDepth 100000 in
theorem c_X11_hungry (l : Launch) (D : va_G) (G : Nat → ClassId) (sz : Nat) (a_p0 : Nat) (a_p0_rules : Nat) (a_p0_state : Nat) (a_p0_tape : Nat) (a_p0_reader : Nat) (a_p0_kitchen : Nat) (a_p0_luck : Nat) (a_p0_plans : Nat) (a_p0_coups : Nat) (a_p0_past : Nat) (a_p0_fairDays : Nat) (a_p0_images : Nat) (a_p0_imageHeld : Nat) (a_p0_sheets : Nat) (a_p0_rules_need : Nat) (a_p0_rules_kind : Nat) (a_p0_rules_first : Nat) (a_p0_rules_second : Nat) (a_p0_rules_after : Nat) (a_p0_state_pieces : Nat) (a_p0_state_friends : Nat) (a_p0_state_spoons : Nat) (a_p0_state_eaten : Nat) (a_p0_state_seen : Nat) (i_p0_latestFault : Int32) (i_p0_latestTear : Int32) (i_p0_rules_seats : Int32) (i_p0_rules_stirs : Int32) (v_p0_rules_need : (Nat → Int32)) (i_p0_state_seenDays : Int32) (i_p0_state_bone : Int32) (i_p0_state_king : Int32) (i_p0_state_days : Int32) (v_p0_state_eaten : (Nat → Int32)) (r : Int32) (hf : f_X11_hungry i_p0_rules_seats v_p0_rules_need i_p0_state_days v_p0_state_eaten = some r) : Met l yX11_hungry wsX11_hungry rm_X11_hungry (pcG D G [.ref a_p0] sz [(a_p0, .inr (11, [.ref a_p0_rules, .ref a_p0_state, .ref a_p0_tape, .ref a_p0_reader, .ref a_p0_kitchen, .ref a_p0_luck, .ref a_p0_plans, .ref a_p0_coups, .ref a_p0_past, .ref a_p0_fairDays, .ref a_p0_images, .ref a_p0_imageHeld, .ref a_p0_sheets, .int i_p0_latestFault, .int i_p0_latestTear])), (a_p0_rules, .inr (6, [.int i_p0_rules_seats, .int i_p0_rules_stirs, .ref a_p0_rules_need, .ref a_p0_rules_kind, .ref a_p0_rules_first, .ref a_p0_rules_second, .ref a_p0_rules_after])), (a_p0_rules_need, .inl (G 1, 7, .inl v_p0_rules_need)), (a_p0_state, .inr (8, [.ref a_p0_state_pieces, .ref a_p0_state_friends, .ref a_p0_state_spoons, .ref a_p0_state_eaten, .ref a_p0_state_seen, .int i_p0_state_seenDays, .int i_p0_state_bone, .int i_p0_state_king, .int i_p0_state_days])), (a_p0_state_eaten, .inl (G 1, 7, .inl v_p0_state_eaten))]) (qcI D G r [(a_p0, .inr (11, [.ref a_p0_rules, .ref a_p0_state, .ref a_p0_tape, .ref a_p0_reader, .ref a_p0_kitchen, .ref a_p0_luck, .ref a_p0_plans, .ref a_p0_coups, .ref a_p0_past, .ref a_p0_fairDays, .ref a_p0_images, .ref a_p0_imageHeld, .ref a_p0_sheets, .int i_p0_latestFault, .int i_p0_latestTear])), (a_p0_rules, .inr (6, [.int i_p0_rules_seats, .int i_p0_rules_stirs, .ref a_p0_rules_need, .ref a_p0_rules_kind, .ref a_p0_rules_first, .ref a_p0_rules_second, .ref a_p0_rules_after])), (a_p0_rules_need, .inl (G 1, 7, .inl v_p0_rules_need)), (a_p0_state, .inr (8, [.ref a_p0_state_pieces, .ref a_p0_state_friends, .ref a_p0_state_spoons, .ref a_p0_state_eaten, .ref a_p0_state_seen, .int i_p0_state_seenDays, .int i_p0_state_bone, .int i_p0_state_king, .int i_p0_state_days])), (a_p0_state_eaten, .inl (G 1, 7, .inl v_p0_state_eaten))] (va_A [(a_p0, .inr (11, [.ref a_p0_rules, .ref a_p0_state, .ref a_p0_tape, .ref a_p0_reader, .ref a_p0_kitchen, .ref a_p0_luck, .ref a_p0_plans, .ref a_p0_coups, .ref a_p0_past, .ref a_p0_fairDays, .ref a_p0_images, .ref a_p0_imageHeld, .ref a_p0_sheets, .int i_p0_latestFault, .int i_p0_latestTear])), (a_p0_rules, .inr (6, [.int i_p0_rules_seats, .int i_p0_rules_stirs, .ref a_p0_rules_need, .ref a_p0_rules_kind, .ref a_p0_rules_first, .ref a_p0_rules_second, .ref a_p0_rules_after])), (a_p0_rules_need, .inl (G 1, 7, .inl v_p0_rules_need)), (a_p0_state, .inr (8, [.ref a_p0_state_pieces, .ref a_p0_state_friends, .ref a_p0_state_spoons, .ref a_p0_state_eaten, .ref a_p0_state_seen, .int i_p0_state_seenDays, .int i_p0_state_bone, .int i_p0_state_king, .int i_p0_state_days])), (a_p0_state_eaten, .inl (G 1, 7, .inl v_p0_state_eaten))] sz)) 0 0 (va_A [(a_p0, .inr (11, [.ref a_p0_rules, .ref a_p0_state, .ref a_p0_tape, .ref a_p0_reader, .ref a_p0_kitchen, .ref a_p0_luck, .ref a_p0_plans, .ref a_p0_coups, .ref a_p0_past, .ref a_p0_fairDays, .ref a_p0_images, .ref a_p0_imageHeld, .ref a_p0_sheets, .int i_p0_latestFault, .int i_p0_latestTear])), (a_p0_rules, .inr (6, [.int i_p0_rules_seats, .int i_p0_rules_stirs, .ref a_p0_rules_need, .ref a_p0_rules_kind, .ref a_p0_rules_first, .ref a_p0_rules_second, .ref a_p0_rules_after])), (a_p0_rules_need, .inl (G 1, 7, .inl v_p0_rules_need)), (a_p0_state, .inr (8, [.ref a_p0_state_pieces, .ref a_p0_state_friends, .ref a_p0_state_spoons, .ref a_p0_state_eaten, .ref a_p0_state_seen, .int i_p0_state_seenDays, .int i_p0_state_bone, .int i_p0_state_king, .int i_p0_state_days])), (a_p0_state_eaten, .inl (G 1, 7, .inl v_p0_state_eaten))] sz) := by
  refine Met.ofW (cc := cX11_hungry) (maxL := 3) (ret := (some .int)) (by decide) rfl ?_
  intro p e s m args below meth c s₁ B hml hv
  obtain ⟨rfl, hsz, hP, hK, hD0⟩ := hv
  have hx := B.exec
  have hb := B.bytes
  have hr := B.returns
  have hts := atoms_spec (ws := wsX11_hungry) B.pre
  have hown : s.vm.findClass RX11 = some m.cls := findClass_of_methodNamed B.named
  have hlocks := B.notSynchronized
  subst hsz
  have hD := hD0.self (sz := s.heap.size)
  generalize hAe : va_A [(a_p0, .inr (11, [.ref a_p0_rules, .ref a_p0_state, .ref a_p0_tape, .ref a_p0_reader, .ref a_p0_kitchen, .ref a_p0_luck, .ref a_p0_plans, .ref a_p0_coups, .ref a_p0_past, .ref a_p0_fairDays, .ref a_p0_images, .ref a_p0_imageHeld, .ref a_p0_sheets, .int i_p0_latestFault, .int i_p0_latestTear])), (a_p0_rules, .inr (6, [.int i_p0_rules_seats, .int i_p0_rules_stirs, .ref a_p0_rules_need, .ref a_p0_rules_kind, .ref a_p0_rules_first, .ref a_p0_rules_second, .ref a_p0_rules_after])), (a_p0_rules_need, .inl (G 1, 7, .inl v_p0_rules_need)), (a_p0_state, .inr (8, [.ref a_p0_state_pieces, .ref a_p0_state_friends, .ref a_p0_state_spoons, .ref a_p0_state_eaten, .ref a_p0_state_seen, .int i_p0_state_seenDays, .int i_p0_state_bone, .int i_p0_state_king, .int i_p0_state_days])), (a_p0_state_eaten, .inl (G 1, 7, .inl v_p0_state_eaten))] s.heap.size = A at hD ⊢
  have hA : ∀ q : Nat, s.heap.size ≤ q → A q := fun q h => by rw [← hAe]; exact Or.inr h
  clear hAe hD0
  have hS : va_S A s.heap s.heap [] := va_S.rf
  have hl := lv_entry ([.ref a_p0]) (n := 3) (Nat.le_of_ble_eq_true rfl)
  rw [lg_entry_eq]
  generalize (lg_sl ([.ref a_p0]) ++ List.replicate (3 - (lg_sl ([.ref a_p0])).length) Slot.unset).toArray = ls at hl ⊢
  have hl : lv_has ls 3 [(0, .ref a_p0)] := hl
  refine W_nameQ (fun Q hQ => ?_)
  obtain ⟨H, hH⟩ : ∃ H, H = s.heap := ⟨_, rfl⟩
  replace hS : va_S A s.heap H [] := by rw [hH]; exact hS
  replace hP : va_P D vwCl [(a_p0, .inr (11, [.ref a_p0_rules, .ref a_p0_state, .ref a_p0_tape, .ref a_p0_reader, .ref a_p0_kitchen, .ref a_p0_luck, .ref a_p0_plans, .ref a_p0_coups, .ref a_p0_past, .ref a_p0_fairDays, .ref a_p0_images, .ref a_p0_imageHeld, .ref a_p0_sheets, .int i_p0_latestFault, .int i_p0_latestTear])), (a_p0_rules, .inr (6, [.int i_p0_rules_seats, .int i_p0_rules_stirs, .ref a_p0_rules_need, .ref a_p0_rules_kind, .ref a_p0_rules_first, .ref a_p0_rules_second, .ref a_p0_rules_after])), (a_p0_rules_need, .inl (G 1, 7, .inl v_p0_rules_need)), (a_p0_state, .inr (8, [.ref a_p0_state_pieces, .ref a_p0_state_friends, .ref a_p0_state_spoons, .ref a_p0_state_eaten, .ref a_p0_state_seen, .int i_p0_state_seenDays, .int i_p0_state_bone, .int i_p0_state_king, .int i_p0_state_days])), (a_p0_state_eaten, .inl (G 1, 7, .inl v_p0_state_eaten))] H := by rw [hH]; exact hP
  rw [← hH]
  clear hH
  unfold f_X11_hungry at hf
  refine lv_iconst (v := (0 : Int32)) hx hb dX11_hungry_0 (by decide) ?_
  refine lv_topi (fun z1 ez => ?_)
  replace hf := bnd_s hf ez
  clear ez
  refine lv_istore_n (lv' := [(1, .int z1), (0, .ref a_p0)]) hx hb dX11_hungry_1 rfl hl (by decide) rfl (fun ls hl => ?_)
  refine lv_iconst (v := (0 : Int32)) hx hb dX11_hungry_2 (by decide) ?_
  refine lv_topi (fun z2 ez => ?_)
  replace hf := bnd_s hf ez
  clear ez
  refine lv_istore_n (lv' := [(2, .int z2), (1, .int z1), (0, .ref a_p0)]) hx hb dX11_hungry_3 rfl hl (by decide) rfl (fun ls hl => ?_)
  have hq := lq2_i hf
  clear hf
  obtain ⟨B5, eB5, NB5, hf⟩ := hq
  have hB5 : ∀ (n : Nat) (z3 : Int32) (z4 : Int32) (ls : Array Slot) (H : Heap) (locs : List Loc), lv_has ls 3 [(2, .int z3), (1, .int z4), (0, .ref a_p0)] → va_P D vwCl [(a_p0, .inr (11, [.ref a_p0_rules, .ref a_p0_state, .ref a_p0_tape, .ref a_p0_reader, .ref a_p0_kitchen, .ref a_p0_luck, .ref a_p0_plans, .ref a_p0_coups, .ref a_p0_past, .ref a_p0_fairDays, .ref a_p0_images, .ref a_p0_imageHeld, .ref a_p0_sheets, .int i_p0_latestFault, .int i_p0_latestTear])), (a_p0_rules, .inr (6, [.int i_p0_rules_seats, .int i_p0_rules_stirs, .ref a_p0_rules_need, .ref a_p0_rules_kind, .ref a_p0_rules_first, .ref a_p0_rules_second, .ref a_p0_rules_after])), (a_p0_rules_need, .inl (G 1, 7, .inl v_p0_rules_need)), (a_p0_state, .inr (8, [.ref a_p0_state_pieces, .ref a_p0_state_friends, .ref a_p0_state_spoons, .ref a_p0_state_eaten, .ref a_p0_state_seen, .int i_p0_state_seenDays, .int i_p0_state_bone, .int i_p0_state_king, .int i_p0_state_days])), (a_p0_state_eaten, .inl (G 1, 7, .inl v_p0_state_eaten))] H → va_D A [(a_p0, .inr (11, [.ref a_p0_rules, .ref a_p0_state, .ref a_p0_tape, .ref a_p0_reader, .ref a_p0_kitchen, .ref a_p0_luck, .ref a_p0_plans, .ref a_p0_coups, .ref a_p0_past, .ref a_p0_fairDays, .ref a_p0_images, .ref a_p0_imageHeld, .ref a_p0_sheets, .int i_p0_latestFault, .int i_p0_latestTear])), (a_p0_rules, .inr (6, [.int i_p0_rules_seats, .int i_p0_rules_stirs, .ref a_p0_rules_need, .ref a_p0_rules_kind, .ref a_p0_rules_first, .ref a_p0_rules_second, .ref a_p0_rules_after])), (a_p0_rules_need, .inl (G 1, 7, .inl v_p0_rules_need)), (a_p0_state, .inr (8, [.ref a_p0_state_pieces, .ref a_p0_state_friends, .ref a_p0_state_spoons, .ref a_p0_state_eaten, .ref a_p0_state_seen, .int i_p0_state_seenDays, .int i_p0_state_bone, .int i_p0_state_king, .int i_p0_state_days])), (a_p0_state_eaten, .inl (G 1, 7, .inl v_p0_state_eaten))] → va_S A s.heap H locs → lq2 B5 n z3 z4 = some r → W p l e rm_X11_hungry s m ([.ref a_p0] : List Value).toArray below meth c H locs 0 0 Q (F0 m 4 ls []) := by
    clear hf hl hP hD hS
    intro n
    induction n with
    | zero =>
      intro z3 z4 ls H locs hl hP hD hS hf
      exact (lq2_0 hf).elim
    | succ n ih4 =>
      intro z3 z4 ls H locs hl hP hD hS hf
      replace hf := lq2_s eB5 hf
      unfold B_X11_hungry_4 at hf
      refine lv_iload_n hx hb dX11_hungry_4 rfl (lv_at hl 0 rfl) ?_
      refine lv_aload_n hx hb dX11_hungry_5 rfl (lv_at hl 2 rfl) ?_
      refine va_get (D := D) (ci := 11) (v := .ref a_p0_rules) (C := RX11) (T := TX11) (N := 15) hx hb hts inX11_hungry_X11 hown hK hP 0 rfl rfl 0 (by decide) (hts _ mwX11_hungry_1) (fun _ h9 => h9) rfl dX11_hungry_6 ?_
      refine va_get (D := D) (ci := 6) (v := .int i_p0_rules_seats) (C := RX6) (T := TX6) (N := 7) hx hb hts inX11_hungry_X6 hown hK hP 1 rfl rfl 0 (by decide) (hts _ mwX11_hungry_3) (fun _ h9 => h9) rfl dX11_hungry_9 ?_
      refine lv_icmp_ge (tgt := 56) hx hb dX11_hungry_12 (by decide) (fun cc => ?_) (fun cc => ?_)
      ·
        replace hf := ite_t cc hf
        clear cc
        refine lv_iload_n hx hb dX11_hungry_56 rfl (lv_at hl 1 rfl) ?_
        obtain rfl := ou1 hf
        rw [hQ]
        exact W.iret hx hb hr (fun t ht hW => ⟨⟨_, (), rfl, rfl, by rw [ht]; exact hP, va_K.moved hW.alike hK, hD⟩, hS.F ht⟩) hS.2.2 dX11_hungry_57
      ·
        replace hf := ite_f cc hf
        clear cc
        refine lv_aload_n hx hb dX11_hungry_15 rfl (lv_at hl 2 rfl) ?_
        refine va_get (D := D) (ci := 11) (v := .ref a_p0_state) (C := RX11) (T := TX11) (N := 15) hx hb hts inX11_hungry_X11 hown hK hP 0 rfl rfl 1 (by decide) (hts _ mwX11_hungry_4) (fun _ h9 => h9) rfl dX11_hungry_16 ?_
        refine va_get (D := D) (ci := 8) (v := .ref a_p0_state_eaten) (C := RX8) (T := TX8) (N := 9) hx hb hts inX11_hungry_X8 hown hK hP 3 rfl rfl 3 (by decide) (hts _ mwX11_hungry_6) (fun _ h9 => h9) rfl dX11_hungry_19 ?_
        refine lv_iload_n hx hb dX11_hungry_22 rfl (lv_at hl 0 rfl) ?_
        have hc := ck_c hf
        replace hf := ck_r hf
        refine va_iald hx hb hK hP 4 1 rfl rfl (ixB_in hc) dX11_hungry_23 ?_
        clear hc
        refine lv_aload_n hx hb dX11_hungry_24 rfl (lv_at hl 2 rfl) ?_
        refine va_get (D := D) (ci := 11) (v := .ref a_p0_rules) (C := RX11) (T := TX11) (N := 15) hx hb hts inX11_hungry_X11 hown hK hP 0 rfl rfl 0 (by decide) (hts _ mwX11_hungry_1) (fun _ h9 => h9) rfl dX11_hungry_25 ?_
        refine va_get (D := D) (ci := 6) (v := .ref a_p0_rules_need) (C := RX6) (T := TX6) (N := 7) hx hb hts inX11_hungry_X6 hown hK hP 1 rfl rfl 2 (by decide) (hts _ mwX11_hungry_7) (fun _ h9 => h9) rfl dX11_hungry_28 ?_
        refine lv_iload_n hx hb dX11_hungry_31 rfl (lv_at hl 0 rfl) ?_
        have hc := ck_c hf
        replace hf := ck_r hf
        refine va_iald hx hb hK hP 2 1 rfl rfl (ixB_in hc) dX11_hungry_32 ?_
        clear hc
        refine lv_aload_n hx hb dX11_hungry_33 rfl (lv_at hl 2 rfl) ?_
        refine va_get (D := D) (ci := 11) (v := .ref a_p0_state) (C := RX11) (T := TX11) (N := 15) hx hb hts inX11_hungry_X11 hown hK hP 0 rfl rfl 1 (by decide) (hts _ mwX11_hungry_4) (fun _ h9 => h9) rfl dX11_hungry_34 ?_
        refine va_get (D := D) (ci := 8) (v := .int i_p0_state_days) (C := RX8) (T := TX8) (N := 9) hx hb hts inX11_hungry_X8 hown hK hP 3 rfl rfl 8 (by decide) (hts _ mwX11_hungry_8) (fun _ h9 => h9) rfl dX11_hungry_37 ?_
        refine lv_imul hx hb dX11_hungry_40 ?_
        refine lv_icmp_ge (tgt := 50) hx hb dX11_hungry_41 (by decide) (fun cc => ?_) (fun cc => ?_)
        ·
          replace hf := ite_t cc hf
          clear cc
          obtain ⟨z6, ez⟩ : ∃ y : Int32, y = (z3 + (1 : Int32)) := ⟨_, rfl⟩
          replace hf := bnd_s hf ez
          refine lv_iinc (v := z6) (lv' := [(2, .int z6), (1, .int z4), (0, .ref a_p0)]) hx hb dX11_hungry_50 hl (k := 0) rfl (by rw [ez]; rfl) (by decide) rfl (fun ls hl => ?_)
          clear ez
          refine lv_goto (tgt := 4) hx hb dX11_hungry_53 (by decide) ?_
          exact ih4 _ _ _ _ _ (lv_sub hl [0, 1, 2] rfl) hP hD hS hf
        ·
          replace hf := ite_f cc hf
          clear cc
          refine lv_iload_n hx hb dX11_hungry_44 rfl (lv_at hl 1 rfl) ?_
          refine lv_iconst (v := (1 : Int32)) hx hb dX11_hungry_45 (by decide) ?_
          refine lv_iload_n hx hb dX11_hungry_46 rfl (lv_at hl 0 rfl) ?_
          refine lv_ishl hx hb dX11_hungry_47 ?_
          refine lv_ior hx hb dX11_hungry_48 ?_
          refine lv_topi (fun z7 ez => ?_)
          replace hf := bnd_s hf ez
          clear ez
          refine lv_istore_n (lv' := [(1, .int z7), (2, .int z3), (0, .ref a_p0)]) hx hb dX11_hungry_49 rfl hl (by decide) rfl (fun ls hl => ?_)
          obtain ⟨z8, ez⟩ : ∃ y : Int32, y = (z3 + (1 : Int32)) := ⟨_, rfl⟩
          replace hf := bnd_s hf ez
          refine lv_iinc (v := z8) (lv' := [(2, .int z8), (1, .int z7), (0, .ref a_p0)]) hx hb dX11_hungry_50 hl (k := 1) rfl (by rw [ez]; rfl) (by decide) rfl (fun ls hl => ?_)
          clear ez
          refine lv_goto (tgt := 4) hx hb dX11_hungry_53 (by decide) ?_
          exact ih4 _ _ _ _ _ (lv_sub hl [0, 1, 2] rfl) hP hD hS hf
  exact hB5 _ _ _ _ _ _ (lv_sub hl [0, 1, 2] rfl) hP hD hS hf

noncomputable def f_X11_isPart (x0 : Int32) : Option (Int32) := (if x0 = 0 then (some (1 : Int32)) else (if x0 = (1 : Int32) then (some (1 : Int32)) else (some (0 : Int32))))
abbrev rm_X11_isPart : Room := { frames := 0, cells := 0, slots := 0, locals := 0 }
set_option maxHeartbeats 8000000 in
set_option maxRecDepth 100000 in
theorem c_X11_isPart (l : Launch) (D : va_G) (G : Nat → ClassId) (sz : Nat) (x0 : Int32) (r : Int32) (hf : f_X11_isPart x0 = some r) : Met l yX11_isPart wsX11_isPart rm_X11_isPart (pcG D G [.int x0] sz []) (qcI D G r [] (va_A [] sz)) 0 0 (va_A [] sz) := by
  refine Met.ofW (cc := cX11_isPart) (maxL := 1) (ret := (some .boolean)) (by decide) rfl ?_
  intro p e s m args below meth c s₁ B hml hv
  obtain ⟨rfl, hsz, hP, hK, hD0⟩ := hv
  have hx := B.exec
  have hb := B.bytes
  have hr := B.returns
  have hts := atoms_spec (ws := wsX11_isPart) B.pre
  have hown : s.vm.findClass RX11 = some m.cls := findClass_of_methodNamed B.named
  have hlocks := B.notSynchronized
  subst hsz
  have hD := hD0.self (sz := s.heap.size)
  generalize hAe : va_A [] s.heap.size = A at hD ⊢
  have hA : ∀ q : Nat, s.heap.size ≤ q → A q := fun q h => by rw [← hAe]; exact Or.inr h
  clear hAe hD0
  have hS : va_S A s.heap s.heap [] := va_S.rf
  have hl := lv_entry ([.int x0]) (n := 1) (Nat.le_of_ble_eq_true rfl)
  rw [lg_entry_eq]
  generalize (lg_sl ([.int x0]) ++ List.replicate (1 - (lg_sl ([.int x0])).length) Slot.unset).toArray = ls at hl ⊢
  have hl : lv_has ls 1 [(0, .int x0)] := hl
  refine W_nameQ (fun Q hQ => ?_)
  obtain ⟨H, hH⟩ : ∃ H, H = s.heap := ⟨_, rfl⟩
  replace hS : va_S A s.heap H [] := by rw [hH]; exact hS
  replace hP : va_P D vwCl [] H := by rw [hH]; exact hP
  rw [← hH]
  clear hH
  unfold f_X11_isPart at hf
  refine lv_iload_n hx hb dX11_isPart_0 rfl (lv_at hl 0 rfl) ?_
  refine lv_if_eq (tgt := 9) hx hb dX11_isPart_1 (by decide) (fun cc => ?_) (fun cc => ?_)
  ·
    replace hf := ite_t cc hf
    clear cc
    refine lv_iconst (v := (1 : Int32)) hx hb dX11_isPart_9 (by decide) ?_
    refine lv_goto (tgt := 14) hx hb dX11_isPart_10 (by decide) ?_
    obtain rfl := ou1 hf
    rw [hQ]
    exact W.zret hx hb hr rfl (fun t ht hW => ⟨⟨_, (), rfl, rfl, by rw [ht]; exact hP, va_K.moved hW.alike hK, hD⟩, hS.F ht⟩) hS.2.2 dX11_isPart_14
  ·
    replace hf := ite_f cc hf
    clear cc
    refine lv_iload_n hx hb dX11_isPart_4 rfl (lv_at hl 0 rfl) ?_
    refine lv_iconst (v := (1 : Int32)) hx hb dX11_isPart_5 (by decide) ?_
    refine lv_icmp_ne (tgt := 13) hx hb dX11_isPart_6 (by decide) (fun cc => ?_) (fun cc => ?_)
    ·
      replace hf := ite_f cc hf
      clear cc
      refine lv_iconst (v := (0 : Int32)) hx hb dX11_isPart_13 (by decide) ?_
      obtain rfl := ou1 hf
      rw [hQ]
      exact W.zret hx hb hr rfl (fun t ht hW => ⟨⟨_, (), rfl, rfl, by rw [ht]; exact hP, va_K.moved hW.alike hK, hD⟩, hS.F ht⟩) hS.2.2 dX11_isPart_14
    ·
      replace hf := ite_t cc hf
      clear cc
      refine lv_iconst (v := (1 : Int32)) hx hb dX11_isPart_9 (by decide) ?_
      refine lv_goto (tgt := 14) hx hb dX11_isPart_10 (by decide) ?_
      obtain rfl := ou1 hf
      rw [hQ]
      exact W.zret hx hb hr rfl (fun t ht hW => ⟨⟨_, (), rfl, rfl, by rw [ht]; exact hP, va_K.moved hW.alike hK, hD⟩, hS.F ht⟩) hS.2.2 dX11_isPart_14

noncomputable def f_X11_chance (i_p0_rules_seats : Int32) (i_p0_rules_stirs : Int32) (x1 : Int32) (x2 : Int32) (x3 : Int32) : Option (Int64) := (bd1 (f_X6_hasSeat i_p0_rules_seats x1) (fun (z1 : Int32) => (if z1 = 0 then (some (-1 : Int64)) else (if x2 < 0 then (some (-1 : Int64)) else (if (10 : Int32) < x2 then (some (-1 : Int64)) else (bd1 (f_X11_isPart x3) (fun (z2 : Int32) => (if z2 = 0 then (some (-1 : Int64)) else (if i_p0_rules_stirs = 0 then (some (-2 : Int64)) else none)))))))))
abbrev rm_X11_chance : Room := { frames := 1, cells := 0, slots := 0, locals := 21 }
theorem inX11_chance_X11 : ∀ w ∈ wsX110, w ∈ wsX11_chance := by decide +kernel
theorem mwX11_chance_1 : Cond.fieldLink RX11 10 "LadleKings" "rules" "LLadleKings$Rules;" ∈ wsX11_chance := by decide +kernel
theorem mwX11_chance_2 : Cond.constantLong RX11 202 (-1) ∈ wsX11_chance := by decide +kernel
theorem inX11_chance_X6 : ∀ w ∈ wsX60, w ∈ wsX11_chance := by decide +kernel
theorem mwX11_chance_4 : Cond.fieldLink RX11 133 "LadleKings$Rules" "stirs" "I" ∈ wsX11_chance := by decide +kernel
theorem mwX11_chance_5 : Cond.fieldLink RX11 53 "LadleKings" "luck" "LLadleKings$Luck;" ∈ wsX11_chance := by decide +kernel
theorem mwX11_chance_6 : Cond.constantLong RX11 204 (-2) ∈ wsX11_chance := by decide +kernel
set_option maxHeartbeats 8000000 in
set_option maxRecDepth 100000 in
theorem c_X11_chance (l : Launch) (D : va_G) (G : Nat → ClassId) (sz : Nat) (a_p0 : Nat) (a_p0_rules : Nat) (a_p0_state : Nat) (a_p0_tape : Nat) (a_p0_reader : Nat) (a_p0_kitchen : Nat) (a_p0_luck : Nat) (a_p0_plans : Nat) (a_p0_coups : Nat) (a_p0_past : Nat) (a_p0_fairDays : Nat) (a_p0_images : Nat) (a_p0_imageHeld : Nat) (a_p0_sheets : Nat) (a_p0_rules_need : Nat) (a_p0_rules_kind : Nat) (a_p0_rules_first : Nat) (a_p0_rules_second : Nat) (a_p0_rules_after : Nat) (i_p0_latestFault : Int32) (i_p0_latestTear : Int32) (i_p0_rules_seats : Int32) (i_p0_rules_stirs : Int32) (x1 : Int32) (x2 : Int32) (x3 : Int32) (r : Int64) (hf : f_X11_chance i_p0_rules_seats i_p0_rules_stirs x1 x2 x3 = some r) : Met l yX11_chance wsX11_chance rm_X11_chance (pcG D G [.ref a_p0, .int x1, .int x2, .int x3] sz [(a_p0, .inr (11, [.ref a_p0_rules, .ref a_p0_state, .ref a_p0_tape, .ref a_p0_reader, .ref a_p0_kitchen, .ref a_p0_luck, .ref a_p0_plans, .ref a_p0_coups, .ref a_p0_past, .ref a_p0_fairDays, .ref a_p0_images, .ref a_p0_imageHeld, .ref a_p0_sheets, .int i_p0_latestFault, .int i_p0_latestTear])), (a_p0_rules, .inr (6, [.int i_p0_rules_seats, .int i_p0_rules_stirs, .ref a_p0_rules_need, .ref a_p0_rules_kind, .ref a_p0_rules_first, .ref a_p0_rules_second, .ref a_p0_rules_after]))]) (qcL D G r [(a_p0, .inr (11, [.ref a_p0_rules, .ref a_p0_state, .ref a_p0_tape, .ref a_p0_reader, .ref a_p0_kitchen, .ref a_p0_luck, .ref a_p0_plans, .ref a_p0_coups, .ref a_p0_past, .ref a_p0_fairDays, .ref a_p0_images, .ref a_p0_imageHeld, .ref a_p0_sheets, .int i_p0_latestFault, .int i_p0_latestTear])), (a_p0_rules, .inr (6, [.int i_p0_rules_seats, .int i_p0_rules_stirs, .ref a_p0_rules_need, .ref a_p0_rules_kind, .ref a_p0_rules_first, .ref a_p0_rules_second, .ref a_p0_rules_after]))] (va_A [(a_p0, .inr (11, [.ref a_p0_rules, .ref a_p0_state, .ref a_p0_tape, .ref a_p0_reader, .ref a_p0_kitchen, .ref a_p0_luck, .ref a_p0_plans, .ref a_p0_coups, .ref a_p0_past, .ref a_p0_fairDays, .ref a_p0_images, .ref a_p0_imageHeld, .ref a_p0_sheets, .int i_p0_latestFault, .int i_p0_latestTear])), (a_p0_rules, .inr (6, [.int i_p0_rules_seats, .int i_p0_rules_stirs, .ref a_p0_rules_need, .ref a_p0_rules_kind, .ref a_p0_rules_first, .ref a_p0_rules_second, .ref a_p0_rules_after]))] sz)) 0 0 (va_A [(a_p0, .inr (11, [.ref a_p0_rules, .ref a_p0_state, .ref a_p0_tape, .ref a_p0_reader, .ref a_p0_kitchen, .ref a_p0_luck, .ref a_p0_plans, .ref a_p0_coups, .ref a_p0_past, .ref a_p0_fairDays, .ref a_p0_images, .ref a_p0_imageHeld, .ref a_p0_sheets, .int i_p0_latestFault, .int i_p0_latestTear])), (a_p0_rules, .inr (6, [.int i_p0_rules_seats, .int i_p0_rules_stirs, .ref a_p0_rules_need, .ref a_p0_rules_kind, .ref a_p0_rules_first, .ref a_p0_rules_second, .ref a_p0_rules_after]))] sz) := by
  refine Met.ofW (cc := cX11_chance) (maxL := 4) (ret := (some .long)) (by decide) rfl ?_
  intro p e s m args below meth c s₁ B hml hv
  obtain ⟨rfl, hsz, hP, hK, hD0⟩ := hv
  have hx := B.exec
  have hb := B.bytes
  have hr := B.returns
  have hts := atoms_spec (ws := wsX11_chance) B.pre
  have hown : s.vm.findClass RX11 = some m.cls := findClass_of_methodNamed B.named
  have hlocks := B.notSynchronized
  subst hsz
  have hD := hD0.self (sz := s.heap.size)
  generalize hAe : va_A [(a_p0, .inr (11, [.ref a_p0_rules, .ref a_p0_state, .ref a_p0_tape, .ref a_p0_reader, .ref a_p0_kitchen, .ref a_p0_luck, .ref a_p0_plans, .ref a_p0_coups, .ref a_p0_past, .ref a_p0_fairDays, .ref a_p0_images, .ref a_p0_imageHeld, .ref a_p0_sheets, .int i_p0_latestFault, .int i_p0_latestTear])), (a_p0_rules, .inr (6, [.int i_p0_rules_seats, .int i_p0_rules_stirs, .ref a_p0_rules_need, .ref a_p0_rules_kind, .ref a_p0_rules_first, .ref a_p0_rules_second, .ref a_p0_rules_after]))] s.heap.size = A at hD ⊢
  have hA : ∀ q : Nat, s.heap.size ≤ q → A q := fun q h => by rw [← hAe]; exact Or.inr h
  clear hAe hD0
  have hS : va_S A s.heap s.heap [] := va_S.rf
  have hl := lv_entry ([.ref a_p0, .int x1, .int x2, .int x3]) (n := 4) (Nat.le_of_ble_eq_true rfl)
  rw [lg_entry_eq]
  generalize (lg_sl ([.ref a_p0, .int x1, .int x2, .int x3]) ++ List.replicate (4 - (lg_sl ([.ref a_p0, .int x1, .int x2, .int x3])).length) Slot.unset).toArray = ls at hl ⊢
  have hl : lv_has ls 4 [(0, .ref a_p0), (1, .int x1), (2, .int x2), (3, .int x3)] := hl
  refine W_nameQ (fun Q hQ => ?_)
  obtain ⟨H, hH⟩ : ∃ H, H = s.heap := ⟨_, rfl⟩
  replace hS : va_S A s.heap H [] := by rw [hH]; exact hS
  replace hP : va_P D vwCl [(a_p0, .inr (11, [.ref a_p0_rules, .ref a_p0_state, .ref a_p0_tape, .ref a_p0_reader, .ref a_p0_kitchen, .ref a_p0_luck, .ref a_p0_plans, .ref a_p0_coups, .ref a_p0_past, .ref a_p0_fairDays, .ref a_p0_images, .ref a_p0_imageHeld, .ref a_p0_sheets, .int i_p0_latestFault, .int i_p0_latestTear])), (a_p0_rules, .inr (6, [.int i_p0_rules_seats, .int i_p0_rules_stirs, .ref a_p0_rules_need, .ref a_p0_rules_kind, .ref a_p0_rules_first, .ref a_p0_rules_second, .ref a_p0_rules_after]))] H := by rw [hH]; exact hP
  rw [← hH]
  clear hH
  unfold f_X11_chance at hf
  refine lv_aload_n hx hb dX11_chance_0 rfl (lv_at hl 0 rfl) ?_
  refine va_get (D := D) (ci := 11) (v := .ref a_p0_rules) (C := RX11) (T := TX11) (N := 15) hx hb hts inX11_chance_X11 hown hK hP 0 rfl rfl 0 (by decide) (hts _ mwX11_chance_1) (fun _ h9 => h9) rfl dX11_chance_1 ?_
  refine lv_iload_n hx hb dX11_chance_4 rfl (lv_at hl 1 rfl) ?_
  have hq := bd1_s hf
  clear hf
  obtain ⟨z1, hcall, hf⟩ := hq
  refine gcI (ws' := [(a_p0, .inr (11, [.ref a_p0_rules, .ref a_p0_state, .ref a_p0_tape, .ref a_p0_reader, .ref a_p0_kitchen, .ref a_p0_luck, .ref a_p0_plans, .ref a_p0_coups, .ref a_p0_past, .ref a_p0_fairDays, .ref a_p0_images, .ref a_p0_imageHeld, .ref a_p0_sheets, .int i_p0_latestFault, .int i_p0_latestTear])), (a_p0_rules, .inr (6, [.int i_p0_rules_seats, .int i_p0_rules_stirs, .ref a_p0_rules_need, .ref a_p0_rules_kind, .ref a_p0_rules_first, .ref a_p0_rules_second, .ref a_p0_rules_after]))]) (va_runV (As := [.int x1]) (rest := []) ⟨hx, hb, hml, hown, hts⟩ (c_X6_hasSeat (l := l) (D := D) (G := G) (sz := H.size) (a_p0 := a_p0_rules) (a_p0_need := a_p0_rules_need) (a_p0_kind := a_p0_rules_kind) (a_p0_first := a_p0_rules_first) (a_p0_second := a_p0_rules_second) (a_p0_after := a_p0_rules_after) (i_p0_seats := i_p0_rules_seats) (i_p0_stirs := i_p0_rules_stirs) (x1 := x1) (r := z1) (hf := hcall)) (cwV 1 hts gX11_chance_X6_hasSeat rfl rfl rfl (by decide +kernel) ⟨Nat.le_of_ble_eq_true rfl, Nat.le_of_ble_eq_true rfl⟩) (preG_V (ci := 6) (hP.sub [1] rfl) (hD.sub [1] rfl rfl) hK rfl rfl) rfl rfl hl.1 rfl (lv_room (Nat.le_of_ble_eq_true rfl)) dX11_chance_5 ⟨Nat.le_of_ble_eq_true rfl, Nat.le_of_ble_eq_true rfl⟩) hP hD hS hA [1] [0] [0, 1] rfl rfl rfl (by decide) rfl rfl rfl (fun H locs hP hD hS => ?_)
  clear hcall
  refine lv_if_eq (tgt := 28) hx hb dX11_chance_8 (by decide) (fun cc => ?_) (fun cc => ?_)
  ·
    replace hf := ite_t cc hf
    clear cc
    refine lv_ldc2 (v := (-1 : Int64)) hx hb hown (hts _ mwX11_chance_2) dX11_chance_28 ?_
    obtain rfl := ou1 hf
    rw [hQ]
    exact W.lret hx hb hr (fun t ht hW => ⟨⟨_, (), rfl, rfl, by rw [ht]; exact hP, va_K.moved hW.alike hK, hD⟩, hS.F ht⟩) hS.2.2 dX11_chance_31
  ·
    replace hf := ite_f cc hf
    clear cc
    refine lv_iload_n hx hb dX11_chance_11 rfl (lv_at hl 2 rfl) ?_
    refine lv_if_lt (tgt := 28) hx hb dX11_chance_12 (by decide) (fun cc => ?_) (fun cc => ?_)
    ·
      replace hf := ite_t cc hf
      clear cc
      refine lv_ldc2 (v := (-1 : Int64)) hx hb hown (hts _ mwX11_chance_2) dX11_chance_28 ?_
      obtain rfl := ou1 hf
      rw [hQ]
      exact W.lret hx hb hr (fun t ht hW => ⟨⟨_, (), rfl, rfl, by rw [ht]; exact hP, va_K.moved hW.alike hK, hD⟩, hS.F ht⟩) hS.2.2 dX11_chance_31
    ·
      replace hf := ite_f cc hf
      clear cc
      refine lv_iload_n hx hb dX11_chance_15 rfl (lv_at hl 2 rfl) ?_
      refine lv_bipush (v := (10 : Int32)) hx hb dX11_chance_16 (by decide) ?_
      refine lv_icmp_gt (tgt := 28) hx hb dX11_chance_18 (by decide) (fun cc => ?_) (fun cc => ?_)
      ·
        replace hf := ite_t cc hf
        clear cc
        refine lv_ldc2 (v := (-1 : Int64)) hx hb hown (hts _ mwX11_chance_2) dX11_chance_28 ?_
        obtain rfl := ou1 hf
        rw [hQ]
        exact W.lret hx hb hr (fun t ht hW => ⟨⟨_, (), rfl, rfl, by rw [ht]; exact hP, va_K.moved hW.alike hK, hD⟩, hS.F ht⟩) hS.2.2 dX11_chance_31
      ·
        replace hf := ite_f cc hf
        clear cc
        refine lv_iload_n hx hb dX11_chance_21 rfl (lv_at hl 3 rfl) ?_
        have hq := bd1_s hf
        clear hf
        obtain ⟨z2, hcall, hf⟩ := hq
        refine gcI (ws' := [(a_p0, .inr (11, [.ref a_p0_rules, .ref a_p0_state, .ref a_p0_tape, .ref a_p0_reader, .ref a_p0_kitchen, .ref a_p0_luck, .ref a_p0_plans, .ref a_p0_coups, .ref a_p0_past, .ref a_p0_fairDays, .ref a_p0_images, .ref a_p0_imageHeld, .ref a_p0_sheets, .int i_p0_latestFault, .int i_p0_latestTear])), (a_p0_rules, .inr (6, [.int i_p0_rules_seats, .int i_p0_rules_stirs, .ref a_p0_rules_need, .ref a_p0_rules_kind, .ref a_p0_rules_first, .ref a_p0_rules_second, .ref a_p0_rules_after]))]) (va_runS (As := [.int x3]) (rest := []) ⟨hx, hb, hml, hown, hts⟩ (c_X11_isPart (l := l) (D := D) (G := G) (sz := H.size) (x0 := x3) (r := z2) (hf := hcall)) (va_cwS 1 hts gX11_chance_X11_isPart rfl rfl rfl (by decide +kernel) ⟨Nat.le_of_ble_eq_true rfl, Nat.le_of_ble_eq_true rfl⟩) (preG_S (hP.sub [] rfl) (hD.sub [] rfl rfl) hK) rfl rfl hl.1 rfl (lv_room (Nat.le_of_ble_eq_true rfl)) dX11_chance_22 ⟨Nat.le_of_ble_eq_true rfl, Nat.le_of_ble_eq_true rfl⟩) hP hD hS hA [] [0, 1] [0, 1] rfl rfl rfl (by decide) rfl rfl rfl (fun H locs hP hD hS => ?_)
        clear hcall
        refine lv_if_ne (tgt := 32) hx hb dX11_chance_25 (by decide) (fun cc => ?_) (fun cc => ?_)
        ·
          replace hf := ite_f cc hf
          clear cc
          refine lv_aload_n hx hb dX11_chance_32 rfl (lv_at hl 0 rfl) ?_
          refine va_get (D := D) (ci := 11) (v := .ref a_p0_rules) (C := RX11) (T := TX11) (N := 15) hx hb hts inX11_chance_X11 hown hK hP 0 rfl rfl 0 (by decide) (hts _ mwX11_chance_1) (fun _ h9 => h9) rfl dX11_chance_33 ?_
          refine va_get (D := D) (ci := 6) (v := .int i_p0_rules_stirs) (C := RX6) (T := TX6) (N := 7) hx hb hts inX11_chance_X6 hown hK hP 1 rfl rfl 1 (by decide) (hts _ mwX11_chance_4) (fun _ h9 => h9) rfl dX11_chance_36 ?_
          refine lv_if_ne (tgt := 46) hx hb dX11_chance_39 (by decide) (fun cc => ?_) (fun cc => ?_)
          ·
            replace hf := ite_f cc hf
            clear cc
            refine lv_aload_n hx hb dX11_chance_46 rfl (lv_at hl 0 rfl) ?_
            refine va_get (D := D) (ci := 11) (v := .ref a_p0_luck) (C := RX11) (T := TX11) (N := 15) hx hb hts inX11_chance_X11 hown hK hP 0 rfl rfl 5 (by decide) (hts _ mwX11_chance_5) (fun _ h9 => h9) rfl dX11_chance_47 ?_
            refine lv_iload_n hx hb dX11_chance_50 rfl (lv_at hl 1 rfl) ?_
            refine lv_iload_n hx hb dX11_chance_51 rfl (lv_at hl 2 rfl) ?_
            cases hf
          ·
            replace hf := ite_t cc hf
            clear cc
            refine lv_ldc2 (v := (-2 : Int64)) hx hb hown (hts _ mwX11_chance_6) dX11_chance_42 ?_
            obtain rfl := ou1 hf
            rw [hQ]
            exact W.lret hx hb hr (fun t ht hW => ⟨⟨_, (), rfl, rfl, by rw [ht]; exact hP, va_K.moved hW.alike hK, hD⟩, hS.F ht⟩) hS.2.2 dX11_chance_45
        ·
          replace hf := ite_t cc hf
          clear cc
          refine lv_ldc2 (v := (-1 : Int64)) hx hb hown (hts _ mwX11_chance_2) dX11_chance_28 ?_
          obtain rfl := ou1 hf
          rw [hQ]
          exact W.lret hx hb hr (fun t ht hW => ⟨⟨_, (), rfl, rfl, by rw [ht]; exact hP, va_K.moved hW.alike hK, hD⟩, hS.F ht⟩) hS.2.2 dX11_chance_31

noncomputable def f_X11_lasts (i_p0_rules_stirs : Int32) (x1 : Int32) (x2 : Int32) : Option (Int64) := (if x1 < 0 then (some (-1 : Int64)) else (if (10 : Int32) < x1 then (some (-1 : Int64)) else (bd1 (f_X11_isPart x2) (fun (z1 : Int32) => (if z1 = 0 then (some (-1 : Int64)) else (if i_p0_rules_stirs = 0 then (some (-2 : Int64)) else none))))))
abbrev rm_X11_lasts : Room := { frames := 1, cells := 0, slots := 0, locals := 20 }
theorem mwX11_lasts_0 : Cond.constantLong RX11 202 (-1) ∈ wsX11_lasts := by decide +kernel
theorem inX11_lasts_X11 : ∀ w ∈ wsX110, w ∈ wsX11_lasts := by decide +kernel
theorem mwX11_lasts_2 : Cond.fieldLink RX11 10 "LadleKings" "rules" "LLadleKings$Rules;" ∈ wsX11_lasts := by decide +kernel
theorem inX11_lasts_X6 : ∀ w ∈ wsX60, w ∈ wsX11_lasts := by decide +kernel
theorem mwX11_lasts_4 : Cond.fieldLink RX11 133 "LadleKings$Rules" "stirs" "I" ∈ wsX11_lasts := by decide +kernel
theorem mwX11_lasts_5 : Cond.fieldLink RX11 53 "LadleKings" "luck" "LLadleKings$Luck;" ∈ wsX11_lasts := by decide +kernel
theorem mwX11_lasts_6 : Cond.constantLong RX11 204 (-2) ∈ wsX11_lasts := by decide +kernel
set_option maxHeartbeats 8000000 in
set_option maxRecDepth 100000 in
theorem c_X11_lasts (l : Launch) (D : va_G) (G : Nat → ClassId) (sz : Nat) (a_p0 : Nat) (a_p0_rules : Nat) (a_p0_state : Nat) (a_p0_tape : Nat) (a_p0_reader : Nat) (a_p0_kitchen : Nat) (a_p0_luck : Nat) (a_p0_plans : Nat) (a_p0_coups : Nat) (a_p0_past : Nat) (a_p0_fairDays : Nat) (a_p0_images : Nat) (a_p0_imageHeld : Nat) (a_p0_sheets : Nat) (a_p0_rules_need : Nat) (a_p0_rules_kind : Nat) (a_p0_rules_first : Nat) (a_p0_rules_second : Nat) (a_p0_rules_after : Nat) (i_p0_latestFault : Int32) (i_p0_latestTear : Int32) (i_p0_rules_seats : Int32) (i_p0_rules_stirs : Int32) (x1 : Int32) (x2 : Int32) (r : Int64) (hf : f_X11_lasts i_p0_rules_stirs x1 x2 = some r) : Met l yX11_lasts wsX11_lasts rm_X11_lasts (pcG D G [.ref a_p0, .int x1, .int x2] sz [(a_p0, .inr (11, [.ref a_p0_rules, .ref a_p0_state, .ref a_p0_tape, .ref a_p0_reader, .ref a_p0_kitchen, .ref a_p0_luck, .ref a_p0_plans, .ref a_p0_coups, .ref a_p0_past, .ref a_p0_fairDays, .ref a_p0_images, .ref a_p0_imageHeld, .ref a_p0_sheets, .int i_p0_latestFault, .int i_p0_latestTear])), (a_p0_rules, .inr (6, [.int i_p0_rules_seats, .int i_p0_rules_stirs, .ref a_p0_rules_need, .ref a_p0_rules_kind, .ref a_p0_rules_first, .ref a_p0_rules_second, .ref a_p0_rules_after]))]) (qcL D G r [(a_p0, .inr (11, [.ref a_p0_rules, .ref a_p0_state, .ref a_p0_tape, .ref a_p0_reader, .ref a_p0_kitchen, .ref a_p0_luck, .ref a_p0_plans, .ref a_p0_coups, .ref a_p0_past, .ref a_p0_fairDays, .ref a_p0_images, .ref a_p0_imageHeld, .ref a_p0_sheets, .int i_p0_latestFault, .int i_p0_latestTear])), (a_p0_rules, .inr (6, [.int i_p0_rules_seats, .int i_p0_rules_stirs, .ref a_p0_rules_need, .ref a_p0_rules_kind, .ref a_p0_rules_first, .ref a_p0_rules_second, .ref a_p0_rules_after]))] (va_A [(a_p0, .inr (11, [.ref a_p0_rules, .ref a_p0_state, .ref a_p0_tape, .ref a_p0_reader, .ref a_p0_kitchen, .ref a_p0_luck, .ref a_p0_plans, .ref a_p0_coups, .ref a_p0_past, .ref a_p0_fairDays, .ref a_p0_images, .ref a_p0_imageHeld, .ref a_p0_sheets, .int i_p0_latestFault, .int i_p0_latestTear])), (a_p0_rules, .inr (6, [.int i_p0_rules_seats, .int i_p0_rules_stirs, .ref a_p0_rules_need, .ref a_p0_rules_kind, .ref a_p0_rules_first, .ref a_p0_rules_second, .ref a_p0_rules_after]))] sz)) 0 0 (va_A [(a_p0, .inr (11, [.ref a_p0_rules, .ref a_p0_state, .ref a_p0_tape, .ref a_p0_reader, .ref a_p0_kitchen, .ref a_p0_luck, .ref a_p0_plans, .ref a_p0_coups, .ref a_p0_past, .ref a_p0_fairDays, .ref a_p0_images, .ref a_p0_imageHeld, .ref a_p0_sheets, .int i_p0_latestFault, .int i_p0_latestTear])), (a_p0_rules, .inr (6, [.int i_p0_rules_seats, .int i_p0_rules_stirs, .ref a_p0_rules_need, .ref a_p0_rules_kind, .ref a_p0_rules_first, .ref a_p0_rules_second, .ref a_p0_rules_after]))] sz) := by
  refine Met.ofW (cc := cX11_lasts) (maxL := 3) (ret := (some .long)) (by decide) rfl ?_
  intro p e s m args below meth c s₁ B hml hv
  obtain ⟨rfl, hsz, hP, hK, hD0⟩ := hv
  have hx := B.exec
  have hb := B.bytes
  have hr := B.returns
  have hts := atoms_spec (ws := wsX11_lasts) B.pre
  have hown : s.vm.findClass RX11 = some m.cls := findClass_of_methodNamed B.named
  have hlocks := B.notSynchronized
  subst hsz
  have hD := hD0.self (sz := s.heap.size)
  generalize hAe : va_A [(a_p0, .inr (11, [.ref a_p0_rules, .ref a_p0_state, .ref a_p0_tape, .ref a_p0_reader, .ref a_p0_kitchen, .ref a_p0_luck, .ref a_p0_plans, .ref a_p0_coups, .ref a_p0_past, .ref a_p0_fairDays, .ref a_p0_images, .ref a_p0_imageHeld, .ref a_p0_sheets, .int i_p0_latestFault, .int i_p0_latestTear])), (a_p0_rules, .inr (6, [.int i_p0_rules_seats, .int i_p0_rules_stirs, .ref a_p0_rules_need, .ref a_p0_rules_kind, .ref a_p0_rules_first, .ref a_p0_rules_second, .ref a_p0_rules_after]))] s.heap.size = A at hD ⊢
  have hA : ∀ q : Nat, s.heap.size ≤ q → A q := fun q h => by rw [← hAe]; exact Or.inr h
  clear hAe hD0
  have hS : va_S A s.heap s.heap [] := va_S.rf
  have hl := lv_entry ([.ref a_p0, .int x1, .int x2]) (n := 3) (Nat.le_of_ble_eq_true rfl)
  rw [lg_entry_eq]
  generalize (lg_sl ([.ref a_p0, .int x1, .int x2]) ++ List.replicate (3 - (lg_sl ([.ref a_p0, .int x1, .int x2])).length) Slot.unset).toArray = ls at hl ⊢
  have hl : lv_has ls 3 [(0, .ref a_p0), (1, .int x1), (2, .int x2)] := hl
  refine W_nameQ (fun Q hQ => ?_)
  obtain ⟨H, hH⟩ : ∃ H, H = s.heap := ⟨_, rfl⟩
  replace hS : va_S A s.heap H [] := by rw [hH]; exact hS
  replace hP : va_P D vwCl [(a_p0, .inr (11, [.ref a_p0_rules, .ref a_p0_state, .ref a_p0_tape, .ref a_p0_reader, .ref a_p0_kitchen, .ref a_p0_luck, .ref a_p0_plans, .ref a_p0_coups, .ref a_p0_past, .ref a_p0_fairDays, .ref a_p0_images, .ref a_p0_imageHeld, .ref a_p0_sheets, .int i_p0_latestFault, .int i_p0_latestTear])), (a_p0_rules, .inr (6, [.int i_p0_rules_seats, .int i_p0_rules_stirs, .ref a_p0_rules_need, .ref a_p0_rules_kind, .ref a_p0_rules_first, .ref a_p0_rules_second, .ref a_p0_rules_after]))] H := by rw [hH]; exact hP
  rw [← hH]
  clear hH
  unfold f_X11_lasts at hf
  refine lv_iload_n hx hb dX11_lasts_0 rfl (lv_at hl 1 rfl) ?_
  refine lv_if_lt (tgt := 17) hx hb dX11_lasts_1 (by decide) (fun cc => ?_) (fun cc => ?_)
  ·
    replace hf := ite_t cc hf
    clear cc
    refine lv_ldc2 (v := (-1 : Int64)) hx hb hown (hts _ mwX11_lasts_0) dX11_lasts_17 ?_
    obtain rfl := ou1 hf
    rw [hQ]
    exact W.lret hx hb hr (fun t ht hW => ⟨⟨_, (), rfl, rfl, by rw [ht]; exact hP, va_K.moved hW.alike hK, hD⟩, hS.F ht⟩) hS.2.2 dX11_lasts_20
  ·
    replace hf := ite_f cc hf
    clear cc
    refine lv_iload_n hx hb dX11_lasts_4 rfl (lv_at hl 1 rfl) ?_
    refine lv_bipush (v := (10 : Int32)) hx hb dX11_lasts_5 (by decide) ?_
    refine lv_icmp_gt (tgt := 17) hx hb dX11_lasts_7 (by decide) (fun cc => ?_) (fun cc => ?_)
    ·
      replace hf := ite_t cc hf
      clear cc
      refine lv_ldc2 (v := (-1 : Int64)) hx hb hown (hts _ mwX11_lasts_0) dX11_lasts_17 ?_
      obtain rfl := ou1 hf
      rw [hQ]
      exact W.lret hx hb hr (fun t ht hW => ⟨⟨_, (), rfl, rfl, by rw [ht]; exact hP, va_K.moved hW.alike hK, hD⟩, hS.F ht⟩) hS.2.2 dX11_lasts_20
    ·
      replace hf := ite_f cc hf
      clear cc
      refine lv_iload_n hx hb dX11_lasts_10 rfl (lv_at hl 2 rfl) ?_
      have hq := bd1_s hf
      clear hf
      obtain ⟨z1, hcall, hf⟩ := hq
      refine gcI (ws' := [(a_p0, .inr (11, [.ref a_p0_rules, .ref a_p0_state, .ref a_p0_tape, .ref a_p0_reader, .ref a_p0_kitchen, .ref a_p0_luck, .ref a_p0_plans, .ref a_p0_coups, .ref a_p0_past, .ref a_p0_fairDays, .ref a_p0_images, .ref a_p0_imageHeld, .ref a_p0_sheets, .int i_p0_latestFault, .int i_p0_latestTear])), (a_p0_rules, .inr (6, [.int i_p0_rules_seats, .int i_p0_rules_stirs, .ref a_p0_rules_need, .ref a_p0_rules_kind, .ref a_p0_rules_first, .ref a_p0_rules_second, .ref a_p0_rules_after]))]) (va_runS (As := [.int x2]) (rest := []) ⟨hx, hb, hml, hown, hts⟩ (c_X11_isPart (l := l) (D := D) (G := G) (sz := H.size) (x0 := x2) (r := z1) (hf := hcall)) (va_cwS 1 hts gX11_lasts_X11_isPart rfl rfl rfl (by decide +kernel) ⟨Nat.le_of_ble_eq_true rfl, Nat.le_of_ble_eq_true rfl⟩) (preG_S (hP.sub [] rfl) (hD.sub [] rfl rfl) hK) rfl rfl hl.1 rfl (lv_room (Nat.le_of_ble_eq_true rfl)) dX11_lasts_11 ⟨Nat.le_of_ble_eq_true rfl, Nat.le_of_ble_eq_true rfl⟩) hP hD hS hA [] [0, 1] [0, 1] rfl rfl rfl (by decide) rfl rfl rfl (fun H locs hP hD hS => ?_)
      clear hcall
      refine lv_if_ne (tgt := 21) hx hb dX11_lasts_14 (by decide) (fun cc => ?_) (fun cc => ?_)
      ·
        replace hf := ite_f cc hf
        clear cc
        refine lv_aload_n hx hb dX11_lasts_21 rfl (lv_at hl 0 rfl) ?_
        refine va_get (D := D) (ci := 11) (v := .ref a_p0_rules) (C := RX11) (T := TX11) (N := 15) hx hb hts inX11_lasts_X11 hown hK hP 0 rfl rfl 0 (by decide) (hts _ mwX11_lasts_2) (fun _ h9 => h9) rfl dX11_lasts_22 ?_
        refine va_get (D := D) (ci := 6) (v := .int i_p0_rules_stirs) (C := RX6) (T := TX6) (N := 7) hx hb hts inX11_lasts_X6 hown hK hP 1 rfl rfl 1 (by decide) (hts _ mwX11_lasts_4) (fun _ h9 => h9) rfl dX11_lasts_25 ?_
        refine lv_if_ne (tgt := 35) hx hb dX11_lasts_28 (by decide) (fun cc => ?_) (fun cc => ?_)
        ·
          replace hf := ite_f cc hf
          clear cc
          refine lv_aload_n hx hb dX11_lasts_35 rfl (lv_at hl 0 rfl) ?_
          refine va_get (D := D) (ci := 11) (v := .ref a_p0_luck) (C := RX11) (T := TX11) (N := 15) hx hb hts inX11_lasts_X11 hown hK hP 0 rfl rfl 5 (by decide) (hts _ mwX11_lasts_5) (fun _ h9 => h9) rfl dX11_lasts_36 ?_
          refine lv_iload_n hx hb dX11_lasts_39 rfl (lv_at hl 1 rfl) ?_
          cases hf
        ·
          replace hf := ite_t cc hf
          clear cc
          refine lv_ldc2 (v := (-2 : Int64)) hx hb hown (hts _ mwX11_lasts_6) dX11_lasts_31 ?_
          obtain rfl := ou1 hf
          rw [hQ]
          exact W.lret hx hb hr (fun t ht hW => ⟨⟨_, (), rfl, rfl, by rw [ht]; exact hP, va_K.moved hW.alike hK, hD⟩, hS.F ht⟩) hS.2.2 dX11_lasts_34
      ·
        replace hf := ite_t cc hf
        clear cc
        refine lv_ldc2 (v := (-1 : Int64)) hx hb hown (hts _ mwX11_lasts_0) dX11_lasts_17 ?_
        obtain rfl := ou1 hf
        rw [hQ]
        exact W.lret hx hb hr (fun t ht hW => ⟨⟨_, (), rfl, rfl, by rw [ht]; exact hP, va_K.moved hW.alike hK, hD⟩, hS.F ht⟩) hS.2.2 dX11_lasts_20

noncomputable def f_X11_isRowQuestion (x0 : Int32) (x1 : Int32) : Option (Int32) := (if x0 = 0 then (some (1 : Int32)) else (if x0 < (10 : Int32) then (some (0 : Int32)) else (if ((10 : Int32) + x1) ≤ x0 then (some (0 : Int32)) else (some (1 : Int32)))))
abbrev rm_X11_isRowQuestion : Room := { frames := 0, cells := 0, slots := 0, locals := 0 }
set_option maxHeartbeats 8000000 in
set_option maxRecDepth 100000 in
theorem c_X11_isRowQuestion (l : Launch) (D : va_G) (G : Nat → ClassId) (sz : Nat) (x0 : Int32) (x1 : Int32) (r : Int32) (hf : f_X11_isRowQuestion x0 x1 = some r) : Met l yX11_isRowQuestion wsX11_isRowQuestion rm_X11_isRowQuestion (pcG D G [.int x0, .int x1] sz []) (qcI D G r [] (va_A [] sz)) 0 0 (va_A [] sz) := by
  refine Met.ofW (cc := cX11_isRowQuestion) (maxL := 2) (ret := (some .boolean)) (by decide) rfl ?_
  intro p e s m args below meth c s₁ B hml hv
  obtain ⟨rfl, hsz, hP, hK, hD0⟩ := hv
  have hx := B.exec
  have hb := B.bytes
  have hr := B.returns
  have hts := atoms_spec (ws := wsX11_isRowQuestion) B.pre
  have hown : s.vm.findClass RX11 = some m.cls := findClass_of_methodNamed B.named
  have hlocks := B.notSynchronized
  subst hsz
  have hD := hD0.self (sz := s.heap.size)
  generalize hAe : va_A [] s.heap.size = A at hD ⊢
  have hA : ∀ q : Nat, s.heap.size ≤ q → A q := fun q h => by rw [← hAe]; exact Or.inr h
  clear hAe hD0
  have hS : va_S A s.heap s.heap [] := va_S.rf
  have hl := lv_entry ([.int x0, .int x1]) (n := 2) (Nat.le_of_ble_eq_true rfl)
  rw [lg_entry_eq]
  generalize (lg_sl ([.int x0, .int x1]) ++ List.replicate (2 - (lg_sl ([.int x0, .int x1])).length) Slot.unset).toArray = ls at hl ⊢
  have hl : lv_has ls 2 [(0, .int x0), (1, .int x1)] := hl
  refine W_nameQ (fun Q hQ => ?_)
  obtain ⟨H, hH⟩ : ∃ H, H = s.heap := ⟨_, rfl⟩
  replace hS : va_S A s.heap H [] := by rw [hH]; exact hS
  replace hP : va_P D vwCl [] H := by rw [hH]; exact hP
  rw [← hH]
  clear hH
  unfold f_X11_isRowQuestion at hf
  refine lv_iload_n hx hb dX11_isRowQuestion_0 rfl (lv_at hl 0 rfl) ?_
  refine lv_if_eq (tgt := 18) hx hb dX11_isRowQuestion_1 (by decide) (fun cc => ?_) (fun cc => ?_)
  ·
    replace hf := ite_t cc hf
    clear cc
    refine lv_iconst (v := (1 : Int32)) hx hb dX11_isRowQuestion_18 (by decide) ?_
    refine lv_goto (tgt := 23) hx hb dX11_isRowQuestion_19 (by decide) ?_
    obtain rfl := ou1 hf
    rw [hQ]
    exact W.zret hx hb hr rfl (fun t ht hW => ⟨⟨_, (), rfl, rfl, by rw [ht]; exact hP, va_K.moved hW.alike hK, hD⟩, hS.F ht⟩) hS.2.2 dX11_isRowQuestion_23
  ·
    replace hf := ite_f cc hf
    clear cc
    refine lv_iload_n hx hb dX11_isRowQuestion_4 rfl (lv_at hl 0 rfl) ?_
    refine lv_bipush (v := (10 : Int32)) hx hb dX11_isRowQuestion_5 (by decide) ?_
    refine lv_icmp_lt (tgt := 22) hx hb dX11_isRowQuestion_7 (by decide) (fun cc => ?_) (fun cc => ?_)
    ·
      replace hf := ite_t cc hf
      clear cc
      refine lv_iconst (v := (0 : Int32)) hx hb dX11_isRowQuestion_22 (by decide) ?_
      obtain rfl := ou1 hf
      rw [hQ]
      exact W.zret hx hb hr rfl (fun t ht hW => ⟨⟨_, (), rfl, rfl, by rw [ht]; exact hP, va_K.moved hW.alike hK, hD⟩, hS.F ht⟩) hS.2.2 dX11_isRowQuestion_23
    ·
      replace hf := ite_f cc hf
      clear cc
      refine lv_iload_n hx hb dX11_isRowQuestion_10 rfl (lv_at hl 0 rfl) ?_
      refine lv_bipush (v := (10 : Int32)) hx hb dX11_isRowQuestion_11 (by decide) ?_
      refine lv_iload_n hx hb dX11_isRowQuestion_13 rfl (lv_at hl 1 rfl) ?_
      refine lv_iadd hx hb dX11_isRowQuestion_14 ?_
      refine lv_icmp_ge (tgt := 22) hx hb dX11_isRowQuestion_15 (by decide) (fun cc => ?_) (fun cc => ?_)
      ·
        replace hf := ite_t cc hf
        clear cc
        refine lv_iconst (v := (0 : Int32)) hx hb dX11_isRowQuestion_22 (by decide) ?_
        obtain rfl := ou1 hf
        rw [hQ]
        exact W.zret hx hb hr rfl (fun t ht hW => ⟨⟨_, (), rfl, rfl, by rw [ht]; exact hP, va_K.moved hW.alike hK, hD⟩, hS.F ht⟩) hS.2.2 dX11_isRowQuestion_23
      ·
        replace hf := ite_f cc hf
        clear cc
        refine lv_iconst (v := (1 : Int32)) hx hb dX11_isRowQuestion_18 (by decide) ?_
        refine lv_goto (tgt := 23) hx hb dX11_isRowQuestion_19 (by decide) ?_
        obtain rfl := ou1 hf
        rw [hQ]
        exact W.zret hx hb hr rfl (fun t ht hW => ⟨⟨_, (), rfl, rfl, by rw [ht]; exact hP, va_K.moved hW.alike hK, hD⟩, hS.F ht⟩) hS.2.2 dX11_isRowQuestion_23

noncomputable def f_X11_reign (i_p0_rules_stirs : Int32) (x1 : Int32) (x2 : Int32) : Option (Int32) := (if x1 < (1 : Int32) then (some (-1 : Int32)) else (if (10 : Int32) < x1 then (some (-1 : Int32)) else (bd1 (f_X11_isRowQuestion x2 (10 : Int32)) (fun (z1 : Int32) => (if z1 = 0 then (some (-1 : Int32)) else (if i_p0_rules_stirs = 0 then (some (-2 : Int32)) else none))))))
abbrev rm_X11_reign : Room := { frames := 1, cells := 0, slots := 0, locals := 21 }
theorem inX11_reign_X11 : ∀ w ∈ wsX110, w ∈ wsX11_reign := by decide +kernel
theorem mwX11_reign_1 : Cond.fieldLink RX11 10 "LadleKings" "rules" "LLadleKings$Rules;" ∈ wsX11_reign := by decide +kernel
theorem inX11_reign_X6 : ∀ w ∈ wsX60, w ∈ wsX11_reign := by decide +kernel
theorem mwX11_reign_3 : Cond.fieldLink RX11 133 "LadleKings$Rules" "stirs" "I" ∈ wsX11_reign := by decide +kernel
theorem mwX11_reign_4 : Cond.fieldLink RX11 60 "LadleKings" "plans" "LLadleKings$Plans;" ∈ wsX11_reign := by decide +kernel
set_option maxHeartbeats 8000000 in
set_option maxRecDepth 100000 in
theorem c_X11_reign (l : Launch) (D : va_G) (G : Nat → ClassId) (sz : Nat) (a_p0 : Nat) (a_p0_rules : Nat) (a_p0_state : Nat) (a_p0_tape : Nat) (a_p0_reader : Nat) (a_p0_kitchen : Nat) (a_p0_luck : Nat) (a_p0_plans : Nat) (a_p0_coups : Nat) (a_p0_past : Nat) (a_p0_fairDays : Nat) (a_p0_images : Nat) (a_p0_imageHeld : Nat) (a_p0_sheets : Nat) (a_p0_rules_need : Nat) (a_p0_rules_kind : Nat) (a_p0_rules_first : Nat) (a_p0_rules_second : Nat) (a_p0_rules_after : Nat) (i_p0_latestFault : Int32) (i_p0_latestTear : Int32) (i_p0_rules_seats : Int32) (i_p0_rules_stirs : Int32) (x1 : Int32) (x2 : Int32) (r : Int32) (hf : f_X11_reign i_p0_rules_stirs x1 x2 = some r) : Met l yX11_reign wsX11_reign rm_X11_reign (pcG D G [.ref a_p0, .int x1, .int x2] sz [(a_p0, .inr (11, [.ref a_p0_rules, .ref a_p0_state, .ref a_p0_tape, .ref a_p0_reader, .ref a_p0_kitchen, .ref a_p0_luck, .ref a_p0_plans, .ref a_p0_coups, .ref a_p0_past, .ref a_p0_fairDays, .ref a_p0_images, .ref a_p0_imageHeld, .ref a_p0_sheets, .int i_p0_latestFault, .int i_p0_latestTear])), (a_p0_rules, .inr (6, [.int i_p0_rules_seats, .int i_p0_rules_stirs, .ref a_p0_rules_need, .ref a_p0_rules_kind, .ref a_p0_rules_first, .ref a_p0_rules_second, .ref a_p0_rules_after]))]) (qcI D G r [(a_p0, .inr (11, [.ref a_p0_rules, .ref a_p0_state, .ref a_p0_tape, .ref a_p0_reader, .ref a_p0_kitchen, .ref a_p0_luck, .ref a_p0_plans, .ref a_p0_coups, .ref a_p0_past, .ref a_p0_fairDays, .ref a_p0_images, .ref a_p0_imageHeld, .ref a_p0_sheets, .int i_p0_latestFault, .int i_p0_latestTear])), (a_p0_rules, .inr (6, [.int i_p0_rules_seats, .int i_p0_rules_stirs, .ref a_p0_rules_need, .ref a_p0_rules_kind, .ref a_p0_rules_first, .ref a_p0_rules_second, .ref a_p0_rules_after]))] (va_A [(a_p0, .inr (11, [.ref a_p0_rules, .ref a_p0_state, .ref a_p0_tape, .ref a_p0_reader, .ref a_p0_kitchen, .ref a_p0_luck, .ref a_p0_plans, .ref a_p0_coups, .ref a_p0_past, .ref a_p0_fairDays, .ref a_p0_images, .ref a_p0_imageHeld, .ref a_p0_sheets, .int i_p0_latestFault, .int i_p0_latestTear])), (a_p0_rules, .inr (6, [.int i_p0_rules_seats, .int i_p0_rules_stirs, .ref a_p0_rules_need, .ref a_p0_rules_kind, .ref a_p0_rules_first, .ref a_p0_rules_second, .ref a_p0_rules_after]))] sz)) 0 0 (va_A [(a_p0, .inr (11, [.ref a_p0_rules, .ref a_p0_state, .ref a_p0_tape, .ref a_p0_reader, .ref a_p0_kitchen, .ref a_p0_luck, .ref a_p0_plans, .ref a_p0_coups, .ref a_p0_past, .ref a_p0_fairDays, .ref a_p0_images, .ref a_p0_imageHeld, .ref a_p0_sheets, .int i_p0_latestFault, .int i_p0_latestTear])), (a_p0_rules, .inr (6, [.int i_p0_rules_seats, .int i_p0_rules_stirs, .ref a_p0_rules_need, .ref a_p0_rules_kind, .ref a_p0_rules_first, .ref a_p0_rules_second, .ref a_p0_rules_after]))] sz) := by
  refine Met.ofW (cc := cX11_reign) (maxL := 4) (ret := (some .int)) (by decide) rfl ?_
  intro p e s m args below meth c s₁ B hml hv
  obtain ⟨rfl, hsz, hP, hK, hD0⟩ := hv
  have hx := B.exec
  have hb := B.bytes
  have hr := B.returns
  have hts := atoms_spec (ws := wsX11_reign) B.pre
  have hown : s.vm.findClass RX11 = some m.cls := findClass_of_methodNamed B.named
  have hlocks := B.notSynchronized
  subst hsz
  have hD := hD0.self (sz := s.heap.size)
  generalize hAe : va_A [(a_p0, .inr (11, [.ref a_p0_rules, .ref a_p0_state, .ref a_p0_tape, .ref a_p0_reader, .ref a_p0_kitchen, .ref a_p0_luck, .ref a_p0_plans, .ref a_p0_coups, .ref a_p0_past, .ref a_p0_fairDays, .ref a_p0_images, .ref a_p0_imageHeld, .ref a_p0_sheets, .int i_p0_latestFault, .int i_p0_latestTear])), (a_p0_rules, .inr (6, [.int i_p0_rules_seats, .int i_p0_rules_stirs, .ref a_p0_rules_need, .ref a_p0_rules_kind, .ref a_p0_rules_first, .ref a_p0_rules_second, .ref a_p0_rules_after]))] s.heap.size = A at hD ⊢
  have hA : ∀ q : Nat, s.heap.size ≤ q → A q := fun q h => by rw [← hAe]; exact Or.inr h
  clear hAe hD0
  have hS : va_S A s.heap s.heap [] := va_S.rf
  have hl := lv_entry ([.ref a_p0, .int x1, .int x2]) (n := 4) (Nat.le_of_ble_eq_true rfl)
  rw [lg_entry_eq]
  generalize (lg_sl ([.ref a_p0, .int x1, .int x2]) ++ List.replicate (4 - (lg_sl ([.ref a_p0, .int x1, .int x2])).length) Slot.unset).toArray = ls at hl ⊢
  have hl : lv_has ls 4 [(0, .ref a_p0), (1, .int x1), (2, .int x2)] := hl
  refine W_nameQ (fun Q hQ => ?_)
  obtain ⟨H, hH⟩ : ∃ H, H = s.heap := ⟨_, rfl⟩
  replace hS : va_S A s.heap H [] := by rw [hH]; exact hS
  replace hP : va_P D vwCl [(a_p0, .inr (11, [.ref a_p0_rules, .ref a_p0_state, .ref a_p0_tape, .ref a_p0_reader, .ref a_p0_kitchen, .ref a_p0_luck, .ref a_p0_plans, .ref a_p0_coups, .ref a_p0_past, .ref a_p0_fairDays, .ref a_p0_images, .ref a_p0_imageHeld, .ref a_p0_sheets, .int i_p0_latestFault, .int i_p0_latestTear])), (a_p0_rules, .inr (6, [.int i_p0_rules_seats, .int i_p0_rules_stirs, .ref a_p0_rules_need, .ref a_p0_rules_kind, .ref a_p0_rules_first, .ref a_p0_rules_second, .ref a_p0_rules_after]))] H := by rw [hH]; exact hP
  rw [← hH]
  clear hH
  unfold f_X11_reign at hf
  refine lv_iload_n hx hb dX11_reign_0 rfl (lv_at hl 1 rfl) ?_
  refine lv_iconst (v := (1 : Int32)) hx hb dX11_reign_1 (by decide) ?_
  refine lv_icmp_lt (tgt := 20) hx hb dX11_reign_2 (by decide) (fun cc => ?_) (fun cc => ?_)
  ·
    replace hf := ite_t cc hf
    clear cc
    refine lv_iconst (v := (-1 : Int32)) hx hb dX11_reign_20 (by decide) ?_
    obtain rfl := ou1 hf
    rw [hQ]
    exact W.iret hx hb hr (fun t ht hW => ⟨⟨_, (), rfl, rfl, by rw [ht]; exact hP, va_K.moved hW.alike hK, hD⟩, hS.F ht⟩) hS.2.2 dX11_reign_21
  ·
    replace hf := ite_f cc hf
    clear cc
    refine lv_iload_n hx hb dX11_reign_5 rfl (lv_at hl 1 rfl) ?_
    refine lv_bipush (v := (10 : Int32)) hx hb dX11_reign_6 (by decide) ?_
    refine lv_icmp_gt (tgt := 20) hx hb dX11_reign_8 (by decide) (fun cc => ?_) (fun cc => ?_)
    ·
      replace hf := ite_t cc hf
      clear cc
      refine lv_iconst (v := (-1 : Int32)) hx hb dX11_reign_20 (by decide) ?_
      obtain rfl := ou1 hf
      rw [hQ]
      exact W.iret hx hb hr (fun t ht hW => ⟨⟨_, (), rfl, rfl, by rw [ht]; exact hP, va_K.moved hW.alike hK, hD⟩, hS.F ht⟩) hS.2.2 dX11_reign_21
    ·
      replace hf := ite_f cc hf
      clear cc
      refine lv_iload_n hx hb dX11_reign_11 rfl (lv_at hl 2 rfl) ?_
      refine lv_bipush (v := (10 : Int32)) hx hb dX11_reign_12 (by decide) ?_
      have hq := bd1_s hf
      clear hf
      obtain ⟨z1, hcall, hf⟩ := hq
      refine gcI (ws' := [(a_p0, .inr (11, [.ref a_p0_rules, .ref a_p0_state, .ref a_p0_tape, .ref a_p0_reader, .ref a_p0_kitchen, .ref a_p0_luck, .ref a_p0_plans, .ref a_p0_coups, .ref a_p0_past, .ref a_p0_fairDays, .ref a_p0_images, .ref a_p0_imageHeld, .ref a_p0_sheets, .int i_p0_latestFault, .int i_p0_latestTear])), (a_p0_rules, .inr (6, [.int i_p0_rules_seats, .int i_p0_rules_stirs, .ref a_p0_rules_need, .ref a_p0_rules_kind, .ref a_p0_rules_first, .ref a_p0_rules_second, .ref a_p0_rules_after]))]) (va_runS (As := [.int x2, .int (10 : Int32)]) (rest := []) ⟨hx, hb, hml, hown, hts⟩ (c_X11_isRowQuestion (l := l) (D := D) (G := G) (sz := H.size) (x0 := x2) (x1 := (10 : Int32)) (r := z1) (hf := hcall)) (va_cwS 2 hts gX11_reign_X11_isRowQuestion rfl rfl rfl (by decide +kernel) ⟨Nat.le_of_ble_eq_true rfl, Nat.le_of_ble_eq_true rfl⟩) (preG_S (hP.sub [] rfl) (hD.sub [] rfl rfl) hK) rfl rfl hl.1 rfl (lv_room (Nat.le_of_ble_eq_true rfl)) dX11_reign_14 ⟨Nat.le_of_ble_eq_true rfl, Nat.le_of_ble_eq_true rfl⟩) hP hD hS hA [] [0, 1] [0, 1] rfl rfl rfl (by decide) rfl rfl rfl (fun H locs hP hD hS => ?_)
      clear hcall
      refine lv_if_ne (tgt := 22) hx hb dX11_reign_17 (by decide) (fun cc => ?_) (fun cc => ?_)
      ·
        replace hf := ite_f cc hf
        clear cc
        refine lv_aload_n hx hb dX11_reign_22 rfl (lv_at hl 0 rfl) ?_
        refine va_get (D := D) (ci := 11) (v := .ref a_p0_rules) (C := RX11) (T := TX11) (N := 15) hx hb hts inX11_reign_X11 hown hK hP 0 rfl rfl 0 (by decide) (hts _ mwX11_reign_1) (fun _ h9 => h9) rfl dX11_reign_23 ?_
        refine va_get (D := D) (ci := 6) (v := .int i_p0_rules_stirs) (C := RX6) (T := TX6) (N := 7) hx hb hts inX11_reign_X6 hown hK hP 1 rfl rfl 1 (by decide) (hts _ mwX11_reign_3) (fun _ h9 => h9) rfl dX11_reign_26 ?_
        refine lv_if_ne (tgt := 35) hx hb dX11_reign_29 (by decide) (fun cc => ?_) (fun cc => ?_)
        ·
          replace hf := ite_f cc hf
          clear cc
          refine lv_aload_n hx hb dX11_reign_35 rfl (lv_at hl 0 rfl) ?_
          refine va_get (D := D) (ci := 11) (v := .ref a_p0_plans) (C := RX11) (T := TX11) (N := 15) hx hb hts inX11_reign_X11 hown hK hP 0 rfl rfl 6 (by decide) (hts _ mwX11_reign_4) (fun _ h9 => h9) rfl dX11_reign_36 ?_
          refine lv_iload_n hx hb dX11_reign_39 rfl (lv_at hl 1 rfl) ?_
          cases hf
        ·
          replace hf := ite_t cc hf
          clear cc
          refine lv_bipush (v := (-2 : Int32)) hx hb dX11_reign_32 (by decide) ?_
          obtain rfl := ou1 hf
          rw [hQ]
          exact W.iret hx hb hr (fun t ht hW => ⟨⟨_, (), rfl, rfl, by rw [ht]; exact hP, va_K.moved hW.alike hK, hD⟩, hS.F ht⟩) hS.2.2 dX11_reign_34
      ·
        replace hf := ite_t cc hf
        clear cc
        refine lv_iconst (v := (-1 : Int32)) hx hb dX11_reign_20 (by decide) ?_
        obtain rfl := ou1 hf
        rw [hQ]
        exact W.iret hx hb hr (fun t ht hW => ⟨⟨_, (), rfl, rfl, by rw [ht]; exact hP, va_K.moved hW.alike hK, hD⟩, hS.F ht⟩) hS.2.2 dX11_reign_21

noncomputable def f_X11_raise (i_p0_rules_seats : Int32) (i_p0_rules_stirs : Int32) (x1 : Int32) (x2 : Int32) : Option (Int32) := (bd1 (f_X6_hasSeat i_p0_rules_seats x1) (fun (z1 : Int32) => (if z1 = 0 then (some (-1 : Int32)) else (bd1 (f_X11_isRowQuestion x2 (10 : Int32)) (fun (z2 : Int32) => (if z2 = 0 then (some (-1 : Int32)) else (if i_p0_rules_stirs = 0 then (some (-2 : Int32)) else none)))))))
abbrev rm_X11_raise : Room := { frames := 1, cells := 0, slots := 0, locals := 21 }
theorem inX11_raise_X11 : ∀ w ∈ wsX110, w ∈ wsX11_raise := by decide +kernel
theorem mwX11_raise_1 : Cond.fieldLink RX11 10 "LadleKings" "rules" "LLadleKings$Rules;" ∈ wsX11_raise := by decide +kernel
theorem inX11_raise_X6 : ∀ w ∈ wsX60, w ∈ wsX11_raise := by decide +kernel
theorem mwX11_raise_3 : Cond.fieldLink RX11 133 "LadleKings$Rules" "stirs" "I" ∈ wsX11_raise := by decide +kernel
theorem mwX11_raise_4 : Cond.fieldLink RX11 60 "LadleKings" "plans" "LLadleKings$Plans;" ∈ wsX11_raise := by decide +kernel
set_option maxHeartbeats 8000000 in
set_option maxRecDepth 100000 in
theorem c_X11_raise (l : Launch) (D : va_G) (G : Nat → ClassId) (sz : Nat) (a_p0 : Nat) (a_p0_rules : Nat) (a_p0_state : Nat) (a_p0_tape : Nat) (a_p0_reader : Nat) (a_p0_kitchen : Nat) (a_p0_luck : Nat) (a_p0_plans : Nat) (a_p0_coups : Nat) (a_p0_past : Nat) (a_p0_fairDays : Nat) (a_p0_images : Nat) (a_p0_imageHeld : Nat) (a_p0_sheets : Nat) (a_p0_rules_need : Nat) (a_p0_rules_kind : Nat) (a_p0_rules_first : Nat) (a_p0_rules_second : Nat) (a_p0_rules_after : Nat) (i_p0_latestFault : Int32) (i_p0_latestTear : Int32) (i_p0_rules_seats : Int32) (i_p0_rules_stirs : Int32) (x1 : Int32) (x2 : Int32) (r : Int32) (hf : f_X11_raise i_p0_rules_seats i_p0_rules_stirs x1 x2 = some r) : Met l yX11_raise wsX11_raise rm_X11_raise (pcG D G [.ref a_p0, .int x1, .int x2] sz [(a_p0, .inr (11, [.ref a_p0_rules, .ref a_p0_state, .ref a_p0_tape, .ref a_p0_reader, .ref a_p0_kitchen, .ref a_p0_luck, .ref a_p0_plans, .ref a_p0_coups, .ref a_p0_past, .ref a_p0_fairDays, .ref a_p0_images, .ref a_p0_imageHeld, .ref a_p0_sheets, .int i_p0_latestFault, .int i_p0_latestTear])), (a_p0_rules, .inr (6, [.int i_p0_rules_seats, .int i_p0_rules_stirs, .ref a_p0_rules_need, .ref a_p0_rules_kind, .ref a_p0_rules_first, .ref a_p0_rules_second, .ref a_p0_rules_after]))]) (qcI D G r [(a_p0, .inr (11, [.ref a_p0_rules, .ref a_p0_state, .ref a_p0_tape, .ref a_p0_reader, .ref a_p0_kitchen, .ref a_p0_luck, .ref a_p0_plans, .ref a_p0_coups, .ref a_p0_past, .ref a_p0_fairDays, .ref a_p0_images, .ref a_p0_imageHeld, .ref a_p0_sheets, .int i_p0_latestFault, .int i_p0_latestTear])), (a_p0_rules, .inr (6, [.int i_p0_rules_seats, .int i_p0_rules_stirs, .ref a_p0_rules_need, .ref a_p0_rules_kind, .ref a_p0_rules_first, .ref a_p0_rules_second, .ref a_p0_rules_after]))] (va_A [(a_p0, .inr (11, [.ref a_p0_rules, .ref a_p0_state, .ref a_p0_tape, .ref a_p0_reader, .ref a_p0_kitchen, .ref a_p0_luck, .ref a_p0_plans, .ref a_p0_coups, .ref a_p0_past, .ref a_p0_fairDays, .ref a_p0_images, .ref a_p0_imageHeld, .ref a_p0_sheets, .int i_p0_latestFault, .int i_p0_latestTear])), (a_p0_rules, .inr (6, [.int i_p0_rules_seats, .int i_p0_rules_stirs, .ref a_p0_rules_need, .ref a_p0_rules_kind, .ref a_p0_rules_first, .ref a_p0_rules_second, .ref a_p0_rules_after]))] sz)) 0 0 (va_A [(a_p0, .inr (11, [.ref a_p0_rules, .ref a_p0_state, .ref a_p0_tape, .ref a_p0_reader, .ref a_p0_kitchen, .ref a_p0_luck, .ref a_p0_plans, .ref a_p0_coups, .ref a_p0_past, .ref a_p0_fairDays, .ref a_p0_images, .ref a_p0_imageHeld, .ref a_p0_sheets, .int i_p0_latestFault, .int i_p0_latestTear])), (a_p0_rules, .inr (6, [.int i_p0_rules_seats, .int i_p0_rules_stirs, .ref a_p0_rules_need, .ref a_p0_rules_kind, .ref a_p0_rules_first, .ref a_p0_rules_second, .ref a_p0_rules_after]))] sz) := by
  refine Met.ofW (cc := cX11_raise) (maxL := 4) (ret := (some .int)) (by decide) rfl ?_
  intro p e s m args below meth c s₁ B hml hv
  obtain ⟨rfl, hsz, hP, hK, hD0⟩ := hv
  have hx := B.exec
  have hb := B.bytes
  have hr := B.returns
  have hts := atoms_spec (ws := wsX11_raise) B.pre
  have hown : s.vm.findClass RX11 = some m.cls := findClass_of_methodNamed B.named
  have hlocks := B.notSynchronized
  subst hsz
  have hD := hD0.self (sz := s.heap.size)
  generalize hAe : va_A [(a_p0, .inr (11, [.ref a_p0_rules, .ref a_p0_state, .ref a_p0_tape, .ref a_p0_reader, .ref a_p0_kitchen, .ref a_p0_luck, .ref a_p0_plans, .ref a_p0_coups, .ref a_p0_past, .ref a_p0_fairDays, .ref a_p0_images, .ref a_p0_imageHeld, .ref a_p0_sheets, .int i_p0_latestFault, .int i_p0_latestTear])), (a_p0_rules, .inr (6, [.int i_p0_rules_seats, .int i_p0_rules_stirs, .ref a_p0_rules_need, .ref a_p0_rules_kind, .ref a_p0_rules_first, .ref a_p0_rules_second, .ref a_p0_rules_after]))] s.heap.size = A at hD ⊢
  have hA : ∀ q : Nat, s.heap.size ≤ q → A q := fun q h => by rw [← hAe]; exact Or.inr h
  clear hAe hD0
  have hS : va_S A s.heap s.heap [] := va_S.rf
  have hl := lv_entry ([.ref a_p0, .int x1, .int x2]) (n := 4) (Nat.le_of_ble_eq_true rfl)
  rw [lg_entry_eq]
  generalize (lg_sl ([.ref a_p0, .int x1, .int x2]) ++ List.replicate (4 - (lg_sl ([.ref a_p0, .int x1, .int x2])).length) Slot.unset).toArray = ls at hl ⊢
  have hl : lv_has ls 4 [(0, .ref a_p0), (1, .int x1), (2, .int x2)] := hl
  refine W_nameQ (fun Q hQ => ?_)
  obtain ⟨H, hH⟩ : ∃ H, H = s.heap := ⟨_, rfl⟩
  replace hS : va_S A s.heap H [] := by rw [hH]; exact hS
  replace hP : va_P D vwCl [(a_p0, .inr (11, [.ref a_p0_rules, .ref a_p0_state, .ref a_p0_tape, .ref a_p0_reader, .ref a_p0_kitchen, .ref a_p0_luck, .ref a_p0_plans, .ref a_p0_coups, .ref a_p0_past, .ref a_p0_fairDays, .ref a_p0_images, .ref a_p0_imageHeld, .ref a_p0_sheets, .int i_p0_latestFault, .int i_p0_latestTear])), (a_p0_rules, .inr (6, [.int i_p0_rules_seats, .int i_p0_rules_stirs, .ref a_p0_rules_need, .ref a_p0_rules_kind, .ref a_p0_rules_first, .ref a_p0_rules_second, .ref a_p0_rules_after]))] H := by rw [hH]; exact hP
  rw [← hH]
  clear hH
  unfold f_X11_raise at hf
  refine lv_aload_n hx hb dX11_raise_0 rfl (lv_at hl 0 rfl) ?_
  refine va_get (D := D) (ci := 11) (v := .ref a_p0_rules) (C := RX11) (T := TX11) (N := 15) hx hb hts inX11_raise_X11 hown hK hP 0 rfl rfl 0 (by decide) (hts _ mwX11_raise_1) (fun _ h9 => h9) rfl dX11_raise_1 ?_
  refine lv_iload_n hx hb dX11_raise_4 rfl (lv_at hl 1 rfl) ?_
  have hq := bd1_s hf
  clear hf
  obtain ⟨z1, hcall, hf⟩ := hq
  refine gcI (ws' := [(a_p0, .inr (11, [.ref a_p0_rules, .ref a_p0_state, .ref a_p0_tape, .ref a_p0_reader, .ref a_p0_kitchen, .ref a_p0_luck, .ref a_p0_plans, .ref a_p0_coups, .ref a_p0_past, .ref a_p0_fairDays, .ref a_p0_images, .ref a_p0_imageHeld, .ref a_p0_sheets, .int i_p0_latestFault, .int i_p0_latestTear])), (a_p0_rules, .inr (6, [.int i_p0_rules_seats, .int i_p0_rules_stirs, .ref a_p0_rules_need, .ref a_p0_rules_kind, .ref a_p0_rules_first, .ref a_p0_rules_second, .ref a_p0_rules_after]))]) (va_runV (As := [.int x1]) (rest := []) ⟨hx, hb, hml, hown, hts⟩ (c_X6_hasSeat (l := l) (D := D) (G := G) (sz := H.size) (a_p0 := a_p0_rules) (a_p0_need := a_p0_rules_need) (a_p0_kind := a_p0_rules_kind) (a_p0_first := a_p0_rules_first) (a_p0_second := a_p0_rules_second) (a_p0_after := a_p0_rules_after) (i_p0_seats := i_p0_rules_seats) (i_p0_stirs := i_p0_rules_stirs) (x1 := x1) (r := z1) (hf := hcall)) (cwV 1 hts gX11_raise_X6_hasSeat rfl rfl rfl (by decide +kernel) ⟨Nat.le_of_ble_eq_true rfl, Nat.le_of_ble_eq_true rfl⟩) (preG_V (ci := 6) (hP.sub [1] rfl) (hD.sub [1] rfl rfl) hK rfl rfl) rfl rfl hl.1 rfl (lv_room (Nat.le_of_ble_eq_true rfl)) dX11_raise_5 ⟨Nat.le_of_ble_eq_true rfl, Nat.le_of_ble_eq_true rfl⟩) hP hD hS hA [1] [0] [0, 1] rfl rfl rfl (by decide) rfl rfl rfl (fun H locs hP hD hS => ?_)
  clear hcall
  refine lv_if_eq (tgt := 20) hx hb dX11_raise_8 (by decide) (fun cc => ?_) (fun cc => ?_)
  ·
    replace hf := ite_t cc hf
    clear cc
    refine lv_iconst (v := (-1 : Int32)) hx hb dX11_raise_20 (by decide) ?_
    obtain rfl := ou1 hf
    rw [hQ]
    exact W.iret hx hb hr (fun t ht hW => ⟨⟨_, (), rfl, rfl, by rw [ht]; exact hP, va_K.moved hW.alike hK, hD⟩, hS.F ht⟩) hS.2.2 dX11_raise_21
  ·
    replace hf := ite_f cc hf
    clear cc
    refine lv_iload_n hx hb dX11_raise_11 rfl (lv_at hl 2 rfl) ?_
    refine lv_bipush (v := (10 : Int32)) hx hb dX11_raise_12 (by decide) ?_
    have hq := bd1_s hf
    clear hf
    obtain ⟨z2, hcall, hf⟩ := hq
    refine gcI (ws' := [(a_p0, .inr (11, [.ref a_p0_rules, .ref a_p0_state, .ref a_p0_tape, .ref a_p0_reader, .ref a_p0_kitchen, .ref a_p0_luck, .ref a_p0_plans, .ref a_p0_coups, .ref a_p0_past, .ref a_p0_fairDays, .ref a_p0_images, .ref a_p0_imageHeld, .ref a_p0_sheets, .int i_p0_latestFault, .int i_p0_latestTear])), (a_p0_rules, .inr (6, [.int i_p0_rules_seats, .int i_p0_rules_stirs, .ref a_p0_rules_need, .ref a_p0_rules_kind, .ref a_p0_rules_first, .ref a_p0_rules_second, .ref a_p0_rules_after]))]) (va_runS (As := [.int x2, .int (10 : Int32)]) (rest := []) ⟨hx, hb, hml, hown, hts⟩ (c_X11_isRowQuestion (l := l) (D := D) (G := G) (sz := H.size) (x0 := x2) (x1 := (10 : Int32)) (r := z2) (hf := hcall)) (va_cwS 2 hts gX11_raise_X11_isRowQuestion rfl rfl rfl (by decide +kernel) ⟨Nat.le_of_ble_eq_true rfl, Nat.le_of_ble_eq_true rfl⟩) (preG_S (hP.sub [] rfl) (hD.sub [] rfl rfl) hK) rfl rfl hl.1 rfl (lv_room (Nat.le_of_ble_eq_true rfl)) dX11_raise_14 ⟨Nat.le_of_ble_eq_true rfl, Nat.le_of_ble_eq_true rfl⟩) hP hD hS hA [] [0, 1] [0, 1] rfl rfl rfl (by decide) rfl rfl rfl (fun H locs hP hD hS => ?_)
    clear hcall
    refine lv_if_ne (tgt := 22) hx hb dX11_raise_17 (by decide) (fun cc => ?_) (fun cc => ?_)
    ·
      replace hf := ite_f cc hf
      clear cc
      refine lv_aload_n hx hb dX11_raise_22 rfl (lv_at hl 0 rfl) ?_
      refine va_get (D := D) (ci := 11) (v := .ref a_p0_rules) (C := RX11) (T := TX11) (N := 15) hx hb hts inX11_raise_X11 hown hK hP 0 rfl rfl 0 (by decide) (hts _ mwX11_raise_1) (fun _ h9 => h9) rfl dX11_raise_23 ?_
      refine va_get (D := D) (ci := 6) (v := .int i_p0_rules_stirs) (C := RX6) (T := TX6) (N := 7) hx hb hts inX11_raise_X6 hown hK hP 1 rfl rfl 1 (by decide) (hts _ mwX11_raise_3) (fun _ h9 => h9) rfl dX11_raise_26 ?_
      refine lv_if_ne (tgt := 35) hx hb dX11_raise_29 (by decide) (fun cc => ?_) (fun cc => ?_)
      ·
        replace hf := ite_f cc hf
        clear cc
        refine lv_aload_n hx hb dX11_raise_35 rfl (lv_at hl 0 rfl) ?_
        refine va_get (D := D) (ci := 11) (v := .ref a_p0_plans) (C := RX11) (T := TX11) (N := 15) hx hb hts inX11_raise_X11 hown hK hP 0 rfl rfl 6 (by decide) (hts _ mwX11_raise_4) (fun _ h9 => h9) rfl dX11_raise_36 ?_
        refine lv_iload_n hx hb dX11_raise_39 rfl (lv_at hl 1 rfl) ?_
        cases hf
      ·
        replace hf := ite_t cc hf
        clear cc
        refine lv_bipush (v := (-2 : Int32)) hx hb dX11_raise_32 (by decide) ?_
        obtain rfl := ou1 hf
        rw [hQ]
        exact W.iret hx hb hr (fun t ht hW => ⟨⟨_, (), rfl, rfl, by rw [ht]; exact hP, va_K.moved hW.alike hK, hD⟩, hS.F ht⟩) hS.2.2 dX11_raise_34
    ·
      replace hf := ite_t cc hf
      clear cc
      refine lv_iconst (v := (-1 : Int32)) hx hb dX11_raise_20 (by decide) ?_
      obtain rfl := ou1 hf
      rw [hQ]
      exact W.iret hx hb hr (fun t ht hW => ⟨⟨_, (), rfl, rfl, by rw [ht]; exact hP, va_K.moved hW.alike hK, hD⟩, hS.F ht⟩) hS.2.2 dX11_raise_21

noncomputable def f_X11_coup (i_p0_rules_seats : Int32) (i_p0_rules_stirs : Int32) (x1 : Int32) (x2 : Int32) (x3 : Int32) : Option (Int32) := (bd1 (f_X6_hasSeat i_p0_rules_seats x1) (fun (z1 : Int32) => (if z1 = 0 then (some (-1 : Int32)) else (bd1 (f_X6_hasStir i_p0_rules_stirs x2) (fun (z2 : Int32) => (if z2 = 0 then (some (-1 : Int32)) else (bd1 (f_X11_isPart x3) (fun (z3 : Int32) => (if z3 = 0 then (some (-1 : Int32)) else none)))))))))
abbrev rm_X11_coup : Room := { frames := 1, cells := 0, slots := 0, locals := 21 }
theorem inX11_coup_X11 : ∀ w ∈ wsX110, w ∈ wsX11_coup := by decide +kernel
theorem mwX11_coup_1 : Cond.fieldLink RX11 10 "LadleKings" "rules" "LLadleKings$Rules;" ∈ wsX11_coup := by decide +kernel
theorem mwX11_coup_2 : Cond.fieldLink RX11 44 "LadleKings" "kitchen" "LLadleKings$Kitchen;" ∈ wsX11_coup := by decide +kernel
set_option maxHeartbeats 8000000 in
set_option maxRecDepth 100000 in
theorem c_X11_coup (l : Launch) (D : va_G) (G : Nat → ClassId) (sz : Nat) (a_p0 : Nat) (a_p0_rules : Nat) (a_p0_state : Nat) (a_p0_tape : Nat) (a_p0_reader : Nat) (a_p0_kitchen : Nat) (a_p0_luck : Nat) (a_p0_plans : Nat) (a_p0_coups : Nat) (a_p0_past : Nat) (a_p0_fairDays : Nat) (a_p0_images : Nat) (a_p0_imageHeld : Nat) (a_p0_sheets : Nat) (a_p0_rules_need : Nat) (a_p0_rules_kind : Nat) (a_p0_rules_first : Nat) (a_p0_rules_second : Nat) (a_p0_rules_after : Nat) (i_p0_latestFault : Int32) (i_p0_latestTear : Int32) (i_p0_rules_seats : Int32) (i_p0_rules_stirs : Int32) (x1 : Int32) (x2 : Int32) (x3 : Int32) (r : Int32) (hf : f_X11_coup i_p0_rules_seats i_p0_rules_stirs x1 x2 x3 = some r) : Met l yX11_coup wsX11_coup rm_X11_coup (pcG D G [.ref a_p0, .int x1, .int x2, .int x3] sz [(a_p0, .inr (11, [.ref a_p0_rules, .ref a_p0_state, .ref a_p0_tape, .ref a_p0_reader, .ref a_p0_kitchen, .ref a_p0_luck, .ref a_p0_plans, .ref a_p0_coups, .ref a_p0_past, .ref a_p0_fairDays, .ref a_p0_images, .ref a_p0_imageHeld, .ref a_p0_sheets, .int i_p0_latestFault, .int i_p0_latestTear])), (a_p0_rules, .inr (6, [.int i_p0_rules_seats, .int i_p0_rules_stirs, .ref a_p0_rules_need, .ref a_p0_rules_kind, .ref a_p0_rules_first, .ref a_p0_rules_second, .ref a_p0_rules_after]))]) (qcI D G r [(a_p0, .inr (11, [.ref a_p0_rules, .ref a_p0_state, .ref a_p0_tape, .ref a_p0_reader, .ref a_p0_kitchen, .ref a_p0_luck, .ref a_p0_plans, .ref a_p0_coups, .ref a_p0_past, .ref a_p0_fairDays, .ref a_p0_images, .ref a_p0_imageHeld, .ref a_p0_sheets, .int i_p0_latestFault, .int i_p0_latestTear])), (a_p0_rules, .inr (6, [.int i_p0_rules_seats, .int i_p0_rules_stirs, .ref a_p0_rules_need, .ref a_p0_rules_kind, .ref a_p0_rules_first, .ref a_p0_rules_second, .ref a_p0_rules_after]))] (va_A [(a_p0, .inr (11, [.ref a_p0_rules, .ref a_p0_state, .ref a_p0_tape, .ref a_p0_reader, .ref a_p0_kitchen, .ref a_p0_luck, .ref a_p0_plans, .ref a_p0_coups, .ref a_p0_past, .ref a_p0_fairDays, .ref a_p0_images, .ref a_p0_imageHeld, .ref a_p0_sheets, .int i_p0_latestFault, .int i_p0_latestTear])), (a_p0_rules, .inr (6, [.int i_p0_rules_seats, .int i_p0_rules_stirs, .ref a_p0_rules_need, .ref a_p0_rules_kind, .ref a_p0_rules_first, .ref a_p0_rules_second, .ref a_p0_rules_after]))] sz)) 0 0 (va_A [(a_p0, .inr (11, [.ref a_p0_rules, .ref a_p0_state, .ref a_p0_tape, .ref a_p0_reader, .ref a_p0_kitchen, .ref a_p0_luck, .ref a_p0_plans, .ref a_p0_coups, .ref a_p0_past, .ref a_p0_fairDays, .ref a_p0_images, .ref a_p0_imageHeld, .ref a_p0_sheets, .int i_p0_latestFault, .int i_p0_latestTear])), (a_p0_rules, .inr (6, [.int i_p0_rules_seats, .int i_p0_rules_stirs, .ref a_p0_rules_need, .ref a_p0_rules_kind, .ref a_p0_rules_first, .ref a_p0_rules_second, .ref a_p0_rules_after]))] sz) := by
  refine Met.ofW (cc := cX11_coup) (maxL := 5) (ret := (some .int)) (by decide) rfl ?_
  intro p e s m args below meth c s₁ B hml hv
  obtain ⟨rfl, hsz, hP, hK, hD0⟩ := hv
  have hx := B.exec
  have hb := B.bytes
  have hr := B.returns
  have hts := atoms_spec (ws := wsX11_coup) B.pre
  have hown : s.vm.findClass RX11 = some m.cls := findClass_of_methodNamed B.named
  have hlocks := B.notSynchronized
  subst hsz
  have hD := hD0.self (sz := s.heap.size)
  generalize hAe : va_A [(a_p0, .inr (11, [.ref a_p0_rules, .ref a_p0_state, .ref a_p0_tape, .ref a_p0_reader, .ref a_p0_kitchen, .ref a_p0_luck, .ref a_p0_plans, .ref a_p0_coups, .ref a_p0_past, .ref a_p0_fairDays, .ref a_p0_images, .ref a_p0_imageHeld, .ref a_p0_sheets, .int i_p0_latestFault, .int i_p0_latestTear])), (a_p0_rules, .inr (6, [.int i_p0_rules_seats, .int i_p0_rules_stirs, .ref a_p0_rules_need, .ref a_p0_rules_kind, .ref a_p0_rules_first, .ref a_p0_rules_second, .ref a_p0_rules_after]))] s.heap.size = A at hD ⊢
  have hA : ∀ q : Nat, s.heap.size ≤ q → A q := fun q h => by rw [← hAe]; exact Or.inr h
  clear hAe hD0
  have hS : va_S A s.heap s.heap [] := va_S.rf
  have hl := lv_entry ([.ref a_p0, .int x1, .int x2, .int x3]) (n := 5) (Nat.le_of_ble_eq_true rfl)
  rw [lg_entry_eq]
  generalize (lg_sl ([.ref a_p0, .int x1, .int x2, .int x3]) ++ List.replicate (5 - (lg_sl ([.ref a_p0, .int x1, .int x2, .int x3])).length) Slot.unset).toArray = ls at hl ⊢
  have hl : lv_has ls 5 [(0, .ref a_p0), (1, .int x1), (2, .int x2), (3, .int x3)] := hl
  refine W_nameQ (fun Q hQ => ?_)
  obtain ⟨H, hH⟩ : ∃ H, H = s.heap := ⟨_, rfl⟩
  replace hS : va_S A s.heap H [] := by rw [hH]; exact hS
  replace hP : va_P D vwCl [(a_p0, .inr (11, [.ref a_p0_rules, .ref a_p0_state, .ref a_p0_tape, .ref a_p0_reader, .ref a_p0_kitchen, .ref a_p0_luck, .ref a_p0_plans, .ref a_p0_coups, .ref a_p0_past, .ref a_p0_fairDays, .ref a_p0_images, .ref a_p0_imageHeld, .ref a_p0_sheets, .int i_p0_latestFault, .int i_p0_latestTear])), (a_p0_rules, .inr (6, [.int i_p0_rules_seats, .int i_p0_rules_stirs, .ref a_p0_rules_need, .ref a_p0_rules_kind, .ref a_p0_rules_first, .ref a_p0_rules_second, .ref a_p0_rules_after]))] H := by rw [hH]; exact hP
  rw [← hH]
  clear hH
  unfold f_X11_coup at hf
  refine lv_aload_n hx hb dX11_coup_0 rfl (lv_at hl 0 rfl) ?_
  refine va_get (D := D) (ci := 11) (v := .ref a_p0_rules) (C := RX11) (T := TX11) (N := 15) hx hb hts inX11_coup_X11 hown hK hP 0 rfl rfl 0 (by decide) (hts _ mwX11_coup_1) (fun _ h9 => h9) rfl dX11_coup_1 ?_
  refine lv_iload_n hx hb dX11_coup_4 rfl (lv_at hl 1 rfl) ?_
  have hq := bd1_s hf
  clear hf
  obtain ⟨z1, hcall, hf⟩ := hq
  refine gcI (ws' := [(a_p0, .inr (11, [.ref a_p0_rules, .ref a_p0_state, .ref a_p0_tape, .ref a_p0_reader, .ref a_p0_kitchen, .ref a_p0_luck, .ref a_p0_plans, .ref a_p0_coups, .ref a_p0_past, .ref a_p0_fairDays, .ref a_p0_images, .ref a_p0_imageHeld, .ref a_p0_sheets, .int i_p0_latestFault, .int i_p0_latestTear])), (a_p0_rules, .inr (6, [.int i_p0_rules_seats, .int i_p0_rules_stirs, .ref a_p0_rules_need, .ref a_p0_rules_kind, .ref a_p0_rules_first, .ref a_p0_rules_second, .ref a_p0_rules_after]))]) (va_runV (As := [.int x1]) (rest := []) ⟨hx, hb, hml, hown, hts⟩ (c_X6_hasSeat (l := l) (D := D) (G := G) (sz := H.size) (a_p0 := a_p0_rules) (a_p0_need := a_p0_rules_need) (a_p0_kind := a_p0_rules_kind) (a_p0_first := a_p0_rules_first) (a_p0_second := a_p0_rules_second) (a_p0_after := a_p0_rules_after) (i_p0_seats := i_p0_rules_seats) (i_p0_stirs := i_p0_rules_stirs) (x1 := x1) (r := z1) (hf := hcall)) (cwV 1 hts gX11_coup_X6_hasSeat rfl rfl rfl (by decide +kernel) ⟨Nat.le_of_ble_eq_true rfl, Nat.le_of_ble_eq_true rfl⟩) (preG_V (ci := 6) (hP.sub [1] rfl) (hD.sub [1] rfl rfl) hK rfl rfl) rfl rfl hl.1 rfl (lv_room (Nat.le_of_ble_eq_true rfl)) dX11_coup_5 ⟨Nat.le_of_ble_eq_true rfl, Nat.le_of_ble_eq_true rfl⟩) hP hD hS hA [1] [0] [0, 1] rfl rfl rfl (by decide) rfl rfl rfl (fun H locs hP hD hS => ?_)
  clear hcall
  refine lv_if_eq (tgt := 29) hx hb dX11_coup_8 (by decide) (fun cc => ?_) (fun cc => ?_)
  ·
    replace hf := ite_t cc hf
    clear cc
    refine lv_iconst (v := (-1 : Int32)) hx hb dX11_coup_29 (by decide) ?_
    obtain rfl := ou1 hf
    rw [hQ]
    exact W.iret hx hb hr (fun t ht hW => ⟨⟨_, (), rfl, rfl, by rw [ht]; exact hP, va_K.moved hW.alike hK, hD⟩, hS.F ht⟩) hS.2.2 dX11_coup_30
  ·
    replace hf := ite_f cc hf
    clear cc
    refine lv_aload_n hx hb dX11_coup_11 rfl (lv_at hl 0 rfl) ?_
    refine va_get (D := D) (ci := 11) (v := .ref a_p0_rules) (C := RX11) (T := TX11) (N := 15) hx hb hts inX11_coup_X11 hown hK hP 0 rfl rfl 0 (by decide) (hts _ mwX11_coup_1) (fun _ h9 => h9) rfl dX11_coup_12 ?_
    refine lv_iload_n hx hb dX11_coup_15 rfl (lv_at hl 2 rfl) ?_
    have hq := bd1_s hf
    clear hf
    obtain ⟨z2, hcall, hf⟩ := hq
    refine gcI (ws' := [(a_p0, .inr (11, [.ref a_p0_rules, .ref a_p0_state, .ref a_p0_tape, .ref a_p0_reader, .ref a_p0_kitchen, .ref a_p0_luck, .ref a_p0_plans, .ref a_p0_coups, .ref a_p0_past, .ref a_p0_fairDays, .ref a_p0_images, .ref a_p0_imageHeld, .ref a_p0_sheets, .int i_p0_latestFault, .int i_p0_latestTear])), (a_p0_rules, .inr (6, [.int i_p0_rules_seats, .int i_p0_rules_stirs, .ref a_p0_rules_need, .ref a_p0_rules_kind, .ref a_p0_rules_first, .ref a_p0_rules_second, .ref a_p0_rules_after]))]) (va_runV (As := [.int x2]) (rest := []) ⟨hx, hb, hml, hown, hts⟩ (c_X6_hasStir (l := l) (D := D) (G := G) (sz := H.size) (a_p0 := a_p0_rules) (a_p0_need := a_p0_rules_need) (a_p0_kind := a_p0_rules_kind) (a_p0_first := a_p0_rules_first) (a_p0_second := a_p0_rules_second) (a_p0_after := a_p0_rules_after) (i_p0_seats := i_p0_rules_seats) (i_p0_stirs := i_p0_rules_stirs) (x1 := x2) (r := z2) (hf := hcall)) (cwV 1 hts gX11_coup_X6_hasStir rfl rfl rfl (by decide +kernel) ⟨Nat.le_of_ble_eq_true rfl, Nat.le_of_ble_eq_true rfl⟩) (preG_V (ci := 6) (hP.sub [1] rfl) (hD.sub [1] rfl rfl) hK rfl rfl) rfl rfl hl.1 rfl (lv_room (Nat.le_of_ble_eq_true rfl)) dX11_coup_16 ⟨Nat.le_of_ble_eq_true rfl, Nat.le_of_ble_eq_true rfl⟩) hP hD hS hA [1] [0] [0, 1] rfl rfl rfl (by decide) rfl rfl rfl (fun H locs hP hD hS => ?_)
    clear hcall
    refine lv_if_eq (tgt := 29) hx hb dX11_coup_19 (by decide) (fun cc => ?_) (fun cc => ?_)
    ·
      replace hf := ite_t cc hf
      clear cc
      refine lv_iconst (v := (-1 : Int32)) hx hb dX11_coup_29 (by decide) ?_
      obtain rfl := ou1 hf
      rw [hQ]
      exact W.iret hx hb hr (fun t ht hW => ⟨⟨_, (), rfl, rfl, by rw [ht]; exact hP, va_K.moved hW.alike hK, hD⟩, hS.F ht⟩) hS.2.2 dX11_coup_30
    ·
      replace hf := ite_f cc hf
      clear cc
      refine lv_iload_n hx hb dX11_coup_22 rfl (lv_at hl 3 rfl) ?_
      have hq := bd1_s hf
      clear hf
      obtain ⟨z3, hcall, hf⟩ := hq
      refine gcI (ws' := [(a_p0, .inr (11, [.ref a_p0_rules, .ref a_p0_state, .ref a_p0_tape, .ref a_p0_reader, .ref a_p0_kitchen, .ref a_p0_luck, .ref a_p0_plans, .ref a_p0_coups, .ref a_p0_past, .ref a_p0_fairDays, .ref a_p0_images, .ref a_p0_imageHeld, .ref a_p0_sheets, .int i_p0_latestFault, .int i_p0_latestTear])), (a_p0_rules, .inr (6, [.int i_p0_rules_seats, .int i_p0_rules_stirs, .ref a_p0_rules_need, .ref a_p0_rules_kind, .ref a_p0_rules_first, .ref a_p0_rules_second, .ref a_p0_rules_after]))]) (va_runS (As := [.int x3]) (rest := []) ⟨hx, hb, hml, hown, hts⟩ (c_X11_isPart (l := l) (D := D) (G := G) (sz := H.size) (x0 := x3) (r := z3) (hf := hcall)) (va_cwS 1 hts gX11_coup_X11_isPart rfl rfl rfl (by decide +kernel) ⟨Nat.le_of_ble_eq_true rfl, Nat.le_of_ble_eq_true rfl⟩) (preG_S (hP.sub [] rfl) (hD.sub [] rfl rfl) hK) rfl rfl hl.1 rfl (lv_room (Nat.le_of_ble_eq_true rfl)) dX11_coup_23 ⟨Nat.le_of_ble_eq_true rfl, Nat.le_of_ble_eq_true rfl⟩) hP hD hS hA [] [0, 1] [0, 1] rfl rfl rfl (by decide) rfl rfl rfl (fun H locs hP hD hS => ?_)
      clear hcall
      refine lv_if_ne (tgt := 31) hx hb dX11_coup_26 (by decide) (fun cc => ?_) (fun cc => ?_)
      ·
        replace hf := ite_f cc hf
        clear cc
        refine lv_aload_n hx hb dX11_coup_31 rfl (lv_at hl 0 rfl) ?_
        refine va_get (D := D) (ci := 11) (v := .ref a_p0_kitchen) (C := RX11) (T := TX11) (N := 15) hx hb hts inX11_coup_X11 hown hK hP 0 rfl rfl 4 (by decide) (hts _ mwX11_coup_2) (fun _ h9 => h9) rfl dX11_coup_32 ?_
        cases hf
      ·
        replace hf := ite_t cc hf
        clear cc
        refine lv_iconst (v := (-1 : Int32)) hx hb dX11_coup_29 (by decide) ?_
        obtain rfl := ou1 hf
        rw [hQ]
        exact W.iret hx hb hr (fun t ht hW => ⟨⟨_, (), rfl, rfl, by rw [ht]; exact hP, va_K.moved hW.alike hK, hD⟩, hS.F ht⟩) hS.2.2 dX11_coup_30

noncomputable def f_X11_firm (i_p0_rules_stirs : Int32) (x1 : Int32) : Option (Int32) := (bd1 (f_X6_hasStir i_p0_rules_stirs x1) (fun (z1 : Int32) => (if z1 = 0 then (some (-1 : Int32)) else none)))
abbrev rm_X11_firm : Room := { frames := 1, cells := 0, slots := 0, locals := 21 }
theorem inX11_firm_X11 : ∀ w ∈ wsX110, w ∈ wsX11_firm := by decide +kernel
theorem mwX11_firm_1 : Cond.fieldLink RX11 10 "LadleKings" "rules" "LLadleKings$Rules;" ∈ wsX11_firm := by decide +kernel
theorem mwX11_firm_2 : Cond.fieldLink RX11 44 "LadleKings" "kitchen" "LLadleKings$Kitchen;" ∈ wsX11_firm := by decide +kernel
set_option maxHeartbeats 8000000 in
set_option maxRecDepth 100000 in
theorem c_X11_firm (l : Launch) (D : va_G) (G : Nat → ClassId) (sz : Nat) (a_p0 : Nat) (a_p0_rules : Nat) (a_p0_state : Nat) (a_p0_tape : Nat) (a_p0_reader : Nat) (a_p0_kitchen : Nat) (a_p0_luck : Nat) (a_p0_plans : Nat) (a_p0_coups : Nat) (a_p0_past : Nat) (a_p0_fairDays : Nat) (a_p0_images : Nat) (a_p0_imageHeld : Nat) (a_p0_sheets : Nat) (a_p0_rules_need : Nat) (a_p0_rules_kind : Nat) (a_p0_rules_first : Nat) (a_p0_rules_second : Nat) (a_p0_rules_after : Nat) (i_p0_latestFault : Int32) (i_p0_latestTear : Int32) (i_p0_rules_seats : Int32) (i_p0_rules_stirs : Int32) (x1 : Int32) (r : Int32) (hf : f_X11_firm i_p0_rules_stirs x1 = some r) : Met l yX11_firm wsX11_firm rm_X11_firm (pcG D G [.ref a_p0, .int x1] sz [(a_p0, .inr (11, [.ref a_p0_rules, .ref a_p0_state, .ref a_p0_tape, .ref a_p0_reader, .ref a_p0_kitchen, .ref a_p0_luck, .ref a_p0_plans, .ref a_p0_coups, .ref a_p0_past, .ref a_p0_fairDays, .ref a_p0_images, .ref a_p0_imageHeld, .ref a_p0_sheets, .int i_p0_latestFault, .int i_p0_latestTear])), (a_p0_rules, .inr (6, [.int i_p0_rules_seats, .int i_p0_rules_stirs, .ref a_p0_rules_need, .ref a_p0_rules_kind, .ref a_p0_rules_first, .ref a_p0_rules_second, .ref a_p0_rules_after]))]) (qcI D G r [(a_p0, .inr (11, [.ref a_p0_rules, .ref a_p0_state, .ref a_p0_tape, .ref a_p0_reader, .ref a_p0_kitchen, .ref a_p0_luck, .ref a_p0_plans, .ref a_p0_coups, .ref a_p0_past, .ref a_p0_fairDays, .ref a_p0_images, .ref a_p0_imageHeld, .ref a_p0_sheets, .int i_p0_latestFault, .int i_p0_latestTear])), (a_p0_rules, .inr (6, [.int i_p0_rules_seats, .int i_p0_rules_stirs, .ref a_p0_rules_need, .ref a_p0_rules_kind, .ref a_p0_rules_first, .ref a_p0_rules_second, .ref a_p0_rules_after]))] (va_A [(a_p0, .inr (11, [.ref a_p0_rules, .ref a_p0_state, .ref a_p0_tape, .ref a_p0_reader, .ref a_p0_kitchen, .ref a_p0_luck, .ref a_p0_plans, .ref a_p0_coups, .ref a_p0_past, .ref a_p0_fairDays, .ref a_p0_images, .ref a_p0_imageHeld, .ref a_p0_sheets, .int i_p0_latestFault, .int i_p0_latestTear])), (a_p0_rules, .inr (6, [.int i_p0_rules_seats, .int i_p0_rules_stirs, .ref a_p0_rules_need, .ref a_p0_rules_kind, .ref a_p0_rules_first, .ref a_p0_rules_second, .ref a_p0_rules_after]))] sz)) 0 0 (va_A [(a_p0, .inr (11, [.ref a_p0_rules, .ref a_p0_state, .ref a_p0_tape, .ref a_p0_reader, .ref a_p0_kitchen, .ref a_p0_luck, .ref a_p0_plans, .ref a_p0_coups, .ref a_p0_past, .ref a_p0_fairDays, .ref a_p0_images, .ref a_p0_imageHeld, .ref a_p0_sheets, .int i_p0_latestFault, .int i_p0_latestTear])), (a_p0_rules, .inr (6, [.int i_p0_rules_seats, .int i_p0_rules_stirs, .ref a_p0_rules_need, .ref a_p0_rules_kind, .ref a_p0_rules_first, .ref a_p0_rules_second, .ref a_p0_rules_after]))] sz) := by
  refine Met.ofW (cc := cX11_firm) (maxL := 4) (ret := (some .int)) (by decide) rfl ?_
  intro p e s m args below meth c s₁ B hml hv
  obtain ⟨rfl, hsz, hP, hK, hD0⟩ := hv
  have hx := B.exec
  have hb := B.bytes
  have hr := B.returns
  have hts := atoms_spec (ws := wsX11_firm) B.pre
  have hown : s.vm.findClass RX11 = some m.cls := findClass_of_methodNamed B.named
  have hlocks := B.notSynchronized
  subst hsz
  have hD := hD0.self (sz := s.heap.size)
  generalize hAe : va_A [(a_p0, .inr (11, [.ref a_p0_rules, .ref a_p0_state, .ref a_p0_tape, .ref a_p0_reader, .ref a_p0_kitchen, .ref a_p0_luck, .ref a_p0_plans, .ref a_p0_coups, .ref a_p0_past, .ref a_p0_fairDays, .ref a_p0_images, .ref a_p0_imageHeld, .ref a_p0_sheets, .int i_p0_latestFault, .int i_p0_latestTear])), (a_p0_rules, .inr (6, [.int i_p0_rules_seats, .int i_p0_rules_stirs, .ref a_p0_rules_need, .ref a_p0_rules_kind, .ref a_p0_rules_first, .ref a_p0_rules_second, .ref a_p0_rules_after]))] s.heap.size = A at hD ⊢
  have hA : ∀ q : Nat, s.heap.size ≤ q → A q := fun q h => by rw [← hAe]; exact Or.inr h
  clear hAe hD0
  have hS : va_S A s.heap s.heap [] := va_S.rf
  have hl := lv_entry ([.ref a_p0, .int x1]) (n := 4) (Nat.le_of_ble_eq_true rfl)
  rw [lg_entry_eq]
  generalize (lg_sl ([.ref a_p0, .int x1]) ++ List.replicate (4 - (lg_sl ([.ref a_p0, .int x1])).length) Slot.unset).toArray = ls at hl ⊢
  have hl : lv_has ls 4 [(0, .ref a_p0), (1, .int x1)] := hl
  refine W_nameQ (fun Q hQ => ?_)
  obtain ⟨H, hH⟩ : ∃ H, H = s.heap := ⟨_, rfl⟩
  replace hS : va_S A s.heap H [] := by rw [hH]; exact hS
  replace hP : va_P D vwCl [(a_p0, .inr (11, [.ref a_p0_rules, .ref a_p0_state, .ref a_p0_tape, .ref a_p0_reader, .ref a_p0_kitchen, .ref a_p0_luck, .ref a_p0_plans, .ref a_p0_coups, .ref a_p0_past, .ref a_p0_fairDays, .ref a_p0_images, .ref a_p0_imageHeld, .ref a_p0_sheets, .int i_p0_latestFault, .int i_p0_latestTear])), (a_p0_rules, .inr (6, [.int i_p0_rules_seats, .int i_p0_rules_stirs, .ref a_p0_rules_need, .ref a_p0_rules_kind, .ref a_p0_rules_first, .ref a_p0_rules_second, .ref a_p0_rules_after]))] H := by rw [hH]; exact hP
  rw [← hH]
  clear hH
  unfold f_X11_firm at hf
  refine lv_aload_n hx hb dX11_firm_0 rfl (lv_at hl 0 rfl) ?_
  refine va_get (D := D) (ci := 11) (v := .ref a_p0_rules) (C := RX11) (T := TX11) (N := 15) hx hb hts inX11_firm_X11 hown hK hP 0 rfl rfl 0 (by decide) (hts _ mwX11_firm_1) (fun _ h9 => h9) rfl dX11_firm_1 ?_
  refine lv_iload_n hx hb dX11_firm_4 rfl (lv_at hl 1 rfl) ?_
  have hq := bd1_s hf
  clear hf
  obtain ⟨z1, hcall, hf⟩ := hq
  refine gcI (ws' := [(a_p0, .inr (11, [.ref a_p0_rules, .ref a_p0_state, .ref a_p0_tape, .ref a_p0_reader, .ref a_p0_kitchen, .ref a_p0_luck, .ref a_p0_plans, .ref a_p0_coups, .ref a_p0_past, .ref a_p0_fairDays, .ref a_p0_images, .ref a_p0_imageHeld, .ref a_p0_sheets, .int i_p0_latestFault, .int i_p0_latestTear])), (a_p0_rules, .inr (6, [.int i_p0_rules_seats, .int i_p0_rules_stirs, .ref a_p0_rules_need, .ref a_p0_rules_kind, .ref a_p0_rules_first, .ref a_p0_rules_second, .ref a_p0_rules_after]))]) (va_runV (As := [.int x1]) (rest := []) ⟨hx, hb, hml, hown, hts⟩ (c_X6_hasStir (l := l) (D := D) (G := G) (sz := H.size) (a_p0 := a_p0_rules) (a_p0_need := a_p0_rules_need) (a_p0_kind := a_p0_rules_kind) (a_p0_first := a_p0_rules_first) (a_p0_second := a_p0_rules_second) (a_p0_after := a_p0_rules_after) (i_p0_seats := i_p0_rules_seats) (i_p0_stirs := i_p0_rules_stirs) (x1 := x1) (r := z1) (hf := hcall)) (cwV 1 hts gX11_firm_X6_hasStir rfl rfl rfl (by decide +kernel) ⟨Nat.le_of_ble_eq_true rfl, Nat.le_of_ble_eq_true rfl⟩) (preG_V (ci := 6) (hP.sub [1] rfl) (hD.sub [1] rfl rfl) hK rfl rfl) rfl rfl hl.1 rfl (lv_room (Nat.le_of_ble_eq_true rfl)) dX11_firm_5 ⟨Nat.le_of_ble_eq_true rfl, Nat.le_of_ble_eq_true rfl⟩) hP hD hS hA [1] [0] [0, 1] rfl rfl rfl (by decide) rfl rfl rfl (fun H locs hP hD hS => ?_)
  clear hcall
  refine lv_if_ne (tgt := 13) hx hb dX11_firm_8 (by decide) (fun cc => ?_) (fun cc => ?_)
  ·
    replace hf := ite_f cc hf
    clear cc
    refine lv_aload_n hx hb dX11_firm_13 rfl (lv_at hl 0 rfl) ?_
    refine va_get (D := D) (ci := 11) (v := .ref a_p0_kitchen) (C := RX11) (T := TX11) (N := 15) hx hb hts inX11_firm_X11 hown hK hP 0 rfl rfl 4 (by decide) (hts _ mwX11_firm_2) (fun _ h9 => h9) rfl dX11_firm_14 ?_
    cases hf
  ·
    replace hf := ite_t cc hf
    clear cc
    refine lv_iconst (v := (-1 : Int32)) hx hb dX11_firm_11 (by decide) ?_
    obtain rfl := ou1 hf
    rw [hQ]
    exact W.iret hx hb hr (fun t ht hW => ⟨⟨_, (), rfl, rfl, by rw [ht]; exact hP, va_K.moved hW.alike hK, hD⟩, hS.F ht⟩) hS.2.2 dX11_firm_12

noncomputable def f_X11_see (i_p0_rules_seats : Int32) (i_p0_state_seenDays : Int32) (v_p0_state_seen : (Nat → Int32)) (x1 : Int32) : Option (Int32 × Int32 × (Nat → Int32)) := (bd1 (f_X6_hasSeat i_p0_rules_seats x1) (fun (z1 : Int32) => (if z1 = 0 then (some ((-1 : Int32), i_p0_state_seenDays, v_p0_state_seen)) else (if i_p0_state_seenDays < (6 : Int32) then (ck (ixB i_p0_state_seenDays 6) (bnd (upd v_p0_state_seen (i_p0_state_seenDays).toNatClampNeg x1) (fun (w2 : (Nat → Int32)) => (bnd (i_p0_state_seenDays + (1 : Int32)) (fun (z3 : Int32) => (some (z3, z3, w2))))))) else (some ((-3 : Int32), i_p0_state_seenDays, v_p0_state_seen))))))
abbrev rm_X11_see : Room := { frames := 1, cells := 0, slots := 0, locals := 21 }
theorem inX11_see_X11 : ∀ w ∈ wsX110, w ∈ wsX11_see := by decide +kernel
theorem mwX11_see_1 : Cond.fieldLink RX11 10 "LadleKings" "rules" "LLadleKings$Rules;" ∈ wsX11_see := by decide +kernel
theorem mwX11_see_2 : Cond.fieldLink RX11 19 "LadleKings" "state" "LLadleKings$State;" ∈ wsX11_see := by decide +kernel
theorem inX11_see_X8 : ∀ w ∈ wsX80, w ∈ wsX11_see := by decide +kernel
theorem mwX11_see_4 : Cond.fieldLink RX11 247 "LadleKings$State" "seenDays" "I" ∈ wsX11_see := by decide +kernel
theorem mwX11_see_5 : Cond.fieldLink RX11 250 "LadleKings$State" "seen" "[I" ∈ wsX11_see := by decide +kernel
set_option maxHeartbeats 8000000 in
set_option maxRecDepth 100000 in
theorem c_X11_see (l : Launch) (D : va_G) (G : Nat → ClassId) (sz : Nat) (a_p0 : Nat) (a_p0_rules : Nat) (a_p0_state : Nat) (a_p0_tape : Nat) (a_p0_reader : Nat) (a_p0_kitchen : Nat) (a_p0_luck : Nat) (a_p0_plans : Nat) (a_p0_coups : Nat) (a_p0_past : Nat) (a_p0_fairDays : Nat) (a_p0_images : Nat) (a_p0_imageHeld : Nat) (a_p0_sheets : Nat) (a_p0_rules_need : Nat) (a_p0_rules_kind : Nat) (a_p0_rules_first : Nat) (a_p0_rules_second : Nat) (a_p0_rules_after : Nat) (a_p0_state_pieces : Nat) (a_p0_state_friends : Nat) (a_p0_state_spoons : Nat) (a_p0_state_eaten : Nat) (a_p0_state_seen : Nat) (i_p0_latestFault : Int32) (i_p0_latestTear : Int32) (i_p0_rules_seats : Int32) (i_p0_rules_stirs : Int32) (i_p0_state_seenDays : Int32) (i_p0_state_bone : Int32) (i_p0_state_king : Int32) (i_p0_state_days : Int32) (v_p0_state_seen : (Nat → Int32)) (x1 : Int32) (r : Int32) (o_i_p0_state_seenDays : Int32) (o_v_p0_state_seen : (Nat → Int32)) (hf : f_X11_see i_p0_rules_seats i_p0_state_seenDays v_p0_state_seen x1 = some (r, o_i_p0_state_seenDays, o_v_p0_state_seen)) : Met l yX11_see wsX11_see rm_X11_see (pcG D G [.ref a_p0, .int x1] sz [(a_p0, .inr (11, [.ref a_p0_rules, .ref a_p0_state, .ref a_p0_tape, .ref a_p0_reader, .ref a_p0_kitchen, .ref a_p0_luck, .ref a_p0_plans, .ref a_p0_coups, .ref a_p0_past, .ref a_p0_fairDays, .ref a_p0_images, .ref a_p0_imageHeld, .ref a_p0_sheets, .int i_p0_latestFault, .int i_p0_latestTear])), (a_p0_rules, .inr (6, [.int i_p0_rules_seats, .int i_p0_rules_stirs, .ref a_p0_rules_need, .ref a_p0_rules_kind, .ref a_p0_rules_first, .ref a_p0_rules_second, .ref a_p0_rules_after])), (a_p0_state, .inr (8, [.ref a_p0_state_pieces, .ref a_p0_state_friends, .ref a_p0_state_spoons, .ref a_p0_state_eaten, .ref a_p0_state_seen, .int i_p0_state_seenDays, .int i_p0_state_bone, .int i_p0_state_king, .int i_p0_state_days])), (a_p0_state_seen, .inl (G 1, 6, .inl v_p0_state_seen))]) (qcI D G r [(a_p0, .inr (11, [.ref a_p0_rules, .ref a_p0_state, .ref a_p0_tape, .ref a_p0_reader, .ref a_p0_kitchen, .ref a_p0_luck, .ref a_p0_plans, .ref a_p0_coups, .ref a_p0_past, .ref a_p0_fairDays, .ref a_p0_images, .ref a_p0_imageHeld, .ref a_p0_sheets, .int i_p0_latestFault, .int i_p0_latestTear])), (a_p0_rules, .inr (6, [.int i_p0_rules_seats, .int i_p0_rules_stirs, .ref a_p0_rules_need, .ref a_p0_rules_kind, .ref a_p0_rules_first, .ref a_p0_rules_second, .ref a_p0_rules_after])), (a_p0_state, .inr (8, [.ref a_p0_state_pieces, .ref a_p0_state_friends, .ref a_p0_state_spoons, .ref a_p0_state_eaten, .ref a_p0_state_seen, .int o_i_p0_state_seenDays, .int i_p0_state_bone, .int i_p0_state_king, .int i_p0_state_days])), (a_p0_state_seen, .inl (G 1, 6, .inl o_v_p0_state_seen))] (va_A [(a_p0, .inr (11, [.ref a_p0_rules, .ref a_p0_state, .ref a_p0_tape, .ref a_p0_reader, .ref a_p0_kitchen, .ref a_p0_luck, .ref a_p0_plans, .ref a_p0_coups, .ref a_p0_past, .ref a_p0_fairDays, .ref a_p0_images, .ref a_p0_imageHeld, .ref a_p0_sheets, .int i_p0_latestFault, .int i_p0_latestTear])), (a_p0_rules, .inr (6, [.int i_p0_rules_seats, .int i_p0_rules_stirs, .ref a_p0_rules_need, .ref a_p0_rules_kind, .ref a_p0_rules_first, .ref a_p0_rules_second, .ref a_p0_rules_after])), (a_p0_state, .inr (8, [.ref a_p0_state_pieces, .ref a_p0_state_friends, .ref a_p0_state_spoons, .ref a_p0_state_eaten, .ref a_p0_state_seen, .int i_p0_state_seenDays, .int i_p0_state_bone, .int i_p0_state_king, .int i_p0_state_days])), (a_p0_state_seen, .inl (G 1, 6, .inl v_p0_state_seen))] sz)) 0 0 (va_A [(a_p0, .inr (11, [.ref a_p0_rules, .ref a_p0_state, .ref a_p0_tape, .ref a_p0_reader, .ref a_p0_kitchen, .ref a_p0_luck, .ref a_p0_plans, .ref a_p0_coups, .ref a_p0_past, .ref a_p0_fairDays, .ref a_p0_images, .ref a_p0_imageHeld, .ref a_p0_sheets, .int i_p0_latestFault, .int i_p0_latestTear])), (a_p0_rules, .inr (6, [.int i_p0_rules_seats, .int i_p0_rules_stirs, .ref a_p0_rules_need, .ref a_p0_rules_kind, .ref a_p0_rules_first, .ref a_p0_rules_second, .ref a_p0_rules_after])), (a_p0_state, .inr (8, [.ref a_p0_state_pieces, .ref a_p0_state_friends, .ref a_p0_state_spoons, .ref a_p0_state_eaten, .ref a_p0_state_seen, .int i_p0_state_seenDays, .int i_p0_state_bone, .int i_p0_state_king, .int i_p0_state_days])), (a_p0_state_seen, .inl (G 1, 6, .inl v_p0_state_seen))] sz) := by
  refine Met.ofW (cc := cX11_see) (maxL := 2) (ret := (some .int)) (by decide) rfl ?_
  intro p e s m args below meth c s₁ B hml hv
  obtain ⟨rfl, hsz, hP, hK, hD0⟩ := hv
  have hx := B.exec
  have hb := B.bytes
  have hr := B.returns
  have hts := atoms_spec (ws := wsX11_see) B.pre
  have hown : s.vm.findClass RX11 = some m.cls := findClass_of_methodNamed B.named
  have hlocks := B.notSynchronized
  subst hsz
  have hD := hD0.self (sz := s.heap.size)
  generalize hAe : va_A [(a_p0, .inr (11, [.ref a_p0_rules, .ref a_p0_state, .ref a_p0_tape, .ref a_p0_reader, .ref a_p0_kitchen, .ref a_p0_luck, .ref a_p0_plans, .ref a_p0_coups, .ref a_p0_past, .ref a_p0_fairDays, .ref a_p0_images, .ref a_p0_imageHeld, .ref a_p0_sheets, .int i_p0_latestFault, .int i_p0_latestTear])), (a_p0_rules, .inr (6, [.int i_p0_rules_seats, .int i_p0_rules_stirs, .ref a_p0_rules_need, .ref a_p0_rules_kind, .ref a_p0_rules_first, .ref a_p0_rules_second, .ref a_p0_rules_after])), (a_p0_state, .inr (8, [.ref a_p0_state_pieces, .ref a_p0_state_friends, .ref a_p0_state_spoons, .ref a_p0_state_eaten, .ref a_p0_state_seen, .int i_p0_state_seenDays, .int i_p0_state_bone, .int i_p0_state_king, .int i_p0_state_days])), (a_p0_state_seen, .inl (G 1, 6, .inl v_p0_state_seen))] s.heap.size = A at hD ⊢
  have hA : ∀ q : Nat, s.heap.size ≤ q → A q := fun q h => by rw [← hAe]; exact Or.inr h
  clear hAe hD0
  have hS : va_S A s.heap s.heap [] := va_S.rf
  have hl := lv_entry ([.ref a_p0, .int x1]) (n := 2) (Nat.le_of_ble_eq_true rfl)
  rw [lg_entry_eq]
  generalize (lg_sl ([.ref a_p0, .int x1]) ++ List.replicate (2 - (lg_sl ([.ref a_p0, .int x1])).length) Slot.unset).toArray = ls at hl ⊢
  have hl : lv_has ls 2 [(0, .ref a_p0), (1, .int x1)] := hl
  refine W_nameQ (fun Q hQ => ?_)
  obtain ⟨H, hH⟩ : ∃ H, H = s.heap := ⟨_, rfl⟩
  replace hS : va_S A s.heap H [] := by rw [hH]; exact hS
  replace hP : va_P D vwCl [(a_p0, .inr (11, [.ref a_p0_rules, .ref a_p0_state, .ref a_p0_tape, .ref a_p0_reader, .ref a_p0_kitchen, .ref a_p0_luck, .ref a_p0_plans, .ref a_p0_coups, .ref a_p0_past, .ref a_p0_fairDays, .ref a_p0_images, .ref a_p0_imageHeld, .ref a_p0_sheets, .int i_p0_latestFault, .int i_p0_latestTear])), (a_p0_rules, .inr (6, [.int i_p0_rules_seats, .int i_p0_rules_stirs, .ref a_p0_rules_need, .ref a_p0_rules_kind, .ref a_p0_rules_first, .ref a_p0_rules_second, .ref a_p0_rules_after])), (a_p0_state, .inr (8, [.ref a_p0_state_pieces, .ref a_p0_state_friends, .ref a_p0_state_spoons, .ref a_p0_state_eaten, .ref a_p0_state_seen, .int i_p0_state_seenDays, .int i_p0_state_bone, .int i_p0_state_king, .int i_p0_state_days])), (a_p0_state_seen, .inl (G 1, 6, .inl v_p0_state_seen))] H := by rw [hH]; exact hP
  rw [← hH]
  clear hH
  unfold f_X11_see at hf
  refine lv_aload_n hx hb dX11_see_0 rfl (lv_at hl 0 rfl) ?_
  refine va_get (D := D) (ci := 11) (v := .ref a_p0_rules) (C := RX11) (T := TX11) (N := 15) hx hb hts inX11_see_X11 hown hK hP 0 rfl rfl 0 (by decide) (hts _ mwX11_see_1) (fun _ h9 => h9) rfl dX11_see_1 ?_
  refine lv_iload_n hx hb dX11_see_4 rfl (lv_at hl 1 rfl) ?_
  have hq := bd1_s hf
  clear hf
  obtain ⟨z1, hcall, hf⟩ := hq
  refine gcI (ws' := [(a_p0, .inr (11, [.ref a_p0_rules, .ref a_p0_state, .ref a_p0_tape, .ref a_p0_reader, .ref a_p0_kitchen, .ref a_p0_luck, .ref a_p0_plans, .ref a_p0_coups, .ref a_p0_past, .ref a_p0_fairDays, .ref a_p0_images, .ref a_p0_imageHeld, .ref a_p0_sheets, .int i_p0_latestFault, .int i_p0_latestTear])), (a_p0_rules, .inr (6, [.int i_p0_rules_seats, .int i_p0_rules_stirs, .ref a_p0_rules_need, .ref a_p0_rules_kind, .ref a_p0_rules_first, .ref a_p0_rules_second, .ref a_p0_rules_after])), (a_p0_state, .inr (8, [.ref a_p0_state_pieces, .ref a_p0_state_friends, .ref a_p0_state_spoons, .ref a_p0_state_eaten, .ref a_p0_state_seen, .int i_p0_state_seenDays, .int i_p0_state_bone, .int i_p0_state_king, .int i_p0_state_days])), (a_p0_state_seen, .inl (G 1, 6, .inl v_p0_state_seen))]) (va_runV (As := [.int x1]) (rest := []) ⟨hx, hb, hml, hown, hts⟩ (c_X6_hasSeat (l := l) (D := D) (G := G) (sz := H.size) (a_p0 := a_p0_rules) (a_p0_need := a_p0_rules_need) (a_p0_kind := a_p0_rules_kind) (a_p0_first := a_p0_rules_first) (a_p0_second := a_p0_rules_second) (a_p0_after := a_p0_rules_after) (i_p0_seats := i_p0_rules_seats) (i_p0_stirs := i_p0_rules_stirs) (x1 := x1) (r := z1) (hf := hcall)) (cwV 1 hts gX11_see_X6_hasSeat rfl rfl rfl (by decide +kernel) ⟨Nat.le_of_ble_eq_true rfl, Nat.le_of_ble_eq_true rfl⟩) (preG_V (ci := 6) (hP.sub [1] rfl) (hD.sub [1] rfl rfl) hK rfl rfl) rfl rfl hl.1 rfl (lv_room (Nat.le_of_ble_eq_true rfl)) dX11_see_5 ⟨Nat.le_of_ble_eq_true rfl, Nat.le_of_ble_eq_true rfl⟩) hP hD hS hA [1] [0, 2, 3] [0, 3, 1, 2] rfl rfl rfl (by decide) rfl rfl rfl (fun H locs hP hD hS => ?_)
  clear hcall
  refine lv_if_ne (tgt := 13) hx hb dX11_see_8 (by decide) (fun cc => ?_) (fun cc => ?_)
  ·
    replace hf := ite_f cc hf
    clear cc
    refine lv_aload_n hx hb dX11_see_13 rfl (lv_at hl 0 rfl) ?_
    refine va_get (D := D) (ci := 11) (v := .ref a_p0_state) (C := RX11) (T := TX11) (N := 15) hx hb hts inX11_see_X11 hown hK hP 0 rfl rfl 1 (by decide) (hts _ mwX11_see_2) (fun _ h9 => h9) rfl dX11_see_14 ?_
    refine va_get (D := D) (ci := 8) (v := .int i_p0_state_seenDays) (C := RX8) (T := TX8) (N := 9) hx hb hts inX11_see_X8 hown hK hP 2 rfl rfl 5 (by decide) (hts _ mwX11_see_4) (fun _ h9 => h9) rfl dX11_see_17 ?_
    refine lv_bipush (v := (6 : Int32)) hx hb dX11_see_20 (by decide) ?_
    refine lv_icmp_lt (tgt := 28) hx hb dX11_see_22 (by decide) (fun cc => ?_) (fun cc => ?_)
    ·
      replace hf := ite_t cc hf
      clear cc
      refine lv_aload_n hx hb dX11_see_28 rfl (lv_at hl 0 rfl) ?_
      refine va_get (D := D) (ci := 11) (v := .ref a_p0_state) (C := RX11) (T := TX11) (N := 15) hx hb hts inX11_see_X11 hown hK hP 0 rfl rfl 1 (by decide) (hts _ mwX11_see_2) (fun _ h9 => h9) rfl dX11_see_29 ?_
      refine va_get (D := D) (ci := 8) (v := .ref a_p0_state_seen) (C := RX8) (T := TX8) (N := 9) hx hb hts inX11_see_X8 hown hK hP 2 rfl rfl 4 (by decide) (hts _ mwX11_see_5) (fun _ h9 => h9) rfl dX11_see_32 ?_
      refine lv_aload_n hx hb dX11_see_35 rfl (lv_at hl 0 rfl) ?_
      refine va_get (D := D) (ci := 11) (v := .ref a_p0_state) (C := RX11) (T := TX11) (N := 15) hx hb hts inX11_see_X11 hown hK hP 0 rfl rfl 1 (by decide) (hts _ mwX11_see_2) (fun _ h9 => h9) rfl dX11_see_36 ?_
      refine va_get (D := D) (ci := 8) (v := .int i_p0_state_seenDays) (C := RX8) (T := TX8) (N := 9) hx hb hts inX11_see_X8 hown hK hP 2 rfl rfl 5 (by decide) (hts _ mwX11_see_4) (fun _ h9 => h9) rfl dX11_see_39 ?_
      refine lv_iload_n hx hb dX11_see_42 rfl (lv_at hl 1 rfl) ?_
      have hc := ck_c hf
      replace hf := ck_r hf
      refine gs_iast (wf := fun w2 => [(a_p0, .inr (11, [.ref a_p0_rules, .ref a_p0_state, .ref a_p0_tape, .ref a_p0_reader, .ref a_p0_kitchen, .ref a_p0_luck, .ref a_p0_plans, .ref a_p0_coups, .ref a_p0_past, .ref a_p0_fairDays, .ref a_p0_images, .ref a_p0_imageHeld, .ref a_p0_sheets, .int i_p0_latestFault, .int i_p0_latestTear])), (a_p0_rules, .inr (6, [.int i_p0_rules_seats, .int i_p0_rules_stirs, .ref a_p0_rules_need, .ref a_p0_rules_kind, .ref a_p0_rules_first, .ref a_p0_rules_second, .ref a_p0_rules_after])), (a_p0_state, .inr (8, [.ref a_p0_state_pieces, .ref a_p0_state_friends, .ref a_p0_state_spoons, .ref a_p0_state_eaten, .ref a_p0_state_seen, .int i_p0_state_seenDays, .int i_p0_state_bone, .int i_p0_state_king, .int i_p0_state_days])), (a_p0_state_seen, .inl (G 1, 6, .inl w2))]) hx hb hK hP hD hS 3 1 rfl rfl (ixB_in hc) dX11_see_43 (fun _ => rfl) (fun w2 ez H locs hP hD hS => ?_)
      replace hf := bnd_s hf ez
      clear ez hc
      refine lv_aload_n hx hb dX11_see_44 rfl (lv_at hl 0 rfl) ?_
      refine va_get (D := D) (ci := 11) (v := .ref a_p0_state) (C := RX11) (T := TX11) (N := 15) hx hb hts inX11_see_X11 hown hK hP 0 rfl rfl 1 (by decide) (hts _ mwX11_see_2) (fun _ h9 => h9) rfl dX11_see_45 ?_
      refine lv_dup hx hb dX11_see_48 rfl ?_
      refine va_get (D := D) (ci := 8) (v := .int i_p0_state_seenDays) (C := RX8) (T := TX8) (N := 9) hx hb hts inX11_see_X8 hown hK hP 2 rfl rfl 5 (by decide) (hts _ mwX11_see_4) (fun _ h9 => h9) rfl dX11_see_49 ?_
      refine lv_iconst (v := (1 : Int32)) hx hb dX11_see_52 (by decide) ?_
      refine lv_iadd hx hb dX11_see_53 ?_
      refine lv_topi (fun z3 ez => ?_)
      replace hf := bnd_s hf ez
      clear ez
      refine va_put (D := D) (ci := 8) (v := .int z3) (ty := .int) (C := RX8) (T := TX8) (N := 9) hx hb hts inX11_see_X8 tyX8 tyX8_ok nmX8 hown hK hP hD hS 2 rfl rfl 5 (by decide) (hts _ mwX11_see_4) (fun _ h9 => h9) rfl (by decide +kernel) rfl rfl (Nat.le_of_ble_eq_true rfl) dX11_see_54 (fun H locs hP hD hS => ?_)
      have hP : va_P D vwCl [(a_p0, .inr (11, [.ref a_p0_rules, .ref a_p0_state, .ref a_p0_tape, .ref a_p0_reader, .ref a_p0_kitchen, .ref a_p0_luck, .ref a_p0_plans, .ref a_p0_coups, .ref a_p0_past, .ref a_p0_fairDays, .ref a_p0_images, .ref a_p0_imageHeld, .ref a_p0_sheets, .int i_p0_latestFault, .int i_p0_latestTear])), (a_p0_rules, .inr (6, [.int i_p0_rules_seats, .int i_p0_rules_stirs, .ref a_p0_rules_need, .ref a_p0_rules_kind, .ref a_p0_rules_first, .ref a_p0_rules_second, .ref a_p0_rules_after])), (a_p0_state, .inr (8, [.ref a_p0_state_pieces, .ref a_p0_state_friends, .ref a_p0_state_spoons, .ref a_p0_state_eaten, .ref a_p0_state_seen, .int z3, .int i_p0_state_bone, .int i_p0_state_king, .int i_p0_state_days])), (a_p0_state_seen, .inl (G 1, 6, .inl w2))] H := hP
      have hD : va_D A [(a_p0, .inr (11, [.ref a_p0_rules, .ref a_p0_state, .ref a_p0_tape, .ref a_p0_reader, .ref a_p0_kitchen, .ref a_p0_luck, .ref a_p0_plans, .ref a_p0_coups, .ref a_p0_past, .ref a_p0_fairDays, .ref a_p0_images, .ref a_p0_imageHeld, .ref a_p0_sheets, .int i_p0_latestFault, .int i_p0_latestTear])), (a_p0_rules, .inr (6, [.int i_p0_rules_seats, .int i_p0_rules_stirs, .ref a_p0_rules_need, .ref a_p0_rules_kind, .ref a_p0_rules_first, .ref a_p0_rules_second, .ref a_p0_rules_after])), (a_p0_state, .inr (8, [.ref a_p0_state_pieces, .ref a_p0_state_friends, .ref a_p0_state_spoons, .ref a_p0_state_eaten, .ref a_p0_state_seen, .int z3, .int i_p0_state_bone, .int i_p0_state_king, .int i_p0_state_days])), (a_p0_state_seen, .inl (G 1, 6, .inl w2))] := hD
      refine lv_aload_n hx hb dX11_see_57 rfl (lv_at hl 0 rfl) ?_
      refine va_get (D := D) (ci := 11) (v := .ref a_p0_state) (C := RX11) (T := TX11) (N := 15) hx hb hts inX11_see_X11 hown hK hP 0 rfl rfl 1 (by decide) (hts _ mwX11_see_2) (fun _ h9 => h9) rfl dX11_see_58 ?_
      refine va_get (D := D) (ci := 8) (v := .int z3) (C := RX8) (T := TX8) (N := 9) hx hb hts inX11_see_X8 hown hK hP 2 rfl rfl 5 (by decide) (hts _ mwX11_see_4) (fun _ h9 => h9) rfl dX11_see_61 ?_
      obtain ⟨rfl, rfl, rfl⟩ := ou3 hf
      rw [hQ]
      exact W.iret hx hb hr (fun t ht hW => ⟨⟨_, (), rfl, rfl, by rw [ht]; exact hP, va_K.moved hW.alike hK, hD⟩, hS.F ht⟩) hS.2.2 dX11_see_64
    ·
      replace hf := ite_f cc hf
      clear cc
      refine lv_bipush (v := (-3 : Int32)) hx hb dX11_see_25 (by decide) ?_
      obtain ⟨rfl, rfl, rfl⟩ := ou3 hf
      rw [hQ]
      exact W.iret hx hb hr (fun t ht hW => ⟨⟨_, (), rfl, rfl, by rw [ht]; exact hP, va_K.moved hW.alike hK, hD⟩, hS.F ht⟩) hS.2.2 dX11_see_27
  ·
    replace hf := ite_t cc hf
    clear cc
    refine lv_iconst (v := (-1 : Int32)) hx hb dX11_see_11 (by decide) ?_
    obtain ⟨rfl, rfl, rfl⟩ := ou3 hf
    rw [hQ]
    exact W.iret hx hb hr (fun t ht hW => ⟨⟨_, (), rfl, rfl, by rw [ht]; exact hP, va_K.moved hW.alike hK, hD⟩, hS.F ht⟩) hS.2.2 dX11_see_12

noncomputable def f_X11_forget (i_p0_state_seenDays : Int32) (x1 : Int32) : Option (Int32 × Int32) := (if x1 < 0 then (some ((-1 : Int32), i_p0_state_seenDays)) else (if x1 ≤ i_p0_state_seenDays then (bnd i_p0_state_seenDays (fun (z1 : Int32) => (bnd x1 (fun (z2 : Int32) => (some (z1, z2)))))) else (some ((-1 : Int32), i_p0_state_seenDays))))
abbrev rm_X11_forget : Room := { frames := 0, cells := 0, slots := 0, locals := 0 }
theorem inX11_forget_X11 : ∀ w ∈ wsX110, w ∈ wsX11_forget := by decide +kernel
theorem mwX11_forget_1 : Cond.fieldLink RX11 19 "LadleKings" "state" "LLadleKings$State;" ∈ wsX11_forget := by decide +kernel
theorem inX11_forget_X8 : ∀ w ∈ wsX80, w ∈ wsX11_forget := by decide +kernel
theorem mwX11_forget_3 : Cond.fieldLink RX11 247 "LadleKings$State" "seenDays" "I" ∈ wsX11_forget := by decide +kernel
set_option maxHeartbeats 8000000 in
set_option maxRecDepth 100000 in
theorem c_X11_forget (l : Launch) (D : va_G) (G : Nat → ClassId) (sz : Nat) (a_p0 : Nat) (a_p0_rules : Nat) (a_p0_state : Nat) (a_p0_tape : Nat) (a_p0_reader : Nat) (a_p0_kitchen : Nat) (a_p0_luck : Nat) (a_p0_plans : Nat) (a_p0_coups : Nat) (a_p0_past : Nat) (a_p0_fairDays : Nat) (a_p0_images : Nat) (a_p0_imageHeld : Nat) (a_p0_sheets : Nat) (a_p0_state_pieces : Nat) (a_p0_state_friends : Nat) (a_p0_state_spoons : Nat) (a_p0_state_eaten : Nat) (a_p0_state_seen : Nat) (i_p0_latestFault : Int32) (i_p0_latestTear : Int32) (i_p0_state_seenDays : Int32) (i_p0_state_bone : Int32) (i_p0_state_king : Int32) (i_p0_state_days : Int32) (x1 : Int32) (r : Int32) (o_i_p0_state_seenDays : Int32) (hf : f_X11_forget i_p0_state_seenDays x1 = some (r, o_i_p0_state_seenDays)) : Met l yX11_forget wsX11_forget rm_X11_forget (pcG D G [.ref a_p0, .int x1] sz [(a_p0, .inr (11, [.ref a_p0_rules, .ref a_p0_state, .ref a_p0_tape, .ref a_p0_reader, .ref a_p0_kitchen, .ref a_p0_luck, .ref a_p0_plans, .ref a_p0_coups, .ref a_p0_past, .ref a_p0_fairDays, .ref a_p0_images, .ref a_p0_imageHeld, .ref a_p0_sheets, .int i_p0_latestFault, .int i_p0_latestTear])), (a_p0_state, .inr (8, [.ref a_p0_state_pieces, .ref a_p0_state_friends, .ref a_p0_state_spoons, .ref a_p0_state_eaten, .ref a_p0_state_seen, .int i_p0_state_seenDays, .int i_p0_state_bone, .int i_p0_state_king, .int i_p0_state_days]))]) (qcI D G r [(a_p0, .inr (11, [.ref a_p0_rules, .ref a_p0_state, .ref a_p0_tape, .ref a_p0_reader, .ref a_p0_kitchen, .ref a_p0_luck, .ref a_p0_plans, .ref a_p0_coups, .ref a_p0_past, .ref a_p0_fairDays, .ref a_p0_images, .ref a_p0_imageHeld, .ref a_p0_sheets, .int i_p0_latestFault, .int i_p0_latestTear])), (a_p0_state, .inr (8, [.ref a_p0_state_pieces, .ref a_p0_state_friends, .ref a_p0_state_spoons, .ref a_p0_state_eaten, .ref a_p0_state_seen, .int o_i_p0_state_seenDays, .int i_p0_state_bone, .int i_p0_state_king, .int i_p0_state_days]))] (va_A [(a_p0, .inr (11, [.ref a_p0_rules, .ref a_p0_state, .ref a_p0_tape, .ref a_p0_reader, .ref a_p0_kitchen, .ref a_p0_luck, .ref a_p0_plans, .ref a_p0_coups, .ref a_p0_past, .ref a_p0_fairDays, .ref a_p0_images, .ref a_p0_imageHeld, .ref a_p0_sheets, .int i_p0_latestFault, .int i_p0_latestTear])), (a_p0_state, .inr (8, [.ref a_p0_state_pieces, .ref a_p0_state_friends, .ref a_p0_state_spoons, .ref a_p0_state_eaten, .ref a_p0_state_seen, .int i_p0_state_seenDays, .int i_p0_state_bone, .int i_p0_state_king, .int i_p0_state_days]))] sz)) 0 0 (va_A [(a_p0, .inr (11, [.ref a_p0_rules, .ref a_p0_state, .ref a_p0_tape, .ref a_p0_reader, .ref a_p0_kitchen, .ref a_p0_luck, .ref a_p0_plans, .ref a_p0_coups, .ref a_p0_past, .ref a_p0_fairDays, .ref a_p0_images, .ref a_p0_imageHeld, .ref a_p0_sheets, .int i_p0_latestFault, .int i_p0_latestTear])), (a_p0_state, .inr (8, [.ref a_p0_state_pieces, .ref a_p0_state_friends, .ref a_p0_state_spoons, .ref a_p0_state_eaten, .ref a_p0_state_seen, .int i_p0_state_seenDays, .int i_p0_state_bone, .int i_p0_state_king, .int i_p0_state_days]))] sz) := by
  refine Met.ofW (cc := cX11_forget) (maxL := 3) (ret := (some .int)) (by decide) rfl ?_
  intro p e s m args below meth c s₁ B hml hv
  obtain ⟨rfl, hsz, hP, hK, hD0⟩ := hv
  have hx := B.exec
  have hb := B.bytes
  have hr := B.returns
  have hts := atoms_spec (ws := wsX11_forget) B.pre
  have hown : s.vm.findClass RX11 = some m.cls := findClass_of_methodNamed B.named
  have hlocks := B.notSynchronized
  subst hsz
  have hD := hD0.self (sz := s.heap.size)
  generalize hAe : va_A [(a_p0, .inr (11, [.ref a_p0_rules, .ref a_p0_state, .ref a_p0_tape, .ref a_p0_reader, .ref a_p0_kitchen, .ref a_p0_luck, .ref a_p0_plans, .ref a_p0_coups, .ref a_p0_past, .ref a_p0_fairDays, .ref a_p0_images, .ref a_p0_imageHeld, .ref a_p0_sheets, .int i_p0_latestFault, .int i_p0_latestTear])), (a_p0_state, .inr (8, [.ref a_p0_state_pieces, .ref a_p0_state_friends, .ref a_p0_state_spoons, .ref a_p0_state_eaten, .ref a_p0_state_seen, .int i_p0_state_seenDays, .int i_p0_state_bone, .int i_p0_state_king, .int i_p0_state_days]))] s.heap.size = A at hD ⊢
  have hA : ∀ q : Nat, s.heap.size ≤ q → A q := fun q h => by rw [← hAe]; exact Or.inr h
  clear hAe hD0
  have hS : va_S A s.heap s.heap [] := va_S.rf
  have hl := lv_entry ([.ref a_p0, .int x1]) (n := 3) (Nat.le_of_ble_eq_true rfl)
  rw [lg_entry_eq]
  generalize (lg_sl ([.ref a_p0, .int x1]) ++ List.replicate (3 - (lg_sl ([.ref a_p0, .int x1])).length) Slot.unset).toArray = ls at hl ⊢
  have hl : lv_has ls 3 [(0, .ref a_p0), (1, .int x1)] := hl
  refine W_nameQ (fun Q hQ => ?_)
  obtain ⟨H, hH⟩ : ∃ H, H = s.heap := ⟨_, rfl⟩
  replace hS : va_S A s.heap H [] := by rw [hH]; exact hS
  replace hP : va_P D vwCl [(a_p0, .inr (11, [.ref a_p0_rules, .ref a_p0_state, .ref a_p0_tape, .ref a_p0_reader, .ref a_p0_kitchen, .ref a_p0_luck, .ref a_p0_plans, .ref a_p0_coups, .ref a_p0_past, .ref a_p0_fairDays, .ref a_p0_images, .ref a_p0_imageHeld, .ref a_p0_sheets, .int i_p0_latestFault, .int i_p0_latestTear])), (a_p0_state, .inr (8, [.ref a_p0_state_pieces, .ref a_p0_state_friends, .ref a_p0_state_spoons, .ref a_p0_state_eaten, .ref a_p0_state_seen, .int i_p0_state_seenDays, .int i_p0_state_bone, .int i_p0_state_king, .int i_p0_state_days]))] H := by rw [hH]; exact hP
  rw [← hH]
  clear hH
  unfold f_X11_forget at hf
  refine lv_iload_n hx hb dX11_forget_0 rfl (lv_at hl 1 rfl) ?_
  refine lv_if_lt (tgt := 15) hx hb dX11_forget_1 (by decide) (fun cc => ?_) (fun cc => ?_)
  ·
    replace hf := ite_t cc hf
    clear cc
    refine lv_iconst (v := (-1 : Int32)) hx hb dX11_forget_15 (by decide) ?_
    obtain ⟨rfl, rfl⟩ := ou2 hf
    rw [hQ]
    exact W.iret hx hb hr (fun t ht hW => ⟨⟨_, (), rfl, rfl, by rw [ht]; exact hP, va_K.moved hW.alike hK, hD⟩, hS.F ht⟩) hS.2.2 dX11_forget_16
  ·
    replace hf := ite_f cc hf
    clear cc
    refine lv_iload_n hx hb dX11_forget_4 rfl (lv_at hl 1 rfl) ?_
    refine lv_aload_n hx hb dX11_forget_5 rfl (lv_at hl 0 rfl) ?_
    refine va_get (D := D) (ci := 11) (v := .ref a_p0_state) (C := RX11) (T := TX11) (N := 15) hx hb hts inX11_forget_X11 hown hK hP 0 rfl rfl 1 (by decide) (hts _ mwX11_forget_1) (fun _ h9 => h9) rfl dX11_forget_6 ?_
    refine va_get (D := D) (ci := 8) (v := .int i_p0_state_seenDays) (C := RX8) (T := TX8) (N := 9) hx hb hts inX11_forget_X8 hown hK hP 1 rfl rfl 5 (by decide) (hts _ mwX11_forget_3) (fun _ h9 => h9) rfl dX11_forget_9 ?_
    refine lv_icmp_le (tgt := 17) hx hb dX11_forget_12 (by decide) (fun cc => ?_) (fun cc => ?_)
    ·
      replace hf := ite_t cc hf
      clear cc
      refine lv_aload_n hx hb dX11_forget_17 rfl (lv_at hl 0 rfl) ?_
      refine va_get (D := D) (ci := 11) (v := .ref a_p0_state) (C := RX11) (T := TX11) (N := 15) hx hb hts inX11_forget_X11 hown hK hP 0 rfl rfl 1 (by decide) (hts _ mwX11_forget_1) (fun _ h9 => h9) rfl dX11_forget_18 ?_
      refine va_get (D := D) (ci := 8) (v := .int i_p0_state_seenDays) (C := RX8) (T := TX8) (N := 9) hx hb hts inX11_forget_X8 hown hK hP 1 rfl rfl 5 (by decide) (hts _ mwX11_forget_3) (fun _ h9 => h9) rfl dX11_forget_21 ?_
      refine lv_topi (fun z1 ez => ?_)
      replace hf := bnd_s hf ez
      clear ez
      refine lv_istore_n (lv' := [(2, .int z1), (0, .ref a_p0), (1, .int x1)]) hx hb dX11_forget_24 rfl hl (by decide) rfl (fun ls hl => ?_)
      refine lv_aload_n hx hb dX11_forget_25 rfl (lv_at hl 1 rfl) ?_
      refine va_get (D := D) (ci := 11) (v := .ref a_p0_state) (C := RX11) (T := TX11) (N := 15) hx hb hts inX11_forget_X11 hown hK hP 0 rfl rfl 1 (by decide) (hts _ mwX11_forget_1) (fun _ h9 => h9) rfl dX11_forget_26 ?_
      refine lv_iload_n hx hb dX11_forget_29 rfl (lv_at hl 2 rfl) ?_
      refine lv_topi (fun z2 ez => ?_)
      replace hf := bnd_s hf ez
      clear ez
      refine va_put (D := D) (ci := 8) (v := .int z2) (ty := .int) (C := RX8) (T := TX8) (N := 9) hx hb hts inX11_forget_X8 tyX8 tyX8_ok nmX8 hown hK hP hD hS 1 rfl rfl 5 (by decide) (hts _ mwX11_forget_3) (fun _ h9 => h9) rfl (by decide +kernel) rfl rfl (Nat.le_of_ble_eq_true rfl) dX11_forget_30 (fun H locs hP hD hS => ?_)
      have hP : va_P D vwCl [(a_p0, .inr (11, [.ref a_p0_rules, .ref a_p0_state, .ref a_p0_tape, .ref a_p0_reader, .ref a_p0_kitchen, .ref a_p0_luck, .ref a_p0_plans, .ref a_p0_coups, .ref a_p0_past, .ref a_p0_fairDays, .ref a_p0_images, .ref a_p0_imageHeld, .ref a_p0_sheets, .int i_p0_latestFault, .int i_p0_latestTear])), (a_p0_state, .inr (8, [.ref a_p0_state_pieces, .ref a_p0_state_friends, .ref a_p0_state_spoons, .ref a_p0_state_eaten, .ref a_p0_state_seen, .int z2, .int i_p0_state_bone, .int i_p0_state_king, .int i_p0_state_days]))] H := hP
      have hD : va_D A [(a_p0, .inr (11, [.ref a_p0_rules, .ref a_p0_state, .ref a_p0_tape, .ref a_p0_reader, .ref a_p0_kitchen, .ref a_p0_luck, .ref a_p0_plans, .ref a_p0_coups, .ref a_p0_past, .ref a_p0_fairDays, .ref a_p0_images, .ref a_p0_imageHeld, .ref a_p0_sheets, .int i_p0_latestFault, .int i_p0_latestTear])), (a_p0_state, .inr (8, [.ref a_p0_state_pieces, .ref a_p0_state_friends, .ref a_p0_state_spoons, .ref a_p0_state_eaten, .ref a_p0_state_seen, .int z2, .int i_p0_state_bone, .int i_p0_state_king, .int i_p0_state_days]))] := hD
      refine lv_iload_n hx hb dX11_forget_33 rfl (lv_at hl 0 rfl) ?_
      obtain ⟨rfl, rfl⟩ := ou2 hf
      rw [hQ]
      exact W.iret hx hb hr (fun t ht hW => ⟨⟨_, (), rfl, rfl, by rw [ht]; exact hP, va_K.moved hW.alike hK, hD⟩, hS.F ht⟩) hS.2.2 dX11_forget_34
    ·
      replace hf := ite_f cc hf
      clear cc
      refine lv_iconst (v := (-1 : Int32)) hx hb dX11_forget_15 (by decide) ?_
      obtain ⟨rfl, rfl⟩ := ou2 hf
      rw [hQ]
      exact W.iret hx hb hr (fun t ht hW => ⟨⟨_, (), rfl, rfl, by rw [ht]; exact hP, va_K.moved hW.alike hK, hD⟩, hS.F ht⟩) hS.2.2 dX11_forget_16

noncomputable def f_X11_histories (i_p0_rules_stirs : Int32) (i_p0_state_seenDays : Int32) (i_p0_state_bone : Int32) (i_p0_state_king : Int32) (v_p0_state_seen : (Nat → Int32)) (v_p0_past_fitting : (Nat → Int32)) (x1 : Int32) : Option (Int32) := (bd1 (f_X11_isRowQuestion x1 (6 : Int32)) (fun (z1 : Int32) => (if z1 = 0 then (some (-1 : Int32)) else (if x1 = 0 then (bd1 (f_X4_howMany i_p0_state_seenDays i_p0_state_bone i_p0_state_king v_p0_state_seen) (fun (z3 : Int32) => (some z3))) else (bd1 (f_X4_firstStirOfDay i_p0_rules_stirs i_p0_state_seenDays i_p0_state_bone i_p0_state_king v_p0_state_seen v_p0_past_fitting (x1 - (10 : Int32))) (fun (z2 : Int32) => (some z2)))))))
abbrev rm_X11_histories : Room := { frames := 3, cells := 0, slots := 0, locals := 71 }
theorem inX11_histories_X11 : ∀ w ∈ wsX110, w ∈ wsX11_histories := by decide +kernel
theorem mwX11_histories_1 : Cond.fieldLink RX11 74 "LadleKings" "past" "LLadleKings$Past;" ∈ wsX11_histories := by decide +kernel
set_option maxHeartbeats 8000000 in
set_option maxRecDepth 100000 in
theorem c_X11_histories (l : Launch) (D : va_G) (G : Nat → ClassId) (sz : Nat) (a_p0 : Nat) (a_p0_rules : Nat) (a_p0_state : Nat) (a_p0_tape : Nat) (a_p0_reader : Nat) (a_p0_kitchen : Nat) (a_p0_luck : Nat) (a_p0_plans : Nat) (a_p0_coups : Nat) (a_p0_past : Nat) (a_p0_fairDays : Nat) (a_p0_images : Nat) (a_p0_imageHeld : Nat) (a_p0_sheets : Nat) (a_p0_rules_need : Nat) (a_p0_rules_kind : Nat) (a_p0_rules_first : Nat) (a_p0_rules_second : Nat) (a_p0_rules_after : Nat) (a_p0_state_pieces : Nat) (a_p0_state_friends : Nat) (a_p0_state_spoons : Nat) (a_p0_state_eaten : Nat) (a_p0_state_seen : Nat) (a_p0_kitchen_places : Nat) (a_p0_kitchen_holders : Nat) (a_p0_kitchen_stirred : Nat) (a_p0_past_fitting : Nat) (i_p0_latestFault : Int32) (i_p0_latestTear : Int32) (i_p0_rules_seats : Int32) (i_p0_rules_stirs : Int32) (i_p0_state_seenDays : Int32) (i_p0_state_bone : Int32) (i_p0_state_king : Int32) (i_p0_state_days : Int32) (v_p0_state_seen : (Nat → Int32)) (v_p0_past_fitting : (Nat → Int32)) (x1 : Int32) (r : Int32) (hf : f_X11_histories i_p0_rules_stirs i_p0_state_seenDays i_p0_state_bone i_p0_state_king v_p0_state_seen v_p0_past_fitting x1 = some r) : Met l yX11_histories wsX11_histories rm_X11_histories (pcG D G [.ref a_p0, .int x1] sz [(a_p0, .inr (11, [.ref a_p0_rules, .ref a_p0_state, .ref a_p0_tape, .ref a_p0_reader, .ref a_p0_kitchen, .ref a_p0_luck, .ref a_p0_plans, .ref a_p0_coups, .ref a_p0_past, .ref a_p0_fairDays, .ref a_p0_images, .ref a_p0_imageHeld, .ref a_p0_sheets, .int i_p0_latestFault, .int i_p0_latestTear])), (a_p0_rules, .inr (6, [.int i_p0_rules_seats, .int i_p0_rules_stirs, .ref a_p0_rules_need, .ref a_p0_rules_kind, .ref a_p0_rules_first, .ref a_p0_rules_second, .ref a_p0_rules_after])), (a_p0_state, .inr (8, [.ref a_p0_state_pieces, .ref a_p0_state_friends, .ref a_p0_state_spoons, .ref a_p0_state_eaten, .ref a_p0_state_seen, .int i_p0_state_seenDays, .int i_p0_state_bone, .int i_p0_state_king, .int i_p0_state_days])), (a_p0_state_seen, .inl (G 1, 6, .inl v_p0_state_seen)), (a_p0_kitchen, .inr (2, [.ref a_p0_rules, .ref a_p0_state, .ref a_p0_kitchen_places, .ref a_p0_kitchen_holders, .ref a_p0_kitchen_stirred])), (a_p0_past, .inr (4, [.ref a_p0_kitchen, .ref a_p0_past_fitting])), (a_p0_past_fitting, .inl (G 1, 6, .inl v_p0_past_fitting))]) (qcI D G r [(a_p0, .inr (11, [.ref a_p0_rules, .ref a_p0_state, .ref a_p0_tape, .ref a_p0_reader, .ref a_p0_kitchen, .ref a_p0_luck, .ref a_p0_plans, .ref a_p0_coups, .ref a_p0_past, .ref a_p0_fairDays, .ref a_p0_images, .ref a_p0_imageHeld, .ref a_p0_sheets, .int i_p0_latestFault, .int i_p0_latestTear])), (a_p0_rules, .inr (6, [.int i_p0_rules_seats, .int i_p0_rules_stirs, .ref a_p0_rules_need, .ref a_p0_rules_kind, .ref a_p0_rules_first, .ref a_p0_rules_second, .ref a_p0_rules_after])), (a_p0_state, .inr (8, [.ref a_p0_state_pieces, .ref a_p0_state_friends, .ref a_p0_state_spoons, .ref a_p0_state_eaten, .ref a_p0_state_seen, .int i_p0_state_seenDays, .int i_p0_state_bone, .int i_p0_state_king, .int i_p0_state_days])), (a_p0_state_seen, .inl (G 1, 6, .inl v_p0_state_seen)), (a_p0_kitchen, .inr (2, [.ref a_p0_rules, .ref a_p0_state, .ref a_p0_kitchen_places, .ref a_p0_kitchen_holders, .ref a_p0_kitchen_stirred])), (a_p0_past, .inr (4, [.ref a_p0_kitchen, .ref a_p0_past_fitting])), (a_p0_past_fitting, .inl (G 1, 6, .inl v_p0_past_fitting))] (va_A [(a_p0, .inr (11, [.ref a_p0_rules, .ref a_p0_state, .ref a_p0_tape, .ref a_p0_reader, .ref a_p0_kitchen, .ref a_p0_luck, .ref a_p0_plans, .ref a_p0_coups, .ref a_p0_past, .ref a_p0_fairDays, .ref a_p0_images, .ref a_p0_imageHeld, .ref a_p0_sheets, .int i_p0_latestFault, .int i_p0_latestTear])), (a_p0_rules, .inr (6, [.int i_p0_rules_seats, .int i_p0_rules_stirs, .ref a_p0_rules_need, .ref a_p0_rules_kind, .ref a_p0_rules_first, .ref a_p0_rules_second, .ref a_p0_rules_after])), (a_p0_state, .inr (8, [.ref a_p0_state_pieces, .ref a_p0_state_friends, .ref a_p0_state_spoons, .ref a_p0_state_eaten, .ref a_p0_state_seen, .int i_p0_state_seenDays, .int i_p0_state_bone, .int i_p0_state_king, .int i_p0_state_days])), (a_p0_state_seen, .inl (G 1, 6, .inl v_p0_state_seen)), (a_p0_kitchen, .inr (2, [.ref a_p0_rules, .ref a_p0_state, .ref a_p0_kitchen_places, .ref a_p0_kitchen_holders, .ref a_p0_kitchen_stirred])), (a_p0_past, .inr (4, [.ref a_p0_kitchen, .ref a_p0_past_fitting])), (a_p0_past_fitting, .inl (G 1, 6, .inl v_p0_past_fitting))] sz)) 0 0 (va_A [(a_p0, .inr (11, [.ref a_p0_rules, .ref a_p0_state, .ref a_p0_tape, .ref a_p0_reader, .ref a_p0_kitchen, .ref a_p0_luck, .ref a_p0_plans, .ref a_p0_coups, .ref a_p0_past, .ref a_p0_fairDays, .ref a_p0_images, .ref a_p0_imageHeld, .ref a_p0_sheets, .int i_p0_latestFault, .int i_p0_latestTear])), (a_p0_rules, .inr (6, [.int i_p0_rules_seats, .int i_p0_rules_stirs, .ref a_p0_rules_need, .ref a_p0_rules_kind, .ref a_p0_rules_first, .ref a_p0_rules_second, .ref a_p0_rules_after])), (a_p0_state, .inr (8, [.ref a_p0_state_pieces, .ref a_p0_state_friends, .ref a_p0_state_spoons, .ref a_p0_state_eaten, .ref a_p0_state_seen, .int i_p0_state_seenDays, .int i_p0_state_bone, .int i_p0_state_king, .int i_p0_state_days])), (a_p0_state_seen, .inl (G 1, 6, .inl v_p0_state_seen)), (a_p0_kitchen, .inr (2, [.ref a_p0_rules, .ref a_p0_state, .ref a_p0_kitchen_places, .ref a_p0_kitchen_holders, .ref a_p0_kitchen_stirred])), (a_p0_past, .inr (4, [.ref a_p0_kitchen, .ref a_p0_past_fitting])), (a_p0_past_fitting, .inl (G 1, 6, .inl v_p0_past_fitting))] sz) := by
  refine Met.ofW (cc := cX11_histories) (maxL := 2) (ret := (some .int)) (by decide) rfl ?_
  intro p e s m args below meth c s₁ B hml hv
  obtain ⟨rfl, hsz, hP, hK, hD0⟩ := hv
  have hx := B.exec
  have hb := B.bytes
  have hr := B.returns
  have hts := atoms_spec (ws := wsX11_histories) B.pre
  have hown : s.vm.findClass RX11 = some m.cls := findClass_of_methodNamed B.named
  have hlocks := B.notSynchronized
  subst hsz
  have hD := hD0.self (sz := s.heap.size)
  generalize hAe : va_A [(a_p0, .inr (11, [.ref a_p0_rules, .ref a_p0_state, .ref a_p0_tape, .ref a_p0_reader, .ref a_p0_kitchen, .ref a_p0_luck, .ref a_p0_plans, .ref a_p0_coups, .ref a_p0_past, .ref a_p0_fairDays, .ref a_p0_images, .ref a_p0_imageHeld, .ref a_p0_sheets, .int i_p0_latestFault, .int i_p0_latestTear])), (a_p0_rules, .inr (6, [.int i_p0_rules_seats, .int i_p0_rules_stirs, .ref a_p0_rules_need, .ref a_p0_rules_kind, .ref a_p0_rules_first, .ref a_p0_rules_second, .ref a_p0_rules_after])), (a_p0_state, .inr (8, [.ref a_p0_state_pieces, .ref a_p0_state_friends, .ref a_p0_state_spoons, .ref a_p0_state_eaten, .ref a_p0_state_seen, .int i_p0_state_seenDays, .int i_p0_state_bone, .int i_p0_state_king, .int i_p0_state_days])), (a_p0_state_seen, .inl (G 1, 6, .inl v_p0_state_seen)), (a_p0_kitchen, .inr (2, [.ref a_p0_rules, .ref a_p0_state, .ref a_p0_kitchen_places, .ref a_p0_kitchen_holders, .ref a_p0_kitchen_stirred])), (a_p0_past, .inr (4, [.ref a_p0_kitchen, .ref a_p0_past_fitting])), (a_p0_past_fitting, .inl (G 1, 6, .inl v_p0_past_fitting))] s.heap.size = A at hD ⊢
  have hA : ∀ q : Nat, s.heap.size ≤ q → A q := fun q h => by rw [← hAe]; exact Or.inr h
  clear hAe hD0
  have hS : va_S A s.heap s.heap [] := va_S.rf
  have hl := lv_entry ([.ref a_p0, .int x1]) (n := 2) (Nat.le_of_ble_eq_true rfl)
  rw [lg_entry_eq]
  generalize (lg_sl ([.ref a_p0, .int x1]) ++ List.replicate (2 - (lg_sl ([.ref a_p0, .int x1])).length) Slot.unset).toArray = ls at hl ⊢
  have hl : lv_has ls 2 [(0, .ref a_p0), (1, .int x1)] := hl
  refine W_nameQ (fun Q hQ => ?_)
  obtain ⟨H, hH⟩ : ∃ H, H = s.heap := ⟨_, rfl⟩
  replace hS : va_S A s.heap H [] := by rw [hH]; exact hS
  replace hP : va_P D vwCl [(a_p0, .inr (11, [.ref a_p0_rules, .ref a_p0_state, .ref a_p0_tape, .ref a_p0_reader, .ref a_p0_kitchen, .ref a_p0_luck, .ref a_p0_plans, .ref a_p0_coups, .ref a_p0_past, .ref a_p0_fairDays, .ref a_p0_images, .ref a_p0_imageHeld, .ref a_p0_sheets, .int i_p0_latestFault, .int i_p0_latestTear])), (a_p0_rules, .inr (6, [.int i_p0_rules_seats, .int i_p0_rules_stirs, .ref a_p0_rules_need, .ref a_p0_rules_kind, .ref a_p0_rules_first, .ref a_p0_rules_second, .ref a_p0_rules_after])), (a_p0_state, .inr (8, [.ref a_p0_state_pieces, .ref a_p0_state_friends, .ref a_p0_state_spoons, .ref a_p0_state_eaten, .ref a_p0_state_seen, .int i_p0_state_seenDays, .int i_p0_state_bone, .int i_p0_state_king, .int i_p0_state_days])), (a_p0_state_seen, .inl (G 1, 6, .inl v_p0_state_seen)), (a_p0_kitchen, .inr (2, [.ref a_p0_rules, .ref a_p0_state, .ref a_p0_kitchen_places, .ref a_p0_kitchen_holders, .ref a_p0_kitchen_stirred])), (a_p0_past, .inr (4, [.ref a_p0_kitchen, .ref a_p0_past_fitting])), (a_p0_past_fitting, .inl (G 1, 6, .inl v_p0_past_fitting))] H := by rw [hH]; exact hP
  rw [← hH]
  clear hH
  unfold f_X11_histories at hf
  refine lv_iload_n hx hb dX11_histories_0 rfl (lv_at hl 1 rfl) ?_
  refine lv_bipush (v := (6 : Int32)) hx hb dX11_histories_1 (by decide) ?_
  have hq := bd1_s hf
  clear hf
  obtain ⟨z1, hcall, hf⟩ := hq
  refine gcI (ws' := [(a_p0, .inr (11, [.ref a_p0_rules, .ref a_p0_state, .ref a_p0_tape, .ref a_p0_reader, .ref a_p0_kitchen, .ref a_p0_luck, .ref a_p0_plans, .ref a_p0_coups, .ref a_p0_past, .ref a_p0_fairDays, .ref a_p0_images, .ref a_p0_imageHeld, .ref a_p0_sheets, .int i_p0_latestFault, .int i_p0_latestTear])), (a_p0_rules, .inr (6, [.int i_p0_rules_seats, .int i_p0_rules_stirs, .ref a_p0_rules_need, .ref a_p0_rules_kind, .ref a_p0_rules_first, .ref a_p0_rules_second, .ref a_p0_rules_after])), (a_p0_state, .inr (8, [.ref a_p0_state_pieces, .ref a_p0_state_friends, .ref a_p0_state_spoons, .ref a_p0_state_eaten, .ref a_p0_state_seen, .int i_p0_state_seenDays, .int i_p0_state_bone, .int i_p0_state_king, .int i_p0_state_days])), (a_p0_state_seen, .inl (G 1, 6, .inl v_p0_state_seen)), (a_p0_kitchen, .inr (2, [.ref a_p0_rules, .ref a_p0_state, .ref a_p0_kitchen_places, .ref a_p0_kitchen_holders, .ref a_p0_kitchen_stirred])), (a_p0_past, .inr (4, [.ref a_p0_kitchen, .ref a_p0_past_fitting])), (a_p0_past_fitting, .inl (G 1, 6, .inl v_p0_past_fitting))]) (va_runS (As := [.int x1, .int (6 : Int32)]) (rest := []) ⟨hx, hb, hml, hown, hts⟩ (c_X11_isRowQuestion (l := l) (D := D) (G := G) (sz := H.size) (x0 := x1) (x1 := (6 : Int32)) (r := z1) (hf := hcall)) (va_cwS 2 hts gX11_histories_X11_isRowQuestion rfl rfl rfl (by decide +kernel) ⟨Nat.le_of_ble_eq_true rfl, Nat.le_of_ble_eq_true rfl⟩) (preG_S (hP.sub [] rfl) (hD.sub [] rfl rfl) hK) rfl rfl hl.1 rfl (lv_room (Nat.le_of_ble_eq_true rfl)) dX11_histories_3 ⟨Nat.le_of_ble_eq_true rfl, Nat.le_of_ble_eq_true rfl⟩) hP hD hS hA [] [0, 1, 2, 3, 4, 5, 6] [0, 1, 2, 3, 4, 5, 6] rfl rfl rfl (by decide) rfl rfl rfl (fun H locs hP hD hS => ?_)
  clear hcall
  refine lv_if_ne (tgt := 11) hx hb dX11_histories_6 (by decide) (fun cc => ?_) (fun cc => ?_)
  ·
    replace hf := ite_f cc hf
    clear cc
    refine lv_iload_n hx hb dX11_histories_11 rfl (lv_at hl 1 rfl) ?_
    refine lv_if_ne (tgt := 25) hx hb dX11_histories_12 (by decide) (fun cc => ?_) (fun cc => ?_)
    ·
      replace hf := ite_f cc hf
      clear cc
      refine lv_aload_n hx hb dX11_histories_25 rfl (lv_at hl 0 rfl) ?_
      refine va_get (D := D) (ci := 11) (v := .ref a_p0_past) (C := RX11) (T := TX11) (N := 15) hx hb hts inX11_histories_X11 hown hK hP 0 rfl rfl 8 (by decide) (hts _ mwX11_histories_1) (fun _ h9 => h9) rfl dX11_histories_26 ?_
      refine lv_iload_n hx hb dX11_histories_29 rfl (lv_at hl 1 rfl) ?_
      refine lv_bipush (v := (10 : Int32)) hx hb dX11_histories_30 (by decide) ?_
      refine lv_isub hx hb dX11_histories_32 ?_
      have hq := bd1_s hf
      clear hf
      obtain ⟨z2, hcall, hf⟩ := hq
      refine gcI (ws' := [(a_p0, .inr (11, [.ref a_p0_rules, .ref a_p0_state, .ref a_p0_tape, .ref a_p0_reader, .ref a_p0_kitchen, .ref a_p0_luck, .ref a_p0_plans, .ref a_p0_coups, .ref a_p0_past, .ref a_p0_fairDays, .ref a_p0_images, .ref a_p0_imageHeld, .ref a_p0_sheets, .int i_p0_latestFault, .int i_p0_latestTear])), (a_p0_rules, .inr (6, [.int i_p0_rules_seats, .int i_p0_rules_stirs, .ref a_p0_rules_need, .ref a_p0_rules_kind, .ref a_p0_rules_first, .ref a_p0_rules_second, .ref a_p0_rules_after])), (a_p0_state, .inr (8, [.ref a_p0_state_pieces, .ref a_p0_state_friends, .ref a_p0_state_spoons, .ref a_p0_state_eaten, .ref a_p0_state_seen, .int i_p0_state_seenDays, .int i_p0_state_bone, .int i_p0_state_king, .int i_p0_state_days])), (a_p0_state_seen, .inl (G 1, 6, .inl v_p0_state_seen)), (a_p0_kitchen, .inr (2, [.ref a_p0_rules, .ref a_p0_state, .ref a_p0_kitchen_places, .ref a_p0_kitchen_holders, .ref a_p0_kitchen_stirred])), (a_p0_past, .inr (4, [.ref a_p0_kitchen, .ref a_p0_past_fitting])), (a_p0_past_fitting, .inl (G 1, 6, .inl v_p0_past_fitting))]) (va_runV (As := [.int (x1 - (10 : Int32))]) (rest := []) ⟨hx, hb, hml, hown, hts⟩ (c_X4_firstStirOfDay (l := l) (D := D) (G := G) (sz := H.size) (a_p0 := a_p0_past) (a_p0_kitchen := a_p0_kitchen) (a_p0_fitting := a_p0_past_fitting) (a_p0_kitchen_rules := a_p0_rules) (a_p0_kitchen_state := a_p0_state) (a_p0_kitchen_places := a_p0_kitchen_places) (a_p0_kitchen_holders := a_p0_kitchen_holders) (a_p0_kitchen_stirred := a_p0_kitchen_stirred) (a_p0_kitchen_rules_need := a_p0_rules_need) (a_p0_kitchen_rules_kind := a_p0_rules_kind) (a_p0_kitchen_rules_first := a_p0_rules_first) (a_p0_kitchen_rules_second := a_p0_rules_second) (a_p0_kitchen_rules_after := a_p0_rules_after) (a_p0_kitchen_state_pieces := a_p0_state_pieces) (a_p0_kitchen_state_friends := a_p0_state_friends) (a_p0_kitchen_state_spoons := a_p0_state_spoons) (a_p0_kitchen_state_eaten := a_p0_state_eaten) (a_p0_kitchen_state_seen := a_p0_state_seen) (i_p0_kitchen_rules_seats := i_p0_rules_seats) (i_p0_kitchen_rules_stirs := i_p0_rules_stirs) (i_p0_kitchen_state_seenDays := i_p0_state_seenDays) (i_p0_kitchen_state_bone := i_p0_state_bone) (i_p0_kitchen_state_king := i_p0_state_king) (i_p0_kitchen_state_days := i_p0_state_days) (v_p0_kitchen_state_seen := v_p0_state_seen) (v_p0_fitting := v_p0_past_fitting) (x1 := (x1 - (10 : Int32))) (r := z2) (hf := hcall)) (cwV 1 hts gX11_histories_X4_firstStirOfDay rfl rfl rfl (by decide +kernel) ⟨Nat.le_of_ble_eq_true rfl, Nat.le_of_ble_eq_true rfl⟩) (preG_V (ci := 4) (hP.sub [5, 4, 1, 2, 3, 6] rfl) (hD.sub [5, 4, 1, 2, 3, 6] rfl rfl) hK rfl rfl) rfl rfl hl.1 rfl (lv_room (Nat.le_of_ble_eq_true rfl)) dX11_histories_33 ⟨Nat.le_of_ble_eq_true rfl, Nat.le_of_ble_eq_true rfl⟩) hP hD hS hA [5, 4, 1, 2, 3, 6] [0] [0, 3, 4, 5, 2, 1, 6] rfl rfl rfl (by decide) rfl rfl rfl (fun H locs hP hD hS => ?_)
      clear hcall
      obtain rfl := ou1 hf
      rw [hQ]
      exact W.iret hx hb hr (fun t ht hW => ⟨⟨_, (), rfl, rfl, by rw [ht]; exact hP, va_K.moved hW.alike hK, hD⟩, hS.F ht⟩) hS.2.2 dX11_histories_36
    ·
      replace hf := ite_t cc hf
      clear cc
      refine lv_aload_n hx hb dX11_histories_15 rfl (lv_at hl 0 rfl) ?_
      refine va_get (D := D) (ci := 11) (v := .ref a_p0_past) (C := RX11) (T := TX11) (N := 15) hx hb hts inX11_histories_X11 hown hK hP 0 rfl rfl 8 (by decide) (hts _ mwX11_histories_1) (fun _ h9 => h9) rfl dX11_histories_16 ?_
      have hq := bd1_s hf
      clear hf
      obtain ⟨z3, hcall, hf⟩ := hq
      refine gcI (ws' := [(a_p0, .inr (11, [.ref a_p0_rules, .ref a_p0_state, .ref a_p0_tape, .ref a_p0_reader, .ref a_p0_kitchen, .ref a_p0_luck, .ref a_p0_plans, .ref a_p0_coups, .ref a_p0_past, .ref a_p0_fairDays, .ref a_p0_images, .ref a_p0_imageHeld, .ref a_p0_sheets, .int i_p0_latestFault, .int i_p0_latestTear])), (a_p0_rules, .inr (6, [.int i_p0_rules_seats, .int i_p0_rules_stirs, .ref a_p0_rules_need, .ref a_p0_rules_kind, .ref a_p0_rules_first, .ref a_p0_rules_second, .ref a_p0_rules_after])), (a_p0_state, .inr (8, [.ref a_p0_state_pieces, .ref a_p0_state_friends, .ref a_p0_state_spoons, .ref a_p0_state_eaten, .ref a_p0_state_seen, .int i_p0_state_seenDays, .int i_p0_state_bone, .int i_p0_state_king, .int i_p0_state_days])), (a_p0_state_seen, .inl (G 1, 6, .inl v_p0_state_seen)), (a_p0_kitchen, .inr (2, [.ref a_p0_rules, .ref a_p0_state, .ref a_p0_kitchen_places, .ref a_p0_kitchen_holders, .ref a_p0_kitchen_stirred])), (a_p0_past, .inr (4, [.ref a_p0_kitchen, .ref a_p0_past_fitting])), (a_p0_past_fitting, .inl (G 1, 6, .inl v_p0_past_fitting))]) (va_runV (As := []) (rest := []) ⟨hx, hb, hml, hown, hts⟩ (c_X4_howMany (l := l) (D := D) (G := G) (sz := H.size) (a_p0 := a_p0_past) (a_p0_kitchen := a_p0_kitchen) (a_p0_fitting := a_p0_past_fitting) (a_p0_kitchen_rules := a_p0_rules) (a_p0_kitchen_state := a_p0_state) (a_p0_kitchen_places := a_p0_kitchen_places) (a_p0_kitchen_holders := a_p0_kitchen_holders) (a_p0_kitchen_stirred := a_p0_kitchen_stirred) (a_p0_kitchen_state_pieces := a_p0_state_pieces) (a_p0_kitchen_state_friends := a_p0_state_friends) (a_p0_kitchen_state_spoons := a_p0_state_spoons) (a_p0_kitchen_state_eaten := a_p0_state_eaten) (a_p0_kitchen_state_seen := a_p0_state_seen) (i_p0_kitchen_state_seenDays := i_p0_state_seenDays) (i_p0_kitchen_state_bone := i_p0_state_bone) (i_p0_kitchen_state_king := i_p0_state_king) (i_p0_kitchen_state_days := i_p0_state_days) (v_p0_kitchen_state_seen := v_p0_state_seen) (r := z3) (hf := hcall)) (cwV 0 hts gX11_histories_X4_howMany rfl rfl rfl (by decide +kernel) ⟨Nat.le_of_ble_eq_true rfl, Nat.le_of_ble_eq_true rfl⟩) (preG_V (ci := 4) (hP.sub [5, 4, 2, 3] rfl) (hD.sub [5, 4, 2, 3] rfl rfl) hK rfl rfl) rfl rfl hl.1 rfl (lv_room (Nat.le_of_ble_eq_true rfl)) dX11_histories_19 ⟨Nat.le_of_ble_eq_true rfl, Nat.le_of_ble_eq_true rfl⟩) hP hD hS hA [5, 4, 2, 3] [0, 1, 6] [0, 1, 5, 6, 4, 3, 2] rfl rfl rfl (by decide) rfl rfl rfl (fun H locs hP hD hS => ?_)
      clear hcall
      refine lv_goto (tgt := 36) hx hb dX11_histories_22 (by decide) ?_
      obtain rfl := ou1 hf
      rw [hQ]
      exact W.iret hx hb hr (fun t ht hW => ⟨⟨_, (), rfl, rfl, by rw [ht]; exact hP, va_K.moved hW.alike hK, hD⟩, hS.F ht⟩) hS.2.2 dX11_histories_36
  ·
    replace hf := ite_t cc hf
    clear cc
    refine lv_iconst (v := (-1 : Int32)) hx hb dX11_histories_9 (by decide) ?_
    obtain rfl := ou1 hf
    rw [hQ]
    exact W.iret hx hb hr (fun t ht hW => ⟨⟨_, (), rfl, rfl, by rw [ht]; exact hP, va_K.moved hW.alike hK, hD⟩, hS.F ht⟩) hS.2.2 dX11_histories_10

noncomputable def f_X11_could (i_p0_state_seenDays : Int32) (i_p0_state_bone : Int32) (i_p0_state_king : Int32) (v_p0_state_seen : (Nat → Int32)) (v_p0_past_fitting : (Nat → Int32)) (x1 : Int32) : Option (Int32) := (if x1 < 0 then (some (-1 : Int32)) else (if x1 < i_p0_state_seenDays then (bd1 (f_X4_stirsOfDay i_p0_state_seenDays i_p0_state_bone i_p0_state_king v_p0_state_seen v_p0_past_fitting x1) (fun (z1 : Int32) => (some z1))) else (some (-1 : Int32))))
abbrev rm_X11_could : Room := { frames := 2, cells := 0, slots := 0, locals := 48 }
theorem inX11_could_X11 : ∀ w ∈ wsX110, w ∈ wsX11_could := by decide +kernel
theorem mwX11_could_1 : Cond.fieldLink RX11 19 "LadleKings" "state" "LLadleKings$State;" ∈ wsX11_could := by decide +kernel
theorem inX11_could_X8 : ∀ w ∈ wsX80, w ∈ wsX11_could := by decide +kernel
theorem mwX11_could_3 : Cond.fieldLink RX11 247 "LadleKings$State" "seenDays" "I" ∈ wsX11_could := by decide +kernel
theorem mwX11_could_4 : Cond.fieldLink RX11 74 "LadleKings" "past" "LLadleKings$Past;" ∈ wsX11_could := by decide +kernel
set_option maxHeartbeats 8000000 in
set_option maxRecDepth 100000 in
theorem c_X11_could (l : Launch) (D : va_G) (G : Nat → ClassId) (sz : Nat) (a_p0 : Nat) (a_p0_rules : Nat) (a_p0_state : Nat) (a_p0_tape : Nat) (a_p0_reader : Nat) (a_p0_kitchen : Nat) (a_p0_luck : Nat) (a_p0_plans : Nat) (a_p0_coups : Nat) (a_p0_past : Nat) (a_p0_fairDays : Nat) (a_p0_images : Nat) (a_p0_imageHeld : Nat) (a_p0_sheets : Nat) (a_p0_state_pieces : Nat) (a_p0_state_friends : Nat) (a_p0_state_spoons : Nat) (a_p0_state_eaten : Nat) (a_p0_state_seen : Nat) (a_p0_kitchen_places : Nat) (a_p0_kitchen_holders : Nat) (a_p0_kitchen_stirred : Nat) (a_p0_past_fitting : Nat) (i_p0_latestFault : Int32) (i_p0_latestTear : Int32) (i_p0_state_seenDays : Int32) (i_p0_state_bone : Int32) (i_p0_state_king : Int32) (i_p0_state_days : Int32) (v_p0_state_seen : (Nat → Int32)) (v_p0_past_fitting : (Nat → Int32)) (x1 : Int32) (r : Int32) (hf : f_X11_could i_p0_state_seenDays i_p0_state_bone i_p0_state_king v_p0_state_seen v_p0_past_fitting x1 = some r) : Met l yX11_could wsX11_could rm_X11_could (pcG D G [.ref a_p0, .int x1] sz [(a_p0, .inr (11, [.ref a_p0_rules, .ref a_p0_state, .ref a_p0_tape, .ref a_p0_reader, .ref a_p0_kitchen, .ref a_p0_luck, .ref a_p0_plans, .ref a_p0_coups, .ref a_p0_past, .ref a_p0_fairDays, .ref a_p0_images, .ref a_p0_imageHeld, .ref a_p0_sheets, .int i_p0_latestFault, .int i_p0_latestTear])), (a_p0_state, .inr (8, [.ref a_p0_state_pieces, .ref a_p0_state_friends, .ref a_p0_state_spoons, .ref a_p0_state_eaten, .ref a_p0_state_seen, .int i_p0_state_seenDays, .int i_p0_state_bone, .int i_p0_state_king, .int i_p0_state_days])), (a_p0_state_seen, .inl (G 1, 6, .inl v_p0_state_seen)), (a_p0_kitchen, .inr (2, [.ref a_p0_rules, .ref a_p0_state, .ref a_p0_kitchen_places, .ref a_p0_kitchen_holders, .ref a_p0_kitchen_stirred])), (a_p0_past, .inr (4, [.ref a_p0_kitchen, .ref a_p0_past_fitting])), (a_p0_past_fitting, .inl (G 1, 6, .inl v_p0_past_fitting))]) (qcI D G r [(a_p0, .inr (11, [.ref a_p0_rules, .ref a_p0_state, .ref a_p0_tape, .ref a_p0_reader, .ref a_p0_kitchen, .ref a_p0_luck, .ref a_p0_plans, .ref a_p0_coups, .ref a_p0_past, .ref a_p0_fairDays, .ref a_p0_images, .ref a_p0_imageHeld, .ref a_p0_sheets, .int i_p0_latestFault, .int i_p0_latestTear])), (a_p0_state, .inr (8, [.ref a_p0_state_pieces, .ref a_p0_state_friends, .ref a_p0_state_spoons, .ref a_p0_state_eaten, .ref a_p0_state_seen, .int i_p0_state_seenDays, .int i_p0_state_bone, .int i_p0_state_king, .int i_p0_state_days])), (a_p0_state_seen, .inl (G 1, 6, .inl v_p0_state_seen)), (a_p0_kitchen, .inr (2, [.ref a_p0_rules, .ref a_p0_state, .ref a_p0_kitchen_places, .ref a_p0_kitchen_holders, .ref a_p0_kitchen_stirred])), (a_p0_past, .inr (4, [.ref a_p0_kitchen, .ref a_p0_past_fitting])), (a_p0_past_fitting, .inl (G 1, 6, .inl v_p0_past_fitting))] (va_A [(a_p0, .inr (11, [.ref a_p0_rules, .ref a_p0_state, .ref a_p0_tape, .ref a_p0_reader, .ref a_p0_kitchen, .ref a_p0_luck, .ref a_p0_plans, .ref a_p0_coups, .ref a_p0_past, .ref a_p0_fairDays, .ref a_p0_images, .ref a_p0_imageHeld, .ref a_p0_sheets, .int i_p0_latestFault, .int i_p0_latestTear])), (a_p0_state, .inr (8, [.ref a_p0_state_pieces, .ref a_p0_state_friends, .ref a_p0_state_spoons, .ref a_p0_state_eaten, .ref a_p0_state_seen, .int i_p0_state_seenDays, .int i_p0_state_bone, .int i_p0_state_king, .int i_p0_state_days])), (a_p0_state_seen, .inl (G 1, 6, .inl v_p0_state_seen)), (a_p0_kitchen, .inr (2, [.ref a_p0_rules, .ref a_p0_state, .ref a_p0_kitchen_places, .ref a_p0_kitchen_holders, .ref a_p0_kitchen_stirred])), (a_p0_past, .inr (4, [.ref a_p0_kitchen, .ref a_p0_past_fitting])), (a_p0_past_fitting, .inl (G 1, 6, .inl v_p0_past_fitting))] sz)) 0 0 (va_A [(a_p0, .inr (11, [.ref a_p0_rules, .ref a_p0_state, .ref a_p0_tape, .ref a_p0_reader, .ref a_p0_kitchen, .ref a_p0_luck, .ref a_p0_plans, .ref a_p0_coups, .ref a_p0_past, .ref a_p0_fairDays, .ref a_p0_images, .ref a_p0_imageHeld, .ref a_p0_sheets, .int i_p0_latestFault, .int i_p0_latestTear])), (a_p0_state, .inr (8, [.ref a_p0_state_pieces, .ref a_p0_state_friends, .ref a_p0_state_spoons, .ref a_p0_state_eaten, .ref a_p0_state_seen, .int i_p0_state_seenDays, .int i_p0_state_bone, .int i_p0_state_king, .int i_p0_state_days])), (a_p0_state_seen, .inl (G 1, 6, .inl v_p0_state_seen)), (a_p0_kitchen, .inr (2, [.ref a_p0_rules, .ref a_p0_state, .ref a_p0_kitchen_places, .ref a_p0_kitchen_holders, .ref a_p0_kitchen_stirred])), (a_p0_past, .inr (4, [.ref a_p0_kitchen, .ref a_p0_past_fitting])), (a_p0_past_fitting, .inl (G 1, 6, .inl v_p0_past_fitting))] sz) := by
  refine Met.ofW (cc := cX11_could) (maxL := 2) (ret := (some .int)) (by decide) rfl ?_
  intro p e s m args below meth c s₁ B hml hv
  obtain ⟨rfl, hsz, hP, hK, hD0⟩ := hv
  have hx := B.exec
  have hb := B.bytes
  have hr := B.returns
  have hts := atoms_spec (ws := wsX11_could) B.pre
  have hown : s.vm.findClass RX11 = some m.cls := findClass_of_methodNamed B.named
  have hlocks := B.notSynchronized
  subst hsz
  have hD := hD0.self (sz := s.heap.size)
  generalize hAe : va_A [(a_p0, .inr (11, [.ref a_p0_rules, .ref a_p0_state, .ref a_p0_tape, .ref a_p0_reader, .ref a_p0_kitchen, .ref a_p0_luck, .ref a_p0_plans, .ref a_p0_coups, .ref a_p0_past, .ref a_p0_fairDays, .ref a_p0_images, .ref a_p0_imageHeld, .ref a_p0_sheets, .int i_p0_latestFault, .int i_p0_latestTear])), (a_p0_state, .inr (8, [.ref a_p0_state_pieces, .ref a_p0_state_friends, .ref a_p0_state_spoons, .ref a_p0_state_eaten, .ref a_p0_state_seen, .int i_p0_state_seenDays, .int i_p0_state_bone, .int i_p0_state_king, .int i_p0_state_days])), (a_p0_state_seen, .inl (G 1, 6, .inl v_p0_state_seen)), (a_p0_kitchen, .inr (2, [.ref a_p0_rules, .ref a_p0_state, .ref a_p0_kitchen_places, .ref a_p0_kitchen_holders, .ref a_p0_kitchen_stirred])), (a_p0_past, .inr (4, [.ref a_p0_kitchen, .ref a_p0_past_fitting])), (a_p0_past_fitting, .inl (G 1, 6, .inl v_p0_past_fitting))] s.heap.size = A at hD ⊢
  have hA : ∀ q : Nat, s.heap.size ≤ q → A q := fun q h => by rw [← hAe]; exact Or.inr h
  clear hAe hD0
  have hS : va_S A s.heap s.heap [] := va_S.rf
  have hl := lv_entry ([.ref a_p0, .int x1]) (n := 2) (Nat.le_of_ble_eq_true rfl)
  rw [lg_entry_eq]
  generalize (lg_sl ([.ref a_p0, .int x1]) ++ List.replicate (2 - (lg_sl ([.ref a_p0, .int x1])).length) Slot.unset).toArray = ls at hl ⊢
  have hl : lv_has ls 2 [(0, .ref a_p0), (1, .int x1)] := hl
  refine W_nameQ (fun Q hQ => ?_)
  obtain ⟨H, hH⟩ : ∃ H, H = s.heap := ⟨_, rfl⟩
  replace hS : va_S A s.heap H [] := by rw [hH]; exact hS
  replace hP : va_P D vwCl [(a_p0, .inr (11, [.ref a_p0_rules, .ref a_p0_state, .ref a_p0_tape, .ref a_p0_reader, .ref a_p0_kitchen, .ref a_p0_luck, .ref a_p0_plans, .ref a_p0_coups, .ref a_p0_past, .ref a_p0_fairDays, .ref a_p0_images, .ref a_p0_imageHeld, .ref a_p0_sheets, .int i_p0_latestFault, .int i_p0_latestTear])), (a_p0_state, .inr (8, [.ref a_p0_state_pieces, .ref a_p0_state_friends, .ref a_p0_state_spoons, .ref a_p0_state_eaten, .ref a_p0_state_seen, .int i_p0_state_seenDays, .int i_p0_state_bone, .int i_p0_state_king, .int i_p0_state_days])), (a_p0_state_seen, .inl (G 1, 6, .inl v_p0_state_seen)), (a_p0_kitchen, .inr (2, [.ref a_p0_rules, .ref a_p0_state, .ref a_p0_kitchen_places, .ref a_p0_kitchen_holders, .ref a_p0_kitchen_stirred])), (a_p0_past, .inr (4, [.ref a_p0_kitchen, .ref a_p0_past_fitting])), (a_p0_past_fitting, .inl (G 1, 6, .inl v_p0_past_fitting))] H := by rw [hH]; exact hP
  rw [← hH]
  clear hH
  unfold f_X11_could at hf
  refine lv_iload_n hx hb dX11_could_0 rfl (lv_at hl 1 rfl) ?_
  refine lv_if_lt (tgt := 15) hx hb dX11_could_1 (by decide) (fun cc => ?_) (fun cc => ?_)
  ·
    replace hf := ite_t cc hf
    clear cc
    refine lv_iconst (v := (-1 : Int32)) hx hb dX11_could_15 (by decide) ?_
    obtain rfl := ou1 hf
    rw [hQ]
    exact W.iret hx hb hr (fun t ht hW => ⟨⟨_, (), rfl, rfl, by rw [ht]; exact hP, va_K.moved hW.alike hK, hD⟩, hS.F ht⟩) hS.2.2 dX11_could_16
  ·
    replace hf := ite_f cc hf
    clear cc
    refine lv_iload_n hx hb dX11_could_4 rfl (lv_at hl 1 rfl) ?_
    refine lv_aload_n hx hb dX11_could_5 rfl (lv_at hl 0 rfl) ?_
    refine va_get (D := D) (ci := 11) (v := .ref a_p0_state) (C := RX11) (T := TX11) (N := 15) hx hb hts inX11_could_X11 hown hK hP 0 rfl rfl 1 (by decide) (hts _ mwX11_could_1) (fun _ h9 => h9) rfl dX11_could_6 ?_
    refine va_get (D := D) (ci := 8) (v := .int i_p0_state_seenDays) (C := RX8) (T := TX8) (N := 9) hx hb hts inX11_could_X8 hown hK hP 1 rfl rfl 5 (by decide) (hts _ mwX11_could_3) (fun _ h9 => h9) rfl dX11_could_9 ?_
    refine lv_icmp_lt (tgt := 17) hx hb dX11_could_12 (by decide) (fun cc => ?_) (fun cc => ?_)
    ·
      replace hf := ite_t cc hf
      clear cc
      refine lv_aload_n hx hb dX11_could_17 rfl (lv_at hl 0 rfl) ?_
      refine va_get (D := D) (ci := 11) (v := .ref a_p0_past) (C := RX11) (T := TX11) (N := 15) hx hb hts inX11_could_X11 hown hK hP 0 rfl rfl 8 (by decide) (hts _ mwX11_could_4) (fun _ h9 => h9) rfl dX11_could_18 ?_
      refine lv_iload_n hx hb dX11_could_21 rfl (lv_at hl 1 rfl) ?_
      have hq := bd1_s hf
      clear hf
      obtain ⟨z1, hcall, hf⟩ := hq
      refine gcI (ws' := [(a_p0, .inr (11, [.ref a_p0_rules, .ref a_p0_state, .ref a_p0_tape, .ref a_p0_reader, .ref a_p0_kitchen, .ref a_p0_luck, .ref a_p0_plans, .ref a_p0_coups, .ref a_p0_past, .ref a_p0_fairDays, .ref a_p0_images, .ref a_p0_imageHeld, .ref a_p0_sheets, .int i_p0_latestFault, .int i_p0_latestTear])), (a_p0_state, .inr (8, [.ref a_p0_state_pieces, .ref a_p0_state_friends, .ref a_p0_state_spoons, .ref a_p0_state_eaten, .ref a_p0_state_seen, .int i_p0_state_seenDays, .int i_p0_state_bone, .int i_p0_state_king, .int i_p0_state_days])), (a_p0_state_seen, .inl (G 1, 6, .inl v_p0_state_seen)), (a_p0_kitchen, .inr (2, [.ref a_p0_rules, .ref a_p0_state, .ref a_p0_kitchen_places, .ref a_p0_kitchen_holders, .ref a_p0_kitchen_stirred])), (a_p0_past, .inr (4, [.ref a_p0_kitchen, .ref a_p0_past_fitting])), (a_p0_past_fitting, .inl (G 1, 6, .inl v_p0_past_fitting))]) (va_runV (As := [.int x1]) (rest := []) ⟨hx, hb, hml, hown, hts⟩ (c_X4_stirsOfDay (l := l) (D := D) (G := G) (sz := H.size) (a_p0 := a_p0_past) (a_p0_kitchen := a_p0_kitchen) (a_p0_fitting := a_p0_past_fitting) (a_p0_kitchen_rules := a_p0_rules) (a_p0_kitchen_state := a_p0_state) (a_p0_kitchen_places := a_p0_kitchen_places) (a_p0_kitchen_holders := a_p0_kitchen_holders) (a_p0_kitchen_stirred := a_p0_kitchen_stirred) (a_p0_kitchen_state_pieces := a_p0_state_pieces) (a_p0_kitchen_state_friends := a_p0_state_friends) (a_p0_kitchen_state_spoons := a_p0_state_spoons) (a_p0_kitchen_state_eaten := a_p0_state_eaten) (a_p0_kitchen_state_seen := a_p0_state_seen) (i_p0_kitchen_state_seenDays := i_p0_state_seenDays) (i_p0_kitchen_state_bone := i_p0_state_bone) (i_p0_kitchen_state_king := i_p0_state_king) (i_p0_kitchen_state_days := i_p0_state_days) (v_p0_kitchen_state_seen := v_p0_state_seen) (v_p0_fitting := v_p0_past_fitting) (x1 := x1) (r := z1) (hf := hcall)) (cwV 1 hts gX11_could_X4_stirsOfDay rfl rfl rfl (by decide +kernel) ⟨Nat.le_of_ble_eq_true rfl, Nat.le_of_ble_eq_true rfl⟩) (preG_V (ci := 4) (hP.sub [4, 3, 1, 2, 5] rfl) (hD.sub [4, 3, 1, 2, 5] rfl rfl) hK rfl rfl) rfl rfl hl.1 rfl (lv_room (Nat.le_of_ble_eq_true rfl)) dX11_could_22 ⟨Nat.le_of_ble_eq_true rfl, Nat.le_of_ble_eq_true rfl⟩) hP hD hS hA [4, 3, 1, 2, 5] [0] [0, 3, 4, 2, 1, 5] rfl rfl rfl (by decide) rfl rfl rfl (fun H locs hP hD hS => ?_)
      clear hcall
      obtain rfl := ou1 hf
      rw [hQ]
      exact W.iret hx hb hr (fun t ht hW => ⟨⟨_, (), rfl, rfl, by rw [ht]; exact hP, va_K.moved hW.alike hK, hD⟩, hS.F ht⟩) hS.2.2 dX11_could_25
    ·
      replace hf := ite_f cc hf
      clear cc
      refine lv_iconst (v := (-1 : Int32)) hx hb dX11_could_15 (by decide) ?_
      obtain rfl := ou1 hf
      rw [hQ]
      exact W.iret hx hb hr (fun t ht hW => ⟨⟨_, (), rfl, rfl, by rw [ht]; exact hP, va_K.moved hW.alike hK, hD⟩, hS.F ht⟩) hS.2.2 dX11_could_16

noncomputable def f_X11_blind (i_p0_rules_seats : Int32) (v_p0_luck_finds : (Nat → Int64)) (x1 : Int32) (x2 : Int32) (x3 : Int32) : Option (Int64 × (Nat → Int64)) := (if x2 < (1 : Int32) then (some ((-1 : Int64), v_p0_luck_finds)) else (if (12 : Int32) < x2 then (some ((-1 : Int64), v_p0_luck_finds)) else (if x1 < 0 then (some ((-1 : Int64), v_p0_luck_finds)) else (if x2 < x1 then (some ((-1 : Int64), v_p0_luck_finds)) else (bd1 (f_X11_isPart x3) (fun (z1 : Int32) => (if z1 = 0 then (some ((-1 : Int64), v_p0_luck_finds)) else (bd2 (f_X3_triesWithFinds i_p0_rules_seats v_p0_luck_finds x1 x2) (fun (z2 : Int64) (w3 : (Nat → Int64)) => (bd1 (f_X3_power i_p0_rules_seats x2) (fun (z4 : Int64) => (bd1 (f_X3_part z2 z4 x3) (fun (z5 : Int64) => (some (z5, w3)))))))))))))))
abbrev rm_X11_blind : Room := { frames := 2, cells := 0, slots := 0, locals := 56 }
theorem mwX11_blind_0 : Cond.constantLong RX11 202 (-1) ∈ wsX11_blind := by decide +kernel
theorem inX11_blind_X11 : ∀ w ∈ wsX110, w ∈ wsX11_blind := by decide +kernel
theorem mwX11_blind_2 : Cond.fieldLink RX11 53 "LadleKings" "luck" "LLadleKings$Luck;" ∈ wsX11_blind := by decide +kernel
theorem mwX11_blind_3 : Cond.fieldLink RX11 10 "LadleKings" "rules" "LLadleKings$Rules;" ∈ wsX11_blind := by decide +kernel
theorem inX11_blind_X6 : ∀ w ∈ wsX60, w ∈ wsX11_blind := by decide +kernel
theorem mwX11_blind_5 : Cond.fieldLink RX11 130 "LadleKings$Rules" "seats" "I" ∈ wsX11_blind := by decide +kernel
set_option maxHeartbeats 8000000 in
set_option maxRecDepth 100000 in
theorem c_X11_blind (l : Launch) (D : va_G) (G : Nat → ClassId) (sz : Nat) (a_p0 : Nat) (a_p0_rules : Nat) (a_p0_state : Nat) (a_p0_tape : Nat) (a_p0_reader : Nat) (a_p0_kitchen : Nat) (a_p0_luck : Nat) (a_p0_plans : Nat) (a_p0_coups : Nat) (a_p0_past : Nat) (a_p0_fairDays : Nat) (a_p0_images : Nat) (a_p0_imageHeld : Nat) (a_p0_sheets : Nat) (a_p0_rules_need : Nat) (a_p0_rules_kind : Nat) (a_p0_rules_first : Nat) (a_p0_rules_second : Nat) (a_p0_rules_after : Nat) (a_p0_kitchen_places : Nat) (a_p0_kitchen_holders : Nat) (a_p0_kitchen_stirred : Nat) (a_p0_luck_rows : Nat) (a_p0_luck_later : Nat) (a_p0_luck_finds : Nat) (i_p0_latestFault : Int32) (i_p0_latestTear : Int32) (i_p0_rules_seats : Int32) (i_p0_rules_stirs : Int32) (v_p0_luck_finds : (Nat → Int64)) (x1 : Int32) (x2 : Int32) (x3 : Int32) (r : Int64) (o_v_p0_luck_finds : (Nat → Int64)) (hf : f_X11_blind i_p0_rules_seats v_p0_luck_finds x1 x2 x3 = some (r, o_v_p0_luck_finds)) : Met l yX11_blind wsX11_blind rm_X11_blind (pcG D G [.ref a_p0, .int x1, .int x2, .int x3] sz [(a_p0, .inr (11, [.ref a_p0_rules, .ref a_p0_state, .ref a_p0_tape, .ref a_p0_reader, .ref a_p0_kitchen, .ref a_p0_luck, .ref a_p0_plans, .ref a_p0_coups, .ref a_p0_past, .ref a_p0_fairDays, .ref a_p0_images, .ref a_p0_imageHeld, .ref a_p0_sheets, .int i_p0_latestFault, .int i_p0_latestTear])), (a_p0_rules, .inr (6, [.int i_p0_rules_seats, .int i_p0_rules_stirs, .ref a_p0_rules_need, .ref a_p0_rules_kind, .ref a_p0_rules_first, .ref a_p0_rules_second, .ref a_p0_rules_after])), (a_p0_kitchen, .inr (2, [.ref a_p0_rules, .ref a_p0_state, .ref a_p0_kitchen_places, .ref a_p0_kitchen_holders, .ref a_p0_kitchen_stirred])), (a_p0_luck, .inr (3, [.ref a_p0_kitchen, .ref a_p0_luck_rows, .ref a_p0_luck_later, .ref a_p0_luck_finds])), (a_p0_luck_finds, .inl (G 2, 13, .inr (.inl v_p0_luck_finds)))]) (qcL D G r [(a_p0, .inr (11, [.ref a_p0_rules, .ref a_p0_state, .ref a_p0_tape, .ref a_p0_reader, .ref a_p0_kitchen, .ref a_p0_luck, .ref a_p0_plans, .ref a_p0_coups, .ref a_p0_past, .ref a_p0_fairDays, .ref a_p0_images, .ref a_p0_imageHeld, .ref a_p0_sheets, .int i_p0_latestFault, .int i_p0_latestTear])), (a_p0_rules, .inr (6, [.int i_p0_rules_seats, .int i_p0_rules_stirs, .ref a_p0_rules_need, .ref a_p0_rules_kind, .ref a_p0_rules_first, .ref a_p0_rules_second, .ref a_p0_rules_after])), (a_p0_kitchen, .inr (2, [.ref a_p0_rules, .ref a_p0_state, .ref a_p0_kitchen_places, .ref a_p0_kitchen_holders, .ref a_p0_kitchen_stirred])), (a_p0_luck, .inr (3, [.ref a_p0_kitchen, .ref a_p0_luck_rows, .ref a_p0_luck_later, .ref a_p0_luck_finds])), (a_p0_luck_finds, .inl (G 2, 13, .inr (.inl o_v_p0_luck_finds)))] (va_A [(a_p0, .inr (11, [.ref a_p0_rules, .ref a_p0_state, .ref a_p0_tape, .ref a_p0_reader, .ref a_p0_kitchen, .ref a_p0_luck, .ref a_p0_plans, .ref a_p0_coups, .ref a_p0_past, .ref a_p0_fairDays, .ref a_p0_images, .ref a_p0_imageHeld, .ref a_p0_sheets, .int i_p0_latestFault, .int i_p0_latestTear])), (a_p0_rules, .inr (6, [.int i_p0_rules_seats, .int i_p0_rules_stirs, .ref a_p0_rules_need, .ref a_p0_rules_kind, .ref a_p0_rules_first, .ref a_p0_rules_second, .ref a_p0_rules_after])), (a_p0_kitchen, .inr (2, [.ref a_p0_rules, .ref a_p0_state, .ref a_p0_kitchen_places, .ref a_p0_kitchen_holders, .ref a_p0_kitchen_stirred])), (a_p0_luck, .inr (3, [.ref a_p0_kitchen, .ref a_p0_luck_rows, .ref a_p0_luck_later, .ref a_p0_luck_finds])), (a_p0_luck_finds, .inl (G 2, 13, .inr (.inl v_p0_luck_finds)))] sz)) 0 0 (va_A [(a_p0, .inr (11, [.ref a_p0_rules, .ref a_p0_state, .ref a_p0_tape, .ref a_p0_reader, .ref a_p0_kitchen, .ref a_p0_luck, .ref a_p0_plans, .ref a_p0_coups, .ref a_p0_past, .ref a_p0_fairDays, .ref a_p0_images, .ref a_p0_imageHeld, .ref a_p0_sheets, .int i_p0_latestFault, .int i_p0_latestTear])), (a_p0_rules, .inr (6, [.int i_p0_rules_seats, .int i_p0_rules_stirs, .ref a_p0_rules_need, .ref a_p0_rules_kind, .ref a_p0_rules_first, .ref a_p0_rules_second, .ref a_p0_rules_after])), (a_p0_kitchen, .inr (2, [.ref a_p0_rules, .ref a_p0_state, .ref a_p0_kitchen_places, .ref a_p0_kitchen_holders, .ref a_p0_kitchen_stirred])), (a_p0_luck, .inr (3, [.ref a_p0_kitchen, .ref a_p0_luck_rows, .ref a_p0_luck_later, .ref a_p0_luck_finds])), (a_p0_luck_finds, .inl (G 2, 13, .inr (.inl v_p0_luck_finds)))] sz) := by
  refine Met.ofW (cc := cX11_blind) (maxL := 4) (ret := (some .long)) (by decide) rfl ?_
  intro p e s m args below meth c s₁ B hml hv
  obtain ⟨rfl, hsz, hP, hK, hD0⟩ := hv
  have hx := B.exec
  have hb := B.bytes
  have hr := B.returns
  have hts := atoms_spec (ws := wsX11_blind) B.pre
  have hown : s.vm.findClass RX11 = some m.cls := findClass_of_methodNamed B.named
  have hlocks := B.notSynchronized
  subst hsz
  have hD := hD0.self (sz := s.heap.size)
  generalize hAe : va_A [(a_p0, .inr (11, [.ref a_p0_rules, .ref a_p0_state, .ref a_p0_tape, .ref a_p0_reader, .ref a_p0_kitchen, .ref a_p0_luck, .ref a_p0_plans, .ref a_p0_coups, .ref a_p0_past, .ref a_p0_fairDays, .ref a_p0_images, .ref a_p0_imageHeld, .ref a_p0_sheets, .int i_p0_latestFault, .int i_p0_latestTear])), (a_p0_rules, .inr (6, [.int i_p0_rules_seats, .int i_p0_rules_stirs, .ref a_p0_rules_need, .ref a_p0_rules_kind, .ref a_p0_rules_first, .ref a_p0_rules_second, .ref a_p0_rules_after])), (a_p0_kitchen, .inr (2, [.ref a_p0_rules, .ref a_p0_state, .ref a_p0_kitchen_places, .ref a_p0_kitchen_holders, .ref a_p0_kitchen_stirred])), (a_p0_luck, .inr (3, [.ref a_p0_kitchen, .ref a_p0_luck_rows, .ref a_p0_luck_later, .ref a_p0_luck_finds])), (a_p0_luck_finds, .inl (G 2, 13, .inr (.inl v_p0_luck_finds)))] s.heap.size = A at hD ⊢
  have hA : ∀ q : Nat, s.heap.size ≤ q → A q := fun q h => by rw [← hAe]; exact Or.inr h
  clear hAe hD0
  have hS : va_S A s.heap s.heap [] := va_S.rf
  have hl := lv_entry ([.ref a_p0, .int x1, .int x2, .int x3]) (n := 4) (Nat.le_of_ble_eq_true rfl)
  rw [lg_entry_eq]
  generalize (lg_sl ([.ref a_p0, .int x1, .int x2, .int x3]) ++ List.replicate (4 - (lg_sl ([.ref a_p0, .int x1, .int x2, .int x3])).length) Slot.unset).toArray = ls at hl ⊢
  have hl : lv_has ls 4 [(0, .ref a_p0), (1, .int x1), (2, .int x2), (3, .int x3)] := hl
  refine W_nameQ (fun Q hQ => ?_)
  obtain ⟨H, hH⟩ : ∃ H, H = s.heap := ⟨_, rfl⟩
  replace hS : va_S A s.heap H [] := by rw [hH]; exact hS
  replace hP : va_P D vwCl [(a_p0, .inr (11, [.ref a_p0_rules, .ref a_p0_state, .ref a_p0_tape, .ref a_p0_reader, .ref a_p0_kitchen, .ref a_p0_luck, .ref a_p0_plans, .ref a_p0_coups, .ref a_p0_past, .ref a_p0_fairDays, .ref a_p0_images, .ref a_p0_imageHeld, .ref a_p0_sheets, .int i_p0_latestFault, .int i_p0_latestTear])), (a_p0_rules, .inr (6, [.int i_p0_rules_seats, .int i_p0_rules_stirs, .ref a_p0_rules_need, .ref a_p0_rules_kind, .ref a_p0_rules_first, .ref a_p0_rules_second, .ref a_p0_rules_after])), (a_p0_kitchen, .inr (2, [.ref a_p0_rules, .ref a_p0_state, .ref a_p0_kitchen_places, .ref a_p0_kitchen_holders, .ref a_p0_kitchen_stirred])), (a_p0_luck, .inr (3, [.ref a_p0_kitchen, .ref a_p0_luck_rows, .ref a_p0_luck_later, .ref a_p0_luck_finds])), (a_p0_luck_finds, .inl (G 2, 13, .inr (.inl v_p0_luck_finds)))] H := by rw [hH]; exact hP
  rw [← hH]
  clear hH
  unfold f_X11_blind at hf
  refine lv_iload_n hx hb dX11_blind_0 rfl (lv_at hl 2 rfl) ?_
  refine lv_iconst (v := (1 : Int32)) hx hb dX11_blind_1 (by decide) ?_
  refine lv_icmp_lt (tgt := 27) hx hb dX11_blind_2 (by decide) (fun cc => ?_) (fun cc => ?_)
  ·
    replace hf := ite_t cc hf
    clear cc
    refine lv_ldc2 (v := (-1 : Int64)) hx hb hown (hts _ mwX11_blind_0) dX11_blind_27 ?_
    obtain ⟨rfl, rfl⟩ := ou2 hf
    rw [hQ]
    exact W.lret hx hb hr (fun t ht hW => ⟨⟨_, (), rfl, rfl, by rw [ht]; exact hP, va_K.moved hW.alike hK, hD⟩, hS.F ht⟩) hS.2.2 dX11_blind_30
  ·
    replace hf := ite_f cc hf
    clear cc
    refine lv_iload_n hx hb dX11_blind_5 rfl (lv_at hl 2 rfl) ?_
    refine lv_bipush (v := (12 : Int32)) hx hb dX11_blind_6 (by decide) ?_
    refine lv_icmp_gt (tgt := 27) hx hb dX11_blind_8 (by decide) (fun cc => ?_) (fun cc => ?_)
    ·
      replace hf := ite_t cc hf
      clear cc
      refine lv_ldc2 (v := (-1 : Int64)) hx hb hown (hts _ mwX11_blind_0) dX11_blind_27 ?_
      obtain ⟨rfl, rfl⟩ := ou2 hf
      rw [hQ]
      exact W.lret hx hb hr (fun t ht hW => ⟨⟨_, (), rfl, rfl, by rw [ht]; exact hP, va_K.moved hW.alike hK, hD⟩, hS.F ht⟩) hS.2.2 dX11_blind_30
    ·
      replace hf := ite_f cc hf
      clear cc
      refine lv_iload_n hx hb dX11_blind_11 rfl (lv_at hl 1 rfl) ?_
      refine lv_if_lt (tgt := 27) hx hb dX11_blind_12 (by decide) (fun cc => ?_) (fun cc => ?_)
      ·
        replace hf := ite_t cc hf
        clear cc
        refine lv_ldc2 (v := (-1 : Int64)) hx hb hown (hts _ mwX11_blind_0) dX11_blind_27 ?_
        obtain ⟨rfl, rfl⟩ := ou2 hf
        rw [hQ]
        exact W.lret hx hb hr (fun t ht hW => ⟨⟨_, (), rfl, rfl, by rw [ht]; exact hP, va_K.moved hW.alike hK, hD⟩, hS.F ht⟩) hS.2.2 dX11_blind_30
      ·
        replace hf := ite_f cc hf
        clear cc
        refine lv_iload_n hx hb dX11_blind_15 rfl (lv_at hl 1 rfl) ?_
        refine lv_iload_n hx hb dX11_blind_16 rfl (lv_at hl 2 rfl) ?_
        refine lv_icmp_gt (tgt := 27) hx hb dX11_blind_17 (by decide) (fun cc => ?_) (fun cc => ?_)
        ·
          replace hf := ite_t cc hf
          clear cc
          refine lv_ldc2 (v := (-1 : Int64)) hx hb hown (hts _ mwX11_blind_0) dX11_blind_27 ?_
          obtain ⟨rfl, rfl⟩ := ou2 hf
          rw [hQ]
          exact W.lret hx hb hr (fun t ht hW => ⟨⟨_, (), rfl, rfl, by rw [ht]; exact hP, va_K.moved hW.alike hK, hD⟩, hS.F ht⟩) hS.2.2 dX11_blind_30
        ·
          replace hf := ite_f cc hf
          clear cc
          refine lv_iload_n hx hb dX11_blind_20 rfl (lv_at hl 3 rfl) ?_
          have hq := bd1_s hf
          clear hf
          obtain ⟨z1, hcall, hf⟩ := hq
          refine gcI (ws' := [(a_p0, .inr (11, [.ref a_p0_rules, .ref a_p0_state, .ref a_p0_tape, .ref a_p0_reader, .ref a_p0_kitchen, .ref a_p0_luck, .ref a_p0_plans, .ref a_p0_coups, .ref a_p0_past, .ref a_p0_fairDays, .ref a_p0_images, .ref a_p0_imageHeld, .ref a_p0_sheets, .int i_p0_latestFault, .int i_p0_latestTear])), (a_p0_rules, .inr (6, [.int i_p0_rules_seats, .int i_p0_rules_stirs, .ref a_p0_rules_need, .ref a_p0_rules_kind, .ref a_p0_rules_first, .ref a_p0_rules_second, .ref a_p0_rules_after])), (a_p0_kitchen, .inr (2, [.ref a_p0_rules, .ref a_p0_state, .ref a_p0_kitchen_places, .ref a_p0_kitchen_holders, .ref a_p0_kitchen_stirred])), (a_p0_luck, .inr (3, [.ref a_p0_kitchen, .ref a_p0_luck_rows, .ref a_p0_luck_later, .ref a_p0_luck_finds])), (a_p0_luck_finds, .inl (G 2, 13, .inr (.inl v_p0_luck_finds)))]) (va_runS (As := [.int x3]) (rest := []) ⟨hx, hb, hml, hown, hts⟩ (c_X11_isPart (l := l) (D := D) (G := G) (sz := H.size) (x0 := x3) (r := z1) (hf := hcall)) (va_cwS 1 hts gX11_blind_X11_isPart rfl rfl rfl (by decide +kernel) ⟨Nat.le_of_ble_eq_true rfl, Nat.le_of_ble_eq_true rfl⟩) (preG_S (hP.sub [] rfl) (hD.sub [] rfl rfl) hK) rfl rfl hl.1 rfl (lv_room (Nat.le_of_ble_eq_true rfl)) dX11_blind_21 ⟨Nat.le_of_ble_eq_true rfl, Nat.le_of_ble_eq_true rfl⟩) hP hD hS hA [] [0, 1, 2, 3, 4] [0, 1, 2, 3, 4] rfl rfl rfl (by decide) rfl rfl rfl (fun H locs hP hD hS => ?_)
          clear hcall
          refine lv_if_ne (tgt := 31) hx hb dX11_blind_24 (by decide) (fun cc => ?_) (fun cc => ?_)
          ·
            replace hf := ite_f cc hf
            clear cc
            refine lv_aload_n hx hb dX11_blind_31 rfl (lv_at hl 0 rfl) ?_
            refine va_get (D := D) (ci := 11) (v := .ref a_p0_luck) (C := RX11) (T := TX11) (N := 15) hx hb hts inX11_blind_X11 hown hK hP 0 rfl rfl 5 (by decide) (hts _ mwX11_blind_2) (fun _ h9 => h9) rfl dX11_blind_32 ?_
            refine lv_iload_n hx hb dX11_blind_35 rfl (lv_at hl 1 rfl) ?_
            refine lv_iload_n hx hb dX11_blind_36 rfl (lv_at hl 2 rfl) ?_
            have hq := bd2_s hf
            clear hf
            obtain ⟨z2, w3, hcall, hf⟩ := hq
            refine gcL (ws' := [(a_p0, .inr (11, [.ref a_p0_rules, .ref a_p0_state, .ref a_p0_tape, .ref a_p0_reader, .ref a_p0_kitchen, .ref a_p0_luck, .ref a_p0_plans, .ref a_p0_coups, .ref a_p0_past, .ref a_p0_fairDays, .ref a_p0_images, .ref a_p0_imageHeld, .ref a_p0_sheets, .int i_p0_latestFault, .int i_p0_latestTear])), (a_p0_rules, .inr (6, [.int i_p0_rules_seats, .int i_p0_rules_stirs, .ref a_p0_rules_need, .ref a_p0_rules_kind, .ref a_p0_rules_first, .ref a_p0_rules_second, .ref a_p0_rules_after])), (a_p0_kitchen, .inr (2, [.ref a_p0_rules, .ref a_p0_state, .ref a_p0_kitchen_places, .ref a_p0_kitchen_holders, .ref a_p0_kitchen_stirred])), (a_p0_luck, .inr (3, [.ref a_p0_kitchen, .ref a_p0_luck_rows, .ref a_p0_luck_later, .ref a_p0_luck_finds])), (a_p0_luck_finds, .inl (G 2, 13, .inr (.inl w3)))]) (va_runV (As := [.int x1, .int x2]) (rest := []) ⟨hx, hb, hml, hown, hts⟩ (c_X3_triesWithFinds (l := l) (D := D) (G := G) (sz := H.size) (a_p0 := a_p0_luck) (a_p0_kitchen := a_p0_kitchen) (a_p0_rows := a_p0_luck_rows) (a_p0_later := a_p0_luck_later) (a_p0_finds := a_p0_luck_finds) (a_p0_kitchen_rules := a_p0_rules) (a_p0_kitchen_state := a_p0_state) (a_p0_kitchen_places := a_p0_kitchen_places) (a_p0_kitchen_holders := a_p0_kitchen_holders) (a_p0_kitchen_stirred := a_p0_kitchen_stirred) (a_p0_kitchen_rules_need := a_p0_rules_need) (a_p0_kitchen_rules_kind := a_p0_rules_kind) (a_p0_kitchen_rules_first := a_p0_rules_first) (a_p0_kitchen_rules_second := a_p0_rules_second) (a_p0_kitchen_rules_after := a_p0_rules_after) (i_p0_kitchen_rules_seats := i_p0_rules_seats) (i_p0_kitchen_rules_stirs := i_p0_rules_stirs) (v_p0_finds := v_p0_luck_finds) (x1 := x1) (x2 := x2) (r := z2) (o_v_p0_finds := w3) (hf := hcall)) (cwV 2 hts gX11_blind_X3_triesWithFinds rfl rfl rfl (by decide +kernel) ⟨Nat.le_of_ble_eq_true rfl, Nat.le_of_ble_eq_true rfl⟩) (preG_V (ci := 3) (hP.sub [3, 2, 1, 4] rfl) (hD.sub [3, 2, 1, 4] rfl rfl) hK rfl rfl) rfl rfl hl.1 rfl (lv_room (Nat.le_of_ble_eq_true rfl)) dX11_blind_37 ⟨Nat.le_of_ble_eq_true rfl, Nat.le_of_ble_eq_true rfl⟩) hP hD hS hA [3, 2, 1, 4] [0] [0, 3, 2, 1, 4] rfl rfl rfl (by decide) rfl rfl rfl (fun H locs hP hD hS => ?_)
            clear hcall
            refine lv_aload_n hx hb dX11_blind_40 rfl (lv_at hl 0 rfl) ?_
            refine va_get (D := D) (ci := 11) (v := .ref a_p0_rules) (C := RX11) (T := TX11) (N := 15) hx hb hts inX11_blind_X11 hown hK hP 0 rfl rfl 0 (by decide) (hts _ mwX11_blind_3) (fun _ h9 => h9) rfl dX11_blind_41 ?_
            refine va_get (D := D) (ci := 6) (v := .int i_p0_rules_seats) (C := RX6) (T := TX6) (N := 7) hx hb hts inX11_blind_X6 hown hK hP 1 rfl rfl 0 (by decide) (hts _ mwX11_blind_5) (fun _ h9 => h9) rfl dX11_blind_44 ?_
            refine lv_iload_n hx hb dX11_blind_47 rfl (lv_at hl 2 rfl) ?_
            have hq := bd1_s hf
            clear hf
            obtain ⟨z4, hcall, hf⟩ := hq
            refine gcL (ws' := [(a_p0, .inr (11, [.ref a_p0_rules, .ref a_p0_state, .ref a_p0_tape, .ref a_p0_reader, .ref a_p0_kitchen, .ref a_p0_luck, .ref a_p0_plans, .ref a_p0_coups, .ref a_p0_past, .ref a_p0_fairDays, .ref a_p0_images, .ref a_p0_imageHeld, .ref a_p0_sheets, .int i_p0_latestFault, .int i_p0_latestTear])), (a_p0_rules, .inr (6, [.int i_p0_rules_seats, .int i_p0_rules_stirs, .ref a_p0_rules_need, .ref a_p0_rules_kind, .ref a_p0_rules_first, .ref a_p0_rules_second, .ref a_p0_rules_after])), (a_p0_kitchen, .inr (2, [.ref a_p0_rules, .ref a_p0_state, .ref a_p0_kitchen_places, .ref a_p0_kitchen_holders, .ref a_p0_kitchen_stirred])), (a_p0_luck, .inr (3, [.ref a_p0_kitchen, .ref a_p0_luck_rows, .ref a_p0_luck_later, .ref a_p0_luck_finds])), (a_p0_luck_finds, .inl (G 2, 13, .inr (.inl w3)))]) (va_runS (As := [.int i_p0_rules_seats, .int x2]) (rest := [.long z2]) ⟨hx, hb, hml, hown, hts⟩ (c_X3_power (l := l) (D := D) (G := G) (sz := H.size) (x0 := i_p0_rules_seats) (x1 := x2) (r := z4) (hf := hcall)) (va_cwS 2 hts gX11_blind_X3_power rfl rfl rfl (by decide +kernel) ⟨Nat.le_of_ble_eq_true rfl, Nat.le_of_ble_eq_true rfl⟩) (preG_S (hP.sub [] rfl) (hD.sub [] rfl rfl) hK) rfl rfl hl.1 rfl (lv_room (Nat.le_of_ble_eq_true rfl)) dX11_blind_48 ⟨Nat.le_of_ble_eq_true rfl, Nat.le_of_ble_eq_true rfl⟩) hP hD hS hA [] [0, 1, 2, 3, 4] [0, 1, 2, 3, 4] rfl rfl rfl (by decide) rfl rfl rfl (fun H locs hP hD hS => ?_)
            clear hcall
            refine lv_iload_n hx hb dX11_blind_51 rfl (lv_at hl 3 rfl) ?_
            have hq := bd1_s hf
            clear hf
            obtain ⟨z5, hcall, hf⟩ := hq
            refine gcL (ws' := [(a_p0, .inr (11, [.ref a_p0_rules, .ref a_p0_state, .ref a_p0_tape, .ref a_p0_reader, .ref a_p0_kitchen, .ref a_p0_luck, .ref a_p0_plans, .ref a_p0_coups, .ref a_p0_past, .ref a_p0_fairDays, .ref a_p0_images, .ref a_p0_imageHeld, .ref a_p0_sheets, .int i_p0_latestFault, .int i_p0_latestTear])), (a_p0_rules, .inr (6, [.int i_p0_rules_seats, .int i_p0_rules_stirs, .ref a_p0_rules_need, .ref a_p0_rules_kind, .ref a_p0_rules_first, .ref a_p0_rules_second, .ref a_p0_rules_after])), (a_p0_kitchen, .inr (2, [.ref a_p0_rules, .ref a_p0_state, .ref a_p0_kitchen_places, .ref a_p0_kitchen_holders, .ref a_p0_kitchen_stirred])), (a_p0_luck, .inr (3, [.ref a_p0_kitchen, .ref a_p0_luck_rows, .ref a_p0_luck_later, .ref a_p0_luck_finds])), (a_p0_luck_finds, .inl (G 2, 13, .inr (.inl w3)))]) (va_runS (As := [.long z2, .long z4, .int x3]) (rest := []) ⟨hx, hb, hml, hown, hts⟩ (c_X3_part (l := l) (D := D) (G := G) (sz := H.size) (x0 := z2) (x2 := z4) (x4 := x3) (r := z5) (hf := hcall)) (va_cwS 3 hts gX11_blind_X3_part rfl rfl rfl (by decide +kernel) ⟨Nat.le_of_ble_eq_true rfl, Nat.le_of_ble_eq_true rfl⟩) (preG_S (hP.sub [] rfl) (hD.sub [] rfl rfl) hK) rfl rfl hl.1 rfl (lv_room (Nat.le_of_ble_eq_true rfl)) dX11_blind_52 ⟨Nat.le_of_ble_eq_true rfl, Nat.le_of_ble_eq_true rfl⟩) hP hD hS hA [] [0, 1, 2, 3, 4] [0, 1, 2, 3, 4] rfl rfl rfl (by decide) rfl rfl rfl (fun H locs hP hD hS => ?_)
            clear hcall
            obtain ⟨rfl, rfl⟩ := ou2 hf
            rw [hQ]
            exact W.lret hx hb hr (fun t ht hW => ⟨⟨_, (), rfl, rfl, by rw [ht]; exact hP, va_K.moved hW.alike hK, hD⟩, hS.F ht⟩) hS.2.2 dX11_blind_55
          ·
            replace hf := ite_t cc hf
            clear cc
            refine lv_ldc2 (v := (-1 : Int64)) hx hb hown (hts _ mwX11_blind_0) dX11_blind_27 ?_
            obtain ⟨rfl, rfl⟩ := ou2 hf
            rw [hQ]
            exact W.lret hx hb hr (fun t ht hW => ⟨⟨_, (), rfl, rfl, by rw [ht]; exact hP, va_K.moved hW.alike hK, hD⟩, hS.F ht⟩) hS.2.2 dX11_blind_30

noncomputable def f_X11_fair (i_p0_rules_stirs : Int32) (x1 : Int32) (x2 : Int32) : Option (Int32) := (if x1 < (1 : Int32) then (some (-1 : Int32)) else (if (4 : Int32) < x1 then (some (-1 : Int32)) else (bd1 (f_X11_isRowQuestion x2 (4 : Int32)) (fun (z1 : Int32) => (if z1 = 0 then (some (-1 : Int32)) else (if i_p0_rules_stirs = 0 then (some (-2 : Int32)) else (if x2 < ((10 : Int32) + x1) then none else (some (-4 : Int32)))))))))
abbrev rm_X11_fair : Room := { frames := 1, cells := 0, slots := 0, locals := 21 }
theorem inX11_fair_X11 : ∀ w ∈ wsX110, w ∈ wsX11_fair := by decide +kernel
theorem mwX11_fair_1 : Cond.fieldLink RX11 10 "LadleKings" "rules" "LLadleKings$Rules;" ∈ wsX11_fair := by decide +kernel
theorem inX11_fair_X6 : ∀ w ∈ wsX60, w ∈ wsX11_fair := by decide +kernel
theorem mwX11_fair_3 : Cond.fieldLink RX11 133 "LadleKings$Rules" "stirs" "I" ∈ wsX11_fair := by decide +kernel
theorem mwX11_fair_4 : Cond.fieldLink RX11 81 "LadleKings" "fairDays" "LLadleKings$FairDays;" ∈ wsX11_fair := by decide +kernel
set_option maxHeartbeats 8000000 in
set_option maxRecDepth 100000 in
theorem c_X11_fair (l : Launch) (D : va_G) (G : Nat → ClassId) (sz : Nat) (a_p0 : Nat) (a_p0_rules : Nat) (a_p0_state : Nat) (a_p0_tape : Nat) (a_p0_reader : Nat) (a_p0_kitchen : Nat) (a_p0_luck : Nat) (a_p0_plans : Nat) (a_p0_coups : Nat) (a_p0_past : Nat) (a_p0_fairDays : Nat) (a_p0_images : Nat) (a_p0_imageHeld : Nat) (a_p0_sheets : Nat) (a_p0_rules_need : Nat) (a_p0_rules_kind : Nat) (a_p0_rules_first : Nat) (a_p0_rules_second : Nat) (a_p0_rules_after : Nat) (i_p0_latestFault : Int32) (i_p0_latestTear : Int32) (i_p0_rules_seats : Int32) (i_p0_rules_stirs : Int32) (x1 : Int32) (x2 : Int32) (r : Int32) (hf : f_X11_fair i_p0_rules_stirs x1 x2 = some r) : Met l yX11_fair wsX11_fair rm_X11_fair (pcG D G [.ref a_p0, .int x1, .int x2] sz [(a_p0, .inr (11, [.ref a_p0_rules, .ref a_p0_state, .ref a_p0_tape, .ref a_p0_reader, .ref a_p0_kitchen, .ref a_p0_luck, .ref a_p0_plans, .ref a_p0_coups, .ref a_p0_past, .ref a_p0_fairDays, .ref a_p0_images, .ref a_p0_imageHeld, .ref a_p0_sheets, .int i_p0_latestFault, .int i_p0_latestTear])), (a_p0_rules, .inr (6, [.int i_p0_rules_seats, .int i_p0_rules_stirs, .ref a_p0_rules_need, .ref a_p0_rules_kind, .ref a_p0_rules_first, .ref a_p0_rules_second, .ref a_p0_rules_after]))]) (qcI D G r [(a_p0, .inr (11, [.ref a_p0_rules, .ref a_p0_state, .ref a_p0_tape, .ref a_p0_reader, .ref a_p0_kitchen, .ref a_p0_luck, .ref a_p0_plans, .ref a_p0_coups, .ref a_p0_past, .ref a_p0_fairDays, .ref a_p0_images, .ref a_p0_imageHeld, .ref a_p0_sheets, .int i_p0_latestFault, .int i_p0_latestTear])), (a_p0_rules, .inr (6, [.int i_p0_rules_seats, .int i_p0_rules_stirs, .ref a_p0_rules_need, .ref a_p0_rules_kind, .ref a_p0_rules_first, .ref a_p0_rules_second, .ref a_p0_rules_after]))] (va_A [(a_p0, .inr (11, [.ref a_p0_rules, .ref a_p0_state, .ref a_p0_tape, .ref a_p0_reader, .ref a_p0_kitchen, .ref a_p0_luck, .ref a_p0_plans, .ref a_p0_coups, .ref a_p0_past, .ref a_p0_fairDays, .ref a_p0_images, .ref a_p0_imageHeld, .ref a_p0_sheets, .int i_p0_latestFault, .int i_p0_latestTear])), (a_p0_rules, .inr (6, [.int i_p0_rules_seats, .int i_p0_rules_stirs, .ref a_p0_rules_need, .ref a_p0_rules_kind, .ref a_p0_rules_first, .ref a_p0_rules_second, .ref a_p0_rules_after]))] sz)) 0 0 (va_A [(a_p0, .inr (11, [.ref a_p0_rules, .ref a_p0_state, .ref a_p0_tape, .ref a_p0_reader, .ref a_p0_kitchen, .ref a_p0_luck, .ref a_p0_plans, .ref a_p0_coups, .ref a_p0_past, .ref a_p0_fairDays, .ref a_p0_images, .ref a_p0_imageHeld, .ref a_p0_sheets, .int i_p0_latestFault, .int i_p0_latestTear])), (a_p0_rules, .inr (6, [.int i_p0_rules_seats, .int i_p0_rules_stirs, .ref a_p0_rules_need, .ref a_p0_rules_kind, .ref a_p0_rules_first, .ref a_p0_rules_second, .ref a_p0_rules_after]))] sz) := by
  refine Met.ofW (cc := cX11_fair) (maxL := 4) (ret := (some .int)) (by decide) rfl ?_
  intro p e s m args below meth c s₁ B hml hv
  obtain ⟨rfl, hsz, hP, hK, hD0⟩ := hv
  have hx := B.exec
  have hb := B.bytes
  have hr := B.returns
  have hts := atoms_spec (ws := wsX11_fair) B.pre
  have hown : s.vm.findClass RX11 = some m.cls := findClass_of_methodNamed B.named
  have hlocks := B.notSynchronized
  subst hsz
  have hD := hD0.self (sz := s.heap.size)
  generalize hAe : va_A [(a_p0, .inr (11, [.ref a_p0_rules, .ref a_p0_state, .ref a_p0_tape, .ref a_p0_reader, .ref a_p0_kitchen, .ref a_p0_luck, .ref a_p0_plans, .ref a_p0_coups, .ref a_p0_past, .ref a_p0_fairDays, .ref a_p0_images, .ref a_p0_imageHeld, .ref a_p0_sheets, .int i_p0_latestFault, .int i_p0_latestTear])), (a_p0_rules, .inr (6, [.int i_p0_rules_seats, .int i_p0_rules_stirs, .ref a_p0_rules_need, .ref a_p0_rules_kind, .ref a_p0_rules_first, .ref a_p0_rules_second, .ref a_p0_rules_after]))] s.heap.size = A at hD ⊢
  have hA : ∀ q : Nat, s.heap.size ≤ q → A q := fun q h => by rw [← hAe]; exact Or.inr h
  clear hAe hD0
  have hS : va_S A s.heap s.heap [] := va_S.rf
  have hl := lv_entry ([.ref a_p0, .int x1, .int x2]) (n := 4) (Nat.le_of_ble_eq_true rfl)
  rw [lg_entry_eq]
  generalize (lg_sl ([.ref a_p0, .int x1, .int x2]) ++ List.replicate (4 - (lg_sl ([.ref a_p0, .int x1, .int x2])).length) Slot.unset).toArray = ls at hl ⊢
  have hl : lv_has ls 4 [(0, .ref a_p0), (1, .int x1), (2, .int x2)] := hl
  refine W_nameQ (fun Q hQ => ?_)
  obtain ⟨H, hH⟩ : ∃ H, H = s.heap := ⟨_, rfl⟩
  replace hS : va_S A s.heap H [] := by rw [hH]; exact hS
  replace hP : va_P D vwCl [(a_p0, .inr (11, [.ref a_p0_rules, .ref a_p0_state, .ref a_p0_tape, .ref a_p0_reader, .ref a_p0_kitchen, .ref a_p0_luck, .ref a_p0_plans, .ref a_p0_coups, .ref a_p0_past, .ref a_p0_fairDays, .ref a_p0_images, .ref a_p0_imageHeld, .ref a_p0_sheets, .int i_p0_latestFault, .int i_p0_latestTear])), (a_p0_rules, .inr (6, [.int i_p0_rules_seats, .int i_p0_rules_stirs, .ref a_p0_rules_need, .ref a_p0_rules_kind, .ref a_p0_rules_first, .ref a_p0_rules_second, .ref a_p0_rules_after]))] H := by rw [hH]; exact hP
  rw [← hH]
  clear hH
  unfold f_X11_fair at hf
  refine lv_iload_n hx hb dX11_fair_0 rfl (lv_at hl 1 rfl) ?_
  refine lv_iconst (v := (1 : Int32)) hx hb dX11_fair_1 (by decide) ?_
  refine lv_icmp_lt (tgt := 18) hx hb dX11_fair_2 (by decide) (fun cc => ?_) (fun cc => ?_)
  ·
    replace hf := ite_t cc hf
    clear cc
    refine lv_iconst (v := (-1 : Int32)) hx hb dX11_fair_18 (by decide) ?_
    obtain rfl := ou1 hf
    rw [hQ]
    exact W.iret hx hb hr (fun t ht hW => ⟨⟨_, (), rfl, rfl, by rw [ht]; exact hP, va_K.moved hW.alike hK, hD⟩, hS.F ht⟩) hS.2.2 dX11_fair_19
  ·
    replace hf := ite_f cc hf
    clear cc
    refine lv_iload_n hx hb dX11_fair_5 rfl (lv_at hl 1 rfl) ?_
    refine lv_iconst (v := (4 : Int32)) hx hb dX11_fair_6 (by decide) ?_
    refine lv_icmp_gt (tgt := 18) hx hb dX11_fair_7 (by decide) (fun cc => ?_) (fun cc => ?_)
    ·
      replace hf := ite_t cc hf
      clear cc
      refine lv_iconst (v := (-1 : Int32)) hx hb dX11_fair_18 (by decide) ?_
      obtain rfl := ou1 hf
      rw [hQ]
      exact W.iret hx hb hr (fun t ht hW => ⟨⟨_, (), rfl, rfl, by rw [ht]; exact hP, va_K.moved hW.alike hK, hD⟩, hS.F ht⟩) hS.2.2 dX11_fair_19
    ·
      replace hf := ite_f cc hf
      clear cc
      refine lv_iload_n hx hb dX11_fair_10 rfl (lv_at hl 2 rfl) ?_
      refine lv_iconst (v := (4 : Int32)) hx hb dX11_fair_11 (by decide) ?_
      have hq := bd1_s hf
      clear hf
      obtain ⟨z1, hcall, hf⟩ := hq
      refine gcI (ws' := [(a_p0, .inr (11, [.ref a_p0_rules, .ref a_p0_state, .ref a_p0_tape, .ref a_p0_reader, .ref a_p0_kitchen, .ref a_p0_luck, .ref a_p0_plans, .ref a_p0_coups, .ref a_p0_past, .ref a_p0_fairDays, .ref a_p0_images, .ref a_p0_imageHeld, .ref a_p0_sheets, .int i_p0_latestFault, .int i_p0_latestTear])), (a_p0_rules, .inr (6, [.int i_p0_rules_seats, .int i_p0_rules_stirs, .ref a_p0_rules_need, .ref a_p0_rules_kind, .ref a_p0_rules_first, .ref a_p0_rules_second, .ref a_p0_rules_after]))]) (va_runS (As := [.int x2, .int (4 : Int32)]) (rest := []) ⟨hx, hb, hml, hown, hts⟩ (c_X11_isRowQuestion (l := l) (D := D) (G := G) (sz := H.size) (x0 := x2) (x1 := (4 : Int32)) (r := z1) (hf := hcall)) (va_cwS 2 hts gX11_fair_X11_isRowQuestion rfl rfl rfl (by decide +kernel) ⟨Nat.le_of_ble_eq_true rfl, Nat.le_of_ble_eq_true rfl⟩) (preG_S (hP.sub [] rfl) (hD.sub [] rfl rfl) hK) rfl rfl hl.1 rfl (lv_room (Nat.le_of_ble_eq_true rfl)) dX11_fair_12 ⟨Nat.le_of_ble_eq_true rfl, Nat.le_of_ble_eq_true rfl⟩) hP hD hS hA [] [0, 1] [0, 1] rfl rfl rfl (by decide) rfl rfl rfl (fun H locs hP hD hS => ?_)
      clear hcall
      refine lv_if_ne (tgt := 20) hx hb dX11_fair_15 (by decide) (fun cc => ?_) (fun cc => ?_)
      ·
        replace hf := ite_f cc hf
        clear cc
        refine lv_aload_n hx hb dX11_fair_20 rfl (lv_at hl 0 rfl) ?_
        refine va_get (D := D) (ci := 11) (v := .ref a_p0_rules) (C := RX11) (T := TX11) (N := 15) hx hb hts inX11_fair_X11 hown hK hP 0 rfl rfl 0 (by decide) (hts _ mwX11_fair_1) (fun _ h9 => h9) rfl dX11_fair_21 ?_
        refine va_get (D := D) (ci := 6) (v := .int i_p0_rules_stirs) (C := RX6) (T := TX6) (N := 7) hx hb hts inX11_fair_X6 hown hK hP 1 rfl rfl 1 (by decide) (hts _ mwX11_fair_3) (fun _ h9 => h9) rfl dX11_fair_24 ?_
        refine lv_if_ne (tgt := 33) hx hb dX11_fair_27 (by decide) (fun cc => ?_) (fun cc => ?_)
        ·
          replace hf := ite_f cc hf
          clear cc
          refine lv_iload_n hx hb dX11_fair_33 rfl (lv_at hl 2 rfl) ?_
          refine lv_bipush (v := (10 : Int32)) hx hb dX11_fair_34 (by decide) ?_
          refine lv_iload_n hx hb dX11_fair_36 rfl (lv_at hl 1 rfl) ?_
          refine lv_iadd hx hb dX11_fair_37 ?_
          refine lv_icmp_lt (tgt := 44) hx hb dX11_fair_38 (by decide) (fun cc => ?_) (fun cc => ?_)
          ·
            replace hf := ite_t cc hf
            clear cc
            refine lv_aload_n hx hb dX11_fair_44 rfl (lv_at hl 0 rfl) ?_
            refine va_get (D := D) (ci := 11) (v := .ref a_p0_fairDays) (C := RX11) (T := TX11) (N := 15) hx hb hts inX11_fair_X11 hown hK hP 0 rfl rfl 9 (by decide) (hts _ mwX11_fair_4) (fun _ h9 => h9) rfl dX11_fair_45 ?_
            refine lv_iload_n hx hb dX11_fair_48 rfl (lv_at hl 1 rfl) ?_
            cases hf
          ·
            replace hf := ite_f cc hf
            clear cc
            refine lv_bipush (v := (-4 : Int32)) hx hb dX11_fair_41 (by decide) ?_
            obtain rfl := ou1 hf
            rw [hQ]
            exact W.iret hx hb hr (fun t ht hW => ⟨⟨_, (), rfl, rfl, by rw [ht]; exact hP, va_K.moved hW.alike hK, hD⟩, hS.F ht⟩) hS.2.2 dX11_fair_43
        ·
          replace hf := ite_t cc hf
          clear cc
          refine lv_bipush (v := (-2 : Int32)) hx hb dX11_fair_30 (by decide) ?_
          obtain rfl := ou1 hf
          rw [hQ]
          exact W.iret hx hb hr (fun t ht hW => ⟨⟨_, (), rfl, rfl, by rw [ht]; exact hP, va_K.moved hW.alike hK, hD⟩, hS.F ht⟩) hS.2.2 dX11_fair_32
      ·
        replace hf := ite_t cc hf
        clear cc
        refine lv_iconst (v := (-1 : Int32)) hx hb dX11_fair_18 (by decide) ?_
        obtain rfl := ou1 hf
        rw [hQ]
        exact W.iret hx hb hr (fun t ht hW => ⟨⟨_, (), rfl, rfl, by rw [ht]; exact hP, va_K.moved hW.alike hK, hD⟩, hS.F ht⟩) hS.2.2 dX11_fair_19

noncomputable def f_X11_isImage (x0 : Int32) : Option (Int32) := (if x0 < 0 then (some (0 : Int32)) else (if (2 : Int32) ≤ x0 then (some (0 : Int32)) else (some (1 : Int32))))
abbrev rm_X11_isImage : Room := { frames := 0, cells := 0, slots := 0, locals := 0 }
set_option maxHeartbeats 8000000 in
set_option maxRecDepth 100000 in
theorem c_X11_isImage (l : Launch) (D : va_G) (G : Nat → ClassId) (sz : Nat) (x0 : Int32) (r : Int32) (hf : f_X11_isImage x0 = some r) : Met l yX11_isImage wsX11_isImage rm_X11_isImage (pcG D G [.int x0] sz []) (qcI D G r [] (va_A [] sz)) 0 0 (va_A [] sz) := by
  refine Met.ofW (cc := cX11_isImage) (maxL := 1) (ret := (some .boolean)) (by decide) rfl ?_
  intro p e s m args below meth c s₁ B hml hv
  obtain ⟨rfl, hsz, hP, hK, hD0⟩ := hv
  have hx := B.exec
  have hb := B.bytes
  have hr := B.returns
  have hts := atoms_spec (ws := wsX11_isImage) B.pre
  have hown : s.vm.findClass RX11 = some m.cls := findClass_of_methodNamed B.named
  have hlocks := B.notSynchronized
  subst hsz
  have hD := hD0.self (sz := s.heap.size)
  generalize hAe : va_A [] s.heap.size = A at hD ⊢
  have hA : ∀ q : Nat, s.heap.size ≤ q → A q := fun q h => by rw [← hAe]; exact Or.inr h
  clear hAe hD0
  have hS : va_S A s.heap s.heap [] := va_S.rf
  have hl := lv_entry ([.int x0]) (n := 1) (Nat.le_of_ble_eq_true rfl)
  rw [lg_entry_eq]
  generalize (lg_sl ([.int x0]) ++ List.replicate (1 - (lg_sl ([.int x0])).length) Slot.unset).toArray = ls at hl ⊢
  have hl : lv_has ls 1 [(0, .int x0)] := hl
  refine W_nameQ (fun Q hQ => ?_)
  obtain ⟨H, hH⟩ : ∃ H, H = s.heap := ⟨_, rfl⟩
  replace hS : va_S A s.heap H [] := by rw [hH]; exact hS
  replace hP : va_P D vwCl [] H := by rw [hH]; exact hP
  rw [← hH]
  clear hH
  unfold f_X11_isImage at hf
  refine lv_iload_n hx hb dX11_isImage_0 rfl (lv_at hl 0 rfl) ?_
  refine lv_if_lt (tgt := 13) hx hb dX11_isImage_1 (by decide) (fun cc => ?_) (fun cc => ?_)
  ·
    replace hf := ite_t cc hf
    clear cc
    refine lv_iconst (v := (0 : Int32)) hx hb dX11_isImage_13 (by decide) ?_
    obtain rfl := ou1 hf
    rw [hQ]
    exact W.zret hx hb hr rfl (fun t ht hW => ⟨⟨_, (), rfl, rfl, by rw [ht]; exact hP, va_K.moved hW.alike hK, hD⟩, hS.F ht⟩) hS.2.2 dX11_isImage_14
  ·
    replace hf := ite_f cc hf
    clear cc
    refine lv_iload_n hx hb dX11_isImage_4 rfl (lv_at hl 0 rfl) ?_
    refine lv_iconst (v := (2 : Int32)) hx hb dX11_isImage_5 (by decide) ?_
    refine lv_icmp_ge (tgt := 13) hx hb dX11_isImage_6 (by decide) (fun cc => ?_) (fun cc => ?_)
    ·
      replace hf := ite_t cc hf
      clear cc
      refine lv_iconst (v := (0 : Int32)) hx hb dX11_isImage_13 (by decide) ?_
      obtain rfl := ou1 hf
      rw [hQ]
      exact W.zret hx hb hr rfl (fun t ht hW => ⟨⟨_, (), rfl, rfl, by rw [ht]; exact hP, va_K.moved hW.alike hK, hD⟩, hS.F ht⟩) hS.2.2 dX11_isImage_14
    ·
      replace hf := ite_f cc hf
      clear cc
      refine lv_iconst (v := (1 : Int32)) hx hb dX11_isImage_9 (by decide) ?_
      refine lv_goto (tgt := 14) hx hb dX11_isImage_10 (by decide) ?_
      obtain rfl := ou1 hf
      rw [hQ]
      exact W.zret hx hb hr rfl (fun t ht hW => ⟨⟨_, (), rfl, rfl, by rw [ht]; exact hP, va_K.moved hW.alike hK, hD⟩, hS.F ht⟩) hS.2.2 dX11_isImage_14
